-- ===== PART A: goes FIRST, ahead of the names: the tables' words, and 'selects' of the private methods out of them =====
theorem tq9_1 : ∀ w ∈ tables_1_1, w ∈ tables_1 := fun w h => List.mem_append_left _ (h)
theorem tq9_2 : ∀ w ∈ tables_1_2, w ∈ tables_1 := fun w h => List.mem_append_right _ (List.mem_append_left _ (h))
theorem tq9_3 : ∀ w ∈ tables_1_3, w ∈ tables_1 := fun w h => List.mem_append_right _ (List.mem_append_right _ (List.mem_append_left _ (h)))
theorem tq9_4 : ∀ w ∈ tables_1_4, w ∈ tables_1 := fun w h => List.mem_append_right _ (List.mem_append_right _ (List.mem_append_right _ (List.mem_append_left _ (h))))
theorem tq9_5 : ∀ w ∈ tables_1_5, w ∈ tables_1 := fun w h => List.mem_append_right _ (List.mem_append_right _ (List.mem_append_right _ (List.mem_append_right _ (List.mem_append_left _ (h)))))
theorem tq9_6 : ∀ w ∈ tables_1_6, w ∈ tables_1 := fun w h => List.mem_append_right _ (List.mem_append_right _ (List.mem_append_right _ (List.mem_append_right _ (List.mem_append_right _ (List.mem_append_left _ (h))))))
theorem tq9_7 : ∀ w ∈ tables_1_7, w ∈ tables_1 := fun w h => List.mem_append_right _ (List.mem_append_right _ (List.mem_append_right _ (List.mem_append_right _ (List.mem_append_right _ (List.mem_append_right _ (List.mem_append_left _ (h)))))))
theorem tq9_8 : ∀ w ∈ tables_1_8, w ∈ tables_1 := fun w h => List.mem_append_right _ (List.mem_append_right _ (List.mem_append_right _ (List.mem_append_right _ (List.mem_append_right _ (List.mem_append_right _ (List.mem_append_right _ (List.mem_append_left _ (h))))))))
theorem tq9_9 : ∀ w ∈ tables_1_9, w ∈ tables_1 := fun w h => List.mem_append_right _ (List.mem_append_right _ (List.mem_append_right _ (List.mem_append_right _ (List.mem_append_right _ (List.mem_append_right _ (List.mem_append_right _ (List.mem_append_right _ (List.mem_append_left _ (h)))))))))
theorem tq9_10 : ∀ w ∈ tables_1_10, w ∈ tables_1 := fun w h => List.mem_append_right _ (List.mem_append_right _ (List.mem_append_right _ (List.mem_append_right _ (List.mem_append_right _ (List.mem_append_right _ (List.mem_append_right _ (List.mem_append_right _ (List.mem_append_right _ (h)))))))))
/-- a private method of a class that the tables say can be made, by its rows of tables_1 -/
def lw_okq (q : MethodName × Nat) : Prop := (q.1.cls ≠ "java/lang/invoke/MethodHandle" ∧ q.1.cls ≠ "java/lang/invoke/VarHandle") ∧ Cond.instantiable q.1.cls q.2 ∈ tables_1 ∧ Cond.privateMethod q.1 ∈ tables_1 ∧ Cond.instanceMethod q.1 ∈ tables_1
theorem lw_p0 : lw_okq (⟨"WiringHouse$Tape", "cut", "()V"⟩, 12) := ⟨⟨by decide +kernel, by decide +kernel⟩, tq9_1 _ (List.mem_of_getElem? (i := 36) (by decide +kernel)), tq9_3 _ (List.mem_of_getElem? (i := 136) (by decide +kernel)), tq9_3 _ (List.mem_of_getElem? (i := 137) (by decide +kernel))⟩
theorem lw_p1 : lw_okq (⟨"WiringHouse$Tape", "cutNumber", "()V"⟩, 12) := ⟨⟨by decide +kernel, by decide +kernel⟩, tq9_1 _ (List.mem_of_getElem? (i := 36) (by decide +kernel)), tq9_3 _ (List.mem_of_getElem? (i := 140) (by decide +kernel)), tq9_3 _ (List.mem_of_getElem? (i := 141) (by decide +kernel))⟩
theorem lw_p2 : lw_okq (⟨"WiringHouse$Tape", "cutWord", "()V"⟩, 12) := ⟨⟨by decide +kernel, by decide +kernel⟩, tq9_1 _ (List.mem_of_getElem? (i := 36) (by decide +kernel)), tq9_3 _ (List.mem_of_getElem? (i := 149) (by decide +kernel)), tq9_3 _ (List.mem_of_getElem? (i := 150) (by decide +kernel))⟩
theorem lw_p3 : lw_okq (⟨"WiringHouse$Tape", "kindOf", "(J)I"⟩, 12) := ⟨⟨by decide +kernel, by decide +kernel⟩, tq9_1 _ (List.mem_of_getElem? (i := 36) (by decide +kernel)), tq9_3 _ (List.mem_of_getElem? (i := 153) (by decide +kernel)), tq9_3 _ (List.mem_of_getElem? (i := 154) (by decide +kernel))⟩
theorem lw_p4 : lw_okq (⟨"WiringHouse$BookReader", "readStatement", "()Z"⟩, 9) := ⟨⟨by decide +kernel, by decide +kernel⟩, tq9_1 _ (List.mem_of_getElem? (i := 144) (by decide +kernel)), tq9_3 _ (List.mem_of_getElem? (i := 221) (by decide +kernel)), tq9_3 _ (List.mem_of_getElem? (i := 222) (by decide +kernel))⟩
theorem lw_p5 : lw_okq (⟨"WiringHouse$BookReader", "readType", "()Z"⟩, 9) := ⟨⟨by decide +kernel, by decide +kernel⟩, tq9_1 _ (List.mem_of_getElem? (i := 144) (by decide +kernel)), tq9_3 _ (List.mem_of_getElem? (i := 225) (by decide +kernel)), tq9_3 _ (List.mem_of_getElem? (i := 226) (by decide +kernel))⟩
theorem lw_p6 : lw_okq (⟨"WiringHouse$BookReader", "wrong", "(I)Z"⟩, 9) := ⟨⟨by decide +kernel, by decide +kernel⟩, tq9_1 _ (List.mem_of_getElem? (i := 144) (by decide +kernel)), tq9_3 _ (List.mem_of_getElem? (i := 233) (by decide +kernel)), tq9_3 _ (List.mem_of_getElem? (i := 234) (by decide +kernel))⟩
theorem lw_p7 : lw_okq (⟨"WiringHouse$BookReader", "takeNewName", "()Z"⟩, 9) := ⟨⟨by decide +kernel, by decide +kernel⟩, tq9_1 _ (List.mem_of_getElem? (i := 144) (by decide +kernel)), tq9_3 _ (List.mem_of_getElem? (i := 238) (by decide +kernel)), tq9_3 _ (List.mem_of_getElem? (i := 239) (by decide +kernel))⟩
theorem lw_p8 : lw_okq (⟨"WiringHouse$BookReader", "takeTypes", "()Z"⟩, 9) := ⟨⟨by decide +kernel, by decide +kernel⟩, tq9_1 _ (List.mem_of_getElem? (i := 144) (by decide +kernel)), tq9_4 _ (List.mem_of_getElem? (i := 10) (by decide +kernel)), tq9_4 _ (List.mem_of_getElem? (i := 11) (by decide +kernel))⟩
theorem lw_p9 : lw_okq (⟨"WiringHouse$BookReader", "isToldType", "()Z"⟩, 9) := ⟨⟨by decide +kernel, by decide +kernel⟩, tq9_1 _ (List.mem_of_getElem? (i := 144) (by decide +kernel)), tq9_4 _ (List.mem_of_getElem? (i := 14) (by decide +kernel)), tq9_4 _ (List.mem_of_getElem? (i := 15) (by decide +kernel))⟩
theorem lw_p10 : lw_okq (⟨"WiringHouse$BookReader", "take", "(I)Z"⟩, 9) := ⟨⟨by decide +kernel, by decide +kernel⟩, tq9_1 _ (List.mem_of_getElem? (i := 144) (by decide +kernel)), tq9_4 _ (List.mem_of_getElem? (i := 19) (by decide +kernel)), tq9_4 _ (List.mem_of_getElem? (i := 20) (by decide +kernel))⟩
theorem lw_p11 : lw_okq (⟨"WiringHouse$BookReader", "readSetting", "()Z"⟩, 9) := ⟨⟨by decide +kernel, by decide +kernel⟩, tq9_1 _ (List.mem_of_getElem? (i := 144) (by decide +kernel)), tq9_4 _ (List.mem_of_getElem? (i := 27) (by decide +kernel)), tq9_4 _ (List.mem_of_getElem? (i := 28) (by decide +kernel))⟩
theorem lw_p12 : lw_okq (⟨"WiringHouse$BookReader", "takeNumber", "(II)Z"⟩, 9) := ⟨⟨by decide +kernel, by decide +kernel⟩, tq9_1 _ (List.mem_of_getElem? (i := 144) (by decide +kernel)), tq9_4 _ (List.mem_of_getElem? (i := 32) (by decide +kernel)), tq9_4 _ (List.mem_of_getElem? (i := 33) (by decide +kernel))⟩
theorem lw_p13 : lw_okq (⟨"WiringHouse$BookReader", "readComponent", "()Z"⟩, 9) := ⟨⟨by decide +kernel, by decide +kernel⟩, tq9_1 _ (List.mem_of_getElem? (i := 144) (by decide +kernel)), tq9_4 _ (List.mem_of_getElem? (i := 36) (by decide +kernel)), tq9_4 _ (List.mem_of_getElem? (i := 37) (by decide +kernel))⟩
theorem lw_p14 : lw_okq (⟨"WiringHouse$BookReader", "readExtras", "(LWiringHouse$Component;)Z"⟩, 9) := ⟨⟨by decide +kernel, by decide +kernel⟩, tq9_1 _ (List.mem_of_getElem? (i := 144) (by decide +kernel)), tq9_4 _ (List.mem_of_getElem? (i := 45) (by decide +kernel)), tq9_4 _ (List.mem_of_getElem? (i := 46) (by decide +kernel))⟩
theorem lw_p15 : lw_okq (⟨"WiringHouse$BookReader", "takeCalled", "()Z"⟩, 9) := ⟨⟨by decide +kernel, by decide +kernel⟩, tq9_1 _ (List.mem_of_getElem? (i := 144) (by decide +kernel)), tq9_4 _ (List.mem_of_getElem? (i := 49) (by decide +kernel)), tq9_4 _ (List.mem_of_getElem? (i := 50) (by decide +kernel))⟩
def lw_privs_1 : List (MethodName × Nat) := [(⟨"WiringHouse$Tape", "cut", "()V"⟩, 12), (⟨"WiringHouse$Tape", "cutNumber", "()V"⟩, 12), (⟨"WiringHouse$Tape", "cutWord", "()V"⟩, 12), (⟨"WiringHouse$Tape", "kindOf", "(J)I"⟩, 12), (⟨"WiringHouse$BookReader", "readStatement", "()Z"⟩, 9), (⟨"WiringHouse$BookReader", "readType", "()Z"⟩, 9), (⟨"WiringHouse$BookReader", "wrong", "(I)Z"⟩, 9), (⟨"WiringHouse$BookReader", "takeNewName", "()Z"⟩, 9), (⟨"WiringHouse$BookReader", "takeTypes", "()Z"⟩, 9), (⟨"WiringHouse$BookReader", "isToldType", "()Z"⟩, 9), (⟨"WiringHouse$BookReader", "take", "(I)Z"⟩, 9), (⟨"WiringHouse$BookReader", "readSetting", "()Z"⟩, 9), (⟨"WiringHouse$BookReader", "takeNumber", "(II)Z"⟩, 9), (⟨"WiringHouse$BookReader", "readComponent", "()Z"⟩, 9), (⟨"WiringHouse$BookReader", "readExtras", "(LWiringHouse$Component;)Z"⟩, 9), (⟨"WiringHouse$BookReader", "takeCalled", "()Z"⟩, 9)]
theorem lw_r1 : ∀ q ∈ lw_privs_1, lw_okq q := List.forall_mem_cons.mpr ⟨lw_p0, List.forall_mem_cons.mpr ⟨lw_p1, List.forall_mem_cons.mpr ⟨lw_p2, List.forall_mem_cons.mpr ⟨lw_p3, List.forall_mem_cons.mpr ⟨lw_p4, List.forall_mem_cons.mpr ⟨lw_p5, List.forall_mem_cons.mpr ⟨lw_p6, List.forall_mem_cons.mpr ⟨lw_p7, List.forall_mem_cons.mpr ⟨lw_p8, List.forall_mem_cons.mpr ⟨lw_p9, List.forall_mem_cons.mpr ⟨lw_p10, List.forall_mem_cons.mpr ⟨lw_p11, List.forall_mem_cons.mpr ⟨lw_p12, List.forall_mem_cons.mpr ⟨lw_p13, List.forall_mem_cons.mpr ⟨lw_p14, List.forall_mem_cons.mpr ⟨lw_p15, fun _ h => absurd h List.not_mem_nil⟩⟩⟩⟩⟩⟩⟩⟩⟩⟩⟩⟩⟩⟩⟩⟩
theorem lw_p16 : lw_okq (⟨"WiringHouse$BookReader", "takeNumbered", "(LWiringHouse$Names;I)Z"⟩, 9) := ⟨⟨by decide +kernel, by decide +kernel⟩, tq9_1 _ (List.mem_of_getElem? (i := 144) (by decide +kernel)), tq9_4 _ (List.mem_of_getElem? (i := 53) (by decide +kernel)), tq9_4 _ (List.mem_of_getElem? (i := 54) (by decide +kernel))⟩
theorem lw_p17 : lw_okq (⟨"WiringHouse$BookReader", "takeSetting", "()Z"⟩, 9) := ⟨⟨by decide +kernel, by decide +kernel⟩, tq9_1 _ (List.mem_of_getElem? (i := 144) (by decide +kernel)), tq9_4 _ (List.mem_of_getElem? (i := 57) (by decide +kernel)), tq9_4 _ (List.mem_of_getElem? (i := 58) (by decide +kernel))⟩
theorem lw_p18 : lw_okq (⟨"WiringHouse$BookReader", "readWrap", "()Z"⟩, 9) := ⟨⟨by decide +kernel, by decide +kernel⟩, tq9_1 _ (List.mem_of_getElem? (i := 144) (by decide +kernel)), tq9_4 _ (List.mem_of_getElem? (i := 61) (by decide +kernel)), tq9_4 _ (List.mem_of_getElem? (i := 62) (by decide +kernel))⟩
theorem lw_p19 : lw_okq (⟨"WiringHouse$BookReader", "takeMethod", "(LWiringHouse$Component;)Z"⟩, 9) := ⟨⟨by decide +kernel, by decide +kernel⟩, tq9_1 _ (List.mem_of_getElem? (i := 144) (by decide +kernel)), tq9_4 _ (List.mem_of_getElem? (i := 65) (by decide +kernel)), tq9_4 _ (List.mem_of_getElem? (i := 66) (by decide +kernel))⟩
theorem lw_p20 : lw_okq (⟨"WiringHouse$BookReader", "readE", "(I)Z"⟩, 9) := ⟨⟨by decide +kernel, by decide +kernel⟩, tq9_1 _ (List.mem_of_getElem? (i := 144) (by decide +kernel)), tq9_4 _ (List.mem_of_getElem? (i := 73) (by decide +kernel)), tq9_4 _ (List.mem_of_getElem? (i := 74) (by decide +kernel))⟩
theorem lw_p21 : lw_okq (⟨"WiringHouse$BookReader", "readExpression", "(I)Z"⟩, 9) := ⟨⟨by decide +kernel, by decide +kernel⟩, tq9_1 _ (List.mem_of_getElem? (i := 144) (by decide +kernel)), tq9_4 _ (List.mem_of_getElem? (i := 77) (by decide +kernel)), tq9_4 _ (List.mem_of_getElem? (i := 78) (by decide +kernel))⟩
theorem lw_p22 : lw_okq (⟨"WiringHouse$BookReader", "readSum", "(I)Z"⟩, 9) := ⟨⟨by decide +kernel, by decide +kernel⟩, tq9_1 _ (List.mem_of_getElem? (i := 144) (by decide +kernel)), tq9_4 _ (List.mem_of_getElem? (i := 81) (by decide +kernel)), tq9_4 _ (List.mem_of_getElem? (i := 82) (by decide +kernel))⟩
theorem lw_p23 : lw_okq (⟨"WiringHouse$BookReader", "readProduct", "(I)Z"⟩, 9) := ⟨⟨by decide +kernel, by decide +kernel⟩, tq9_1 _ (List.mem_of_getElem? (i := 144) (by decide +kernel)), tq9_4 _ (List.mem_of_getElem? (i := 85) (by decide +kernel)), tq9_4 _ (List.mem_of_getElem? (i := 86) (by decide +kernel))⟩
theorem lw_p24 : lw_okq (⟨"WiringHouse$BookReader", "readPart", "(I)Z"⟩, 9) := ⟨⟨by decide +kernel, by decide +kernel⟩, tq9_1 _ (List.mem_of_getElem? (i := 144) (by decide +kernel)), tq9_4 _ (List.mem_of_getElem? (i := 89) (by decide +kernel)), tq9_4 _ (List.mem_of_getElem? (i := 90) (by decide +kernel))⟩
theorem lw_p25 : lw_okq (⟨"WiringHouse$BookReader", "beginsPart", "()Z"⟩, 9) := ⟨⟨by decide +kernel, by decide +kernel⟩, tq9_1 _ (List.mem_of_getElem? (i := 144) (by decide +kernel)), tq9_4 _ (List.mem_of_getElem? (i := 93) (by decide +kernel)), tq9_4 _ (List.mem_of_getElem? (i := 94) (by decide +kernel))⟩
theorem lw_p26 : lw_okq (⟨"WiringHouse$BookReader", "put", "(II)Z"⟩, 9) := ⟨⟨by decide +kernel, by decide +kernel⟩, tq9_1 _ (List.mem_of_getElem? (i := 144) (by decide +kernel)), tq9_4 _ (List.mem_of_getElem? (i := 101) (by decide +kernel)), tq9_4 _ (List.mem_of_getElem? (i := 102) (by decide +kernel))⟩
theorem lw_p27 : lw_okq (⟨"WiringHouse$BookReader", "putAlone", "(I)Z"⟩, 9) := ⟨⟨by decide +kernel, by decide +kernel⟩, tq9_1 _ (List.mem_of_getElem? (i := 144) (by decide +kernel)), tq9_4 _ (List.mem_of_getElem? (i := 105) (by decide +kernel)), tq9_4 _ (List.mem_of_getElem? (i := 106) (by decide +kernel))⟩
theorem lw_p28 : lw_okq (⟨"WiringHouse$BookReader", "readPick", "(I)Z"⟩, 9) := ⟨⟨by decide +kernel, by decide +kernel⟩, tq9_1 _ (List.mem_of_getElem? (i := 144) (by decide +kernel)), tq9_4 _ (List.mem_of_getElem? (i := 109) (by decide +kernel)), tq9_4 _ (List.mem_of_getElem? (i := 110) (by decide +kernel))⟩
theorem lw_p29 : lw_okq (⟨"WiringHouse$BookReader", "readOf", "(I)Z"⟩, 9) := ⟨⟨by decide +kernel, by decide +kernel⟩, tq9_1 _ (List.mem_of_getElem? (i := 144) (by decide +kernel)), tq9_4 _ (List.mem_of_getElem? (i := 117) (by decide +kernel)), tq9_4 _ (List.mem_of_getElem? (i := 118) (by decide +kernel))⟩
theorem lw_p30 : lw_okq (⟨"WiringHouse$BookReader", "readWithin", "(I)Z"⟩, 9) := ⟨⟨by decide +kernel, by decide +kernel⟩, tq9_1 _ (List.mem_of_getElem? (i := 144) (by decide +kernel)), tq9_4 _ (List.mem_of_getElem? (i := 121) (by decide +kernel)), tq9_4 _ (List.mem_of_getElem? (i := 122) (by decide +kernel))⟩
theorem lw_p31 : lw_okq (⟨"WiringHouse$BookReader", "readMember", "()Z"⟩, 9) := ⟨⟨by decide +kernel, by decide +kernel⟩, tq9_1 _ (List.mem_of_getElem? (i := 144) (by decide +kernel)), tq9_4 _ (List.mem_of_getElem? (i := 129) (by decide +kernel)), tq9_4 _ (List.mem_of_getElem? (i := 130) (by decide +kernel))⟩
def lw_privs_2 : List (MethodName × Nat) := [(⟨"WiringHouse$BookReader", "takeNumbered", "(LWiringHouse$Names;I)Z"⟩, 9), (⟨"WiringHouse$BookReader", "takeSetting", "()Z"⟩, 9), (⟨"WiringHouse$BookReader", "readWrap", "()Z"⟩, 9), (⟨"WiringHouse$BookReader", "takeMethod", "(LWiringHouse$Component;)Z"⟩, 9), (⟨"WiringHouse$BookReader", "readE", "(I)Z"⟩, 9), (⟨"WiringHouse$BookReader", "readExpression", "(I)Z"⟩, 9), (⟨"WiringHouse$BookReader", "readSum", "(I)Z"⟩, 9), (⟨"WiringHouse$BookReader", "readProduct", "(I)Z"⟩, 9), (⟨"WiringHouse$BookReader", "readPart", "(I)Z"⟩, 9), (⟨"WiringHouse$BookReader", "beginsPart", "()Z"⟩, 9), (⟨"WiringHouse$BookReader", "put", "(II)Z"⟩, 9), (⟨"WiringHouse$BookReader", "putAlone", "(I)Z"⟩, 9), (⟨"WiringHouse$BookReader", "readPick", "(I)Z"⟩, 9), (⟨"WiringHouse$BookReader", "readOf", "(I)Z"⟩, 9), (⟨"WiringHouse$BookReader", "readWithin", "(I)Z"⟩, 9), (⟨"WiringHouse$BookReader", "readMember", "()Z"⟩, 9)]
theorem lw_r2 : ∀ q ∈ lw_privs_2, lw_okq q := List.forall_mem_cons.mpr ⟨lw_p16, List.forall_mem_cons.mpr ⟨lw_p17, List.forall_mem_cons.mpr ⟨lw_p18, List.forall_mem_cons.mpr ⟨lw_p19, List.forall_mem_cons.mpr ⟨lw_p20, List.forall_mem_cons.mpr ⟨lw_p21, List.forall_mem_cons.mpr ⟨lw_p22, List.forall_mem_cons.mpr ⟨lw_p23, List.forall_mem_cons.mpr ⟨lw_p24, List.forall_mem_cons.mpr ⟨lw_p25, List.forall_mem_cons.mpr ⟨lw_p26, List.forall_mem_cons.mpr ⟨lw_p27, List.forall_mem_cons.mpr ⟨lw_p28, List.forall_mem_cons.mpr ⟨lw_p29, List.forall_mem_cons.mpr ⟨lw_p30, List.forall_mem_cons.mpr ⟨lw_p31, fun _ h => absurd h List.not_mem_nil⟩⟩⟩⟩⟩⟩⟩⟩⟩⟩⟩⟩⟩⟩⟩⟩
theorem lw_p32 : lw_okq (⟨"WiringHouse$BookReader", "readNeed", "()Z"⟩, 9) := ⟨⟨by decide +kernel, by decide +kernel⟩, tq9_1 _ (List.mem_of_getElem? (i := 144) (by decide +kernel)), tq9_4 _ (List.mem_of_getElem? (i := 133) (by decide +kernel)), tq9_4 _ (List.mem_of_getElem? (i := 134) (by decide +kernel))⟩
theorem lw_p33 : lw_okq (⟨"WiringHouse$BookReader", "readMethod", "()Z"⟩, 9) := ⟨⟨by decide +kernel, by decide +kernel⟩, tq9_1 _ (List.mem_of_getElem? (i := 144) (by decide +kernel)), tq9_4 _ (List.mem_of_getElem? (i := 141) (by decide +kernel)), tq9_4 _ (List.mem_of_getElem? (i := 142) (by decide +kernel))⟩
theorem lw_p34 : lw_okq (⟨"WiringHouse$Checker", "examineNeeds", "(I)V"⟩, 8) := ⟨⟨by decide +kernel, by decide +kernel⟩, tq9_1 _ (List.mem_of_getElem? (i := 178) (by decide +kernel)), tq9_4 _ (List.mem_of_getElem? (i := 199) (by decide +kernel)), tq9_4 _ (List.mem_of_getElem? (i := 200) (by decide +kernel))⟩
theorem lw_p35 : lw_okq (⟨"WiringHouse$Checker", "faultOf", "(II)I"⟩, 8) := ⟨⟨by decide +kernel, by decide +kernel⟩, tq9_1 _ (List.mem_of_getElem? (i := 178) (by decide +kernel)), tq9_4 _ (List.mem_of_getElem? (i := 203) (by decide +kernel)), tq9_4 _ (List.mem_of_getElem? (i := 204) (by decide +kernel))⟩
theorem lw_p36 : lw_okq (⟨"WiringHouse$Checker", "hasShorter", "(II)Z"⟩, 8) := ⟨⟨by decide +kernel, by decide +kernel⟩, tq9_1 _ (List.mem_of_getElem? (i := 178) (by decide +kernel)), tq9_4 _ (List.mem_of_getElem? (i := 218) (by decide +kernel)), tq9_4 _ (List.mem_of_getElem? (i := 219) (by decide +kernel))⟩
theorem lw_p37 : lw_okq (⟨"WiringHouse$Checker", "note", "(III)V"⟩, 8) := ⟨⟨by decide +kernel, by decide +kernel⟩, tq9_1 _ (List.mem_of_getElem? (i := 178) (by decide +kernel)), tq9_4 _ (List.mem_of_getElem? (i := 222) (by decide +kernel)), tq9_4 _ (List.mem_of_getElem? (i := 223) (by decide +kernel))⟩
theorem lw_p38 : lw_okq (⟨"WiringHouse$Checker", "follow", "(II)V"⟩, 8) := ⟨⟨by decide +kernel, by decide +kernel⟩, tq9_1 _ (List.mem_of_getElem? (i := 178) (by decide +kernel)), tq9_4 _ (List.mem_of_getElem? (i := 227) (by decide +kernel)), tq9_4 _ (List.mem_of_getElem? (i := 228) (by decide +kernel))⟩
theorem lw_p39 : lw_okq (⟨"WiringHouse$Checker", "followed", "(II)I"⟩, 8) := ⟨⟨by decide +kernel, by decide +kernel⟩, tq9_1 _ (List.mem_of_getElem? (i := 178) (by decide +kernel)), tq9_4 _ (List.mem_of_getElem? (i := 231) (by decide +kernel)), tq9_4 _ (List.mem_of_getElem? (i := 232) (by decide +kernel))⟩
theorem lw_p40 : lw_okq (⟨"WiringHouse$Checker", "noteRing", "(II)V"⟩, 8) := ⟨⟨by decide +kernel, by decide +kernel⟩, tq9_1 _ (List.mem_of_getElem? (i := 178) (by decide +kernel)), tq9_4 _ (List.mem_of_getElem? (i := 235) (by decide +kernel)), tq9_4 _ (List.mem_of_getElem? (i := 236) (by decide +kernel))⟩
theorem lw_p41 : lw_okq (⟨"WiringHouse$Checker", "tells", "(I)Z"⟩, 8) := ⟨⟨by decide +kernel, by decide +kernel⟩, tq9_1 _ (List.mem_of_getElem? (i := 178) (by decide +kernel)), tq9_5 _ (List.mem_of_getElem? (i := 7) (by decide +kernel)), tq9_5 _ (List.mem_of_getElem? (i := 8) (by decide +kernel))⟩
theorem lw_p42 : lw_okq (⟨"WiringHouse", "ends", "(II)I"⟩, 10) := ⟨⟨by decide +kernel, by decide +kernel⟩, tq9_1 _ (List.mem_of_getElem? (i := 28) (by decide +kernel)), tq9_5 _ (List.mem_of_getElem? (i := 57) (by decide +kernel)), tq9_5 _ (List.mem_of_getElem? (i := 58) (by decide +kernel))⟩
theorem lw_p43 : lw_okq (⟨"WiringHouse$Machine", "push", "(IIIII)LWiringHouse$Frame;"⟩, 15) := ⟨⟨by decide +kernel, by decide +kernel⟩, tq9_3 _ (List.mem_of_getElem? (i := 25) (by decide +kernel)), tq9_5 _ (List.mem_of_getElem? (i := 66) (by decide +kernel)), tq9_5 _ (List.mem_of_getElem? (i := 67) (by decide +kernel))⟩
theorem lw_p44 : lw_okq (⟨"WiringHouse$Machine", "goOnGetting", "(LWiringHouse$Frame;)V"⟩, 15) := ⟨⟨by decide +kernel, by decide +kernel⟩, tq9_3 _ (List.mem_of_getElem? (i := 25) (by decide +kernel)), tq9_5 _ (List.mem_of_getElem? (i := 138) (by decide +kernel)), tq9_5 _ (List.mem_of_getElem? (i := 139) (by decide +kernel))⟩
theorem lw_p45 : lw_okq (⟨"WiringHouse$Machine", "seek", "(III)V"⟩, 15) := ⟨⟨by decide +kernel, by decide +kernel⟩, tq9_3 _ (List.mem_of_getElem? (i := 25) (by decide +kernel)), tq9_5 _ (List.mem_of_getElem? (i := 142) (by decide +kernel)), tq9_5 _ (List.mem_of_getElem? (i := 143) (by decide +kernel))⟩
theorem lw_p46 : lw_okq (⟨"WiringHouse$Machine", "failWith", "(II)V"⟩, 15) := ⟨⟨by decide +kernel, by decide +kernel⟩, tq9_3 _ (List.mem_of_getElem? (i := 25) (by decide +kernel)), tq9_5 _ (List.mem_of_getElem? (i := 147) (by decide +kernel)), tq9_5 _ (List.mem_of_getElem? (i := 148) (by decide +kernel))⟩
theorem lw_p47 : lw_okq (⟨"WiringHouse$Machine", "beginMaking", "(IIIZ)V"⟩, 15) := ⟨⟨by decide +kernel, by decide +kernel⟩, tq9_3 _ (List.mem_of_getElem? (i := 25) (by decide +kernel)), tq9_5 _ (List.mem_of_getElem? (i := 163) (by decide +kernel)), tq9_5 _ (List.mem_of_getElem? (i := 164) (by decide +kernel))⟩
def lw_privs_3 : List (MethodName × Nat) := [(⟨"WiringHouse$BookReader", "readNeed", "()Z"⟩, 9), (⟨"WiringHouse$BookReader", "readMethod", "()Z"⟩, 9), (⟨"WiringHouse$Checker", "examineNeeds", "(I)V"⟩, 8), (⟨"WiringHouse$Checker", "faultOf", "(II)I"⟩, 8), (⟨"WiringHouse$Checker", "hasShorter", "(II)Z"⟩, 8), (⟨"WiringHouse$Checker", "note", "(III)V"⟩, 8), (⟨"WiringHouse$Checker", "follow", "(II)V"⟩, 8), (⟨"WiringHouse$Checker", "followed", "(II)I"⟩, 8), (⟨"WiringHouse$Checker", "noteRing", "(II)V"⟩, 8), (⟨"WiringHouse$Checker", "tells", "(I)Z"⟩, 8), (⟨"WiringHouse", "ends", "(II)I"⟩, 10), (⟨"WiringHouse$Machine", "push", "(IIIII)LWiringHouse$Frame;"⟩, 15), (⟨"WiringHouse$Machine", "goOnGetting", "(LWiringHouse$Frame;)V"⟩, 15), (⟨"WiringHouse$Machine", "seek", "(III)V"⟩, 15), (⟨"WiringHouse$Machine", "failWith", "(II)V"⟩, 15), (⟨"WiringHouse$Machine", "beginMaking", "(IIIZ)V"⟩, 15)]
theorem lw_r3 : ∀ q ∈ lw_privs_3, lw_okq q := List.forall_mem_cons.mpr ⟨lw_p32, List.forall_mem_cons.mpr ⟨lw_p33, List.forall_mem_cons.mpr ⟨lw_p34, List.forall_mem_cons.mpr ⟨lw_p35, List.forall_mem_cons.mpr ⟨lw_p36, List.forall_mem_cons.mpr ⟨lw_p37, List.forall_mem_cons.mpr ⟨lw_p38, List.forall_mem_cons.mpr ⟨lw_p39, List.forall_mem_cons.mpr ⟨lw_p40, List.forall_mem_cons.mpr ⟨lw_p41, List.forall_mem_cons.mpr ⟨lw_p42, List.forall_mem_cons.mpr ⟨lw_p43, List.forall_mem_cons.mpr ⟨lw_p44, List.forall_mem_cons.mpr ⟨lw_p45, List.forall_mem_cons.mpr ⟨lw_p46, List.forall_mem_cons.mpr ⟨lw_p47, fun _ h => absurd h List.not_mem_nil⟩⟩⟩⟩⟩⟩⟩⟩⟩⟩⟩⟩⟩⟩⟩⟩
theorem lw_p48 : lw_okq (⟨"WiringHouse$Machine", "takesStep", "()Z"⟩, 15) := ⟨⟨by decide +kernel, by decide +kernel⟩, tq9_3 _ (List.mem_of_getElem? (i := 25) (by decide +kernel)), tq9_5 _ (List.mem_of_getElem? (i := 167) (by decide +kernel)), tq9_5 _ (List.mem_of_getElem? (i := 168) (by decide +kernel))⟩
theorem lw_p49 : lw_okq (⟨"WiringHouse$Machine", "answerWith", "(I)V"⟩, 15) := ⟨⟨by decide +kernel, by decide +kernel⟩, tq9_3 _ (List.mem_of_getElem? (i := 25) (by decide +kernel)), tq9_5 _ (List.mem_of_getElem? (i := 190) (by decide +kernel)), tq9_5 _ (List.mem_of_getElem? (i := 191) (by decide +kernel))⟩
theorem lw_p50 : lw_okq (⟨"WiringHouse$Machine", "leave", "()V"⟩, 15) := ⟨⟨by decide +kernel, by decide +kernel⟩, tq9_3 _ (List.mem_of_getElem? (i := 25) (by decide +kernel)), tq9_5 _ (List.mem_of_getElem? (i := 194) (by decide +kernel)), tq9_5 _ (List.mem_of_getElem? (i := 195) (by decide +kernel))⟩
theorem lw_p51 : lw_okq (⟨"WiringHouse$Machine", "holdFailure", "(LWiringHouse$Frame;)V"⟩, 15) := ⟨⟨by decide +kernel, by decide +kernel⟩, tq9_3 _ (List.mem_of_getElem? (i := 25) (by decide +kernel)), tq9_5 _ (List.mem_of_getElem? (i := 198) (by decide +kernel)), tq9_5 _ (List.mem_of_getElem? (i := 199) (by decide +kernel))⟩
theorem lw_p52 : lw_okq (⟨"WiringHouse$Machine", "undoNext", "(LWiringHouse$Frame;)V"⟩, 15) := ⟨⟨by decide +kernel, by decide +kernel⟩, tq9_3 _ (List.mem_of_getElem? (i := 25) (by decide +kernel)), tq9_5 _ (List.mem_of_getElem? (i := 202) (by decide +kernel)), tq9_5 _ (List.mem_of_getElem? (i := 203) (by decide +kernel))⟩
theorem lw_p53 : lw_okq (⟨"WiringHouse$Machine", "goOnMaking", "(LWiringHouse$Frame;)V"⟩, 15) := ⟨⟨by decide +kernel, by decide +kernel⟩, tq9_3 _ (List.mem_of_getElem? (i := 25) (by decide +kernel)), tq9_5 _ (List.mem_of_getElem? (i := 214) (by decide +kernel)), tq9_5 _ (List.mem_of_getElem? (i := 215) (by decide +kernel))⟩
theorem lw_p54 : lw_okq (⟨"WiringHouse$Machine", "abandon", "(LWiringHouse$Frame;)V"⟩, 15) := ⟨⟨by decide +kernel, by decide +kernel⟩, tq9_3 _ (List.mem_of_getElem? (i := 25) (by decide +kernel)), tq9_5 _ (List.mem_of_getElem? (i := 218) (by decide +kernel)), tq9_5 _ (List.mem_of_getElem? (i := 219) (by decide +kernel))⟩
theorem lw_p55 : lw_okq (⟨"WiringHouse$Machine", "finish", "(LWiringHouse$Frame;)V"⟩, 15) := ⟨⟨by decide +kernel, by decide +kernel⟩, tq9_3 _ (List.mem_of_getElem? (i := 25) (by decide +kernel)), tq9_5 _ (List.mem_of_getElem? (i := 230) (by decide +kernel)), tq9_5 _ (List.mem_of_getElem? (i := 231) (by decide +kernel))⟩
theorem lw_p56 : lw_okq (⟨"WiringHouse$Machine", "nextCandidate", "(LWiringHouse$Frame;)I"⟩, 15) := ⟨⟨by decide +kernel, by decide +kernel⟩, tq9_3 _ (List.mem_of_getElem? (i := 25) (by decide +kernel)), tq9_6 _ (List.mem_of_getElem? (i := 16) (by decide +kernel)), tq9_6 _ (List.mem_of_getElem? (i := 17) (by decide +kernel))⟩
theorem lw_p57 : lw_okq (⟨"WiringHouse$Machine", "pushWork", "(LWiringHouse$Frame;II)LWiringHouse$Frame;"⟩, 15) := ⟨⟨by decide +kernel, by decide +kernel⟩, tq9_3 _ (List.mem_of_getElem? (i := 25) (by decide +kernel)), tq9_6 _ (List.mem_of_getElem? (i := 22) (by decide +kernel)), tq9_6 _ (List.mem_of_getElem? (i := 23) (by decide +kernel))⟩
theorem lw_p58 : lw_okq (⟨"WiringHouse$Machine", "goOnCalling", "(LWiringHouse$Frame;)V"⟩, 15) := ⟨⟨by decide +kernel, by decide +kernel⟩, tq9_3 _ (List.mem_of_getElem? (i := 25) (by decide +kernel)), tq9_6 _ (List.mem_of_getElem? (i := 26) (by decide +kernel)), tq9_6 _ (List.mem_of_getElem? (i := 27) (by decide +kernel))⟩
theorem lw_p59 : lw_okq (⟨"WiringHouse$Machine", "beginCalling", "(LWiringHouse$Frame;)V"⟩, 15) := ⟨⟨by decide +kernel, by decide +kernel⟩, tq9_3 _ (List.mem_of_getElem? (i := 25) (by decide +kernel)), tq9_6 _ (List.mem_of_getElem? (i := 30) (by decide +kernel)), tq9_6 _ (List.mem_of_getElem? (i := 31) (by decide +kernel))⟩
theorem lw_p60 : lw_okq (⟨"WiringHouse$Machine", "pushInside", "(LWiringHouse$Frame;II)V"⟩, 15) := ⟨⟨by decide +kernel, by decide +kernel⟩, tq9_3 _ (List.mem_of_getElem? (i := 25) (by decide +kernel)), tq9_6 _ (List.mem_of_getElem? (i := 34) (by decide +kernel)), tq9_6 _ (List.mem_of_getElem? (i := 35) (by decide +kernel))⟩
theorem lw_p61 : lw_okq (⟨"WiringHouse$Book", "isFor", "(LWiringHouse$Wrap;III)Z"⟩, 13) := ⟨⟨by decide +kernel, by decide +kernel⟩, tq9_2 _ (List.mem_of_getElem? (i := 73) (by decide +kernel)), tq9_6 _ (List.mem_of_getElem? (i := 42) (by decide +kernel)), tq9_6 _ (List.mem_of_getElem? (i := 43) (by decide +kernel))⟩
theorem lw_p62 : lw_okq (⟨"WiringHouse$Machine", "workWrap", "(LWiringHouse$Frame;II)LWiringHouse$Frame;"⟩, 15) := ⟨⟨by decide +kernel, by decide +kernel⟩, tq9_3 _ (List.mem_of_getElem? (i := 25) (by decide +kernel)), tq9_6 _ (List.mem_of_getElem? (i := 49) (by decide +kernel)), tq9_6 _ (List.mem_of_getElem? (i := 50) (by decide +kernel))⟩
theorem lw_p63 : lw_okq (⟨"WiringHouse$Machine", "goOnInside", "(LWiringHouse$Frame;)V"⟩, 15) := ⟨⟨by decide +kernel, by decide +kernel⟩, tq9_3 _ (List.mem_of_getElem? (i := 25) (by decide +kernel)), tq9_6 _ (List.mem_of_getElem? (i := 57) (by decide +kernel)), tq9_6 _ (List.mem_of_getElem? (i := 58) (by decide +kernel))⟩
def lw_privs_4 : List (MethodName × Nat) := [(⟨"WiringHouse$Machine", "takesStep", "()Z"⟩, 15), (⟨"WiringHouse$Machine", "answerWith", "(I)V"⟩, 15), (⟨"WiringHouse$Machine", "leave", "()V"⟩, 15), (⟨"WiringHouse$Machine", "holdFailure", "(LWiringHouse$Frame;)V"⟩, 15), (⟨"WiringHouse$Machine", "undoNext", "(LWiringHouse$Frame;)V"⟩, 15), (⟨"WiringHouse$Machine", "goOnMaking", "(LWiringHouse$Frame;)V"⟩, 15), (⟨"WiringHouse$Machine", "abandon", "(LWiringHouse$Frame;)V"⟩, 15), (⟨"WiringHouse$Machine", "finish", "(LWiringHouse$Frame;)V"⟩, 15), (⟨"WiringHouse$Machine", "nextCandidate", "(LWiringHouse$Frame;)I"⟩, 15), (⟨"WiringHouse$Machine", "pushWork", "(LWiringHouse$Frame;II)LWiringHouse$Frame;"⟩, 15), (⟨"WiringHouse$Machine", "goOnCalling", "(LWiringHouse$Frame;)V"⟩, 15), (⟨"WiringHouse$Machine", "beginCalling", "(LWiringHouse$Frame;)V"⟩, 15), (⟨"WiringHouse$Machine", "pushInside", "(LWiringHouse$Frame;II)V"⟩, 15), (⟨"WiringHouse$Book", "isFor", "(LWiringHouse$Wrap;III)Z"⟩, 13), (⟨"WiringHouse$Machine", "workWrap", "(LWiringHouse$Frame;II)LWiringHouse$Frame;"⟩, 15), (⟨"WiringHouse$Machine", "goOnInside", "(LWiringHouse$Frame;)V"⟩, 15)]
theorem lw_r4 : ∀ q ∈ lw_privs_4, lw_okq q := List.forall_mem_cons.mpr ⟨lw_p48, List.forall_mem_cons.mpr ⟨lw_p49, List.forall_mem_cons.mpr ⟨lw_p50, List.forall_mem_cons.mpr ⟨lw_p51, List.forall_mem_cons.mpr ⟨lw_p52, List.forall_mem_cons.mpr ⟨lw_p53, List.forall_mem_cons.mpr ⟨lw_p54, List.forall_mem_cons.mpr ⟨lw_p55, List.forall_mem_cons.mpr ⟨lw_p56, List.forall_mem_cons.mpr ⟨lw_p57, List.forall_mem_cons.mpr ⟨lw_p58, List.forall_mem_cons.mpr ⟨lw_p59, List.forall_mem_cons.mpr ⟨lw_p60, List.forall_mem_cons.mpr ⟨lw_p61, List.forall_mem_cons.mpr ⟨lw_p62, List.forall_mem_cons.mpr ⟨lw_p63, fun _ h => absurd h List.not_mem_nil⟩⟩⟩⟩⟩⟩⟩⟩⟩⟩⟩⟩⟩⟩⟩⟩
theorem lw_p64 : lw_okq (⟨"WiringHouse$Machine", "beginInside", "(LWiringHouse$Frame;)V"⟩, 15) := ⟨⟨by decide +kernel, by decide +kernel⟩, tq9_3 _ (List.mem_of_getElem? (i := 25) (by decide +kernel)), tq9_6 _ (List.mem_of_getElem? (i := 61) (by decide +kernel)), tq9_6 _ (List.mem_of_getElem? (i := 62) (by decide +kernel))⟩
theorem lw_p65 : lw_okq (⟨"WiringHouse$Machine", "nextBefore", "(LWiringHouse$Frame;)V"⟩, 15) := ⟨⟨by decide +kernel, by decide +kernel⟩, tq9_3 _ (List.mem_of_getElem? (i := 25) (by decide +kernel)), tq9_6 _ (List.mem_of_getElem? (i := 69) (by decide +kernel)), tq9_6 _ (List.mem_of_getElem? (i := 70) (by decide +kernel))⟩
theorem lw_p66 : lw_okq (⟨"WiringHouse$Machine", "nextAfter", "(LWiringHouse$Frame;)V"⟩, 15) := ⟨⟨by decide +kernel, by decide +kernel⟩, tq9_3 _ (List.mem_of_getElem? (i := 25) (by decide +kernel)), tq9_6 _ (List.mem_of_getElem? (i := 73) (by decide +kernel)), tq9_6 _ (List.mem_of_getElem? (i := 74) (by decide +kernel))⟩
theorem lw_p67 : lw_okq (⟨"WiringHouse$Machine", "goOnWorking", "(LWiringHouse$Frame;)V"⟩, 15) := ⟨⟨by decide +kernel, by decide +kernel⟩, tq9_3 _ (List.mem_of_getElem? (i := 25) (by decide +kernel)), tq9_6 _ (List.mem_of_getElem? (i := 77) (by decide +kernel)), tq9_6 _ (List.mem_of_getElem? (i := 78) (by decide +kernel))⟩
theorem lw_p68 : lw_okq (⟨"WiringHouse$Machine", "callNeed", "(LWiringHouse$Frame;)V"⟩, 15) := ⟨⟨by decide +kernel, by decide +kernel⟩, tq9_3 _ (List.mem_of_getElem? (i := 25) (by decide +kernel)), tq9_6 _ (List.mem_of_getElem? (i := 81) (by decide +kernel)), tq9_6 _ (List.mem_of_getElem? (i := 82) (by decide +kernel))⟩
theorem lw_p69 : lw_okq (⟨"WiringHouse$Machine", "getLate", "(LWiringHouse$Frame;)V"⟩, 15) := ⟨⟨by decide +kernel, by decide +kernel⟩, tq9_3 _ (List.mem_of_getElem? (i := 25) (by decide +kernel)), tq9_6 _ (List.mem_of_getElem? (i := 89) (by decide +kernel)), tq9_6 _ (List.mem_of_getElem? (i := 90) (by decide +kernel))⟩
theorem lw_p70 : lw_okq (⟨"WiringHouse$Machine", "endWork", "(LWiringHouse$Frame;)V"⟩, 15) := ⟨⟨by decide +kernel, by decide +kernel⟩, tq9_3 _ (List.mem_of_getElem? (i := 25) (by decide +kernel)), tq9_6 _ (List.mem_of_getElem? (i := 104) (by decide +kernel)), tq9_6 _ (List.mem_of_getElem? (i := 105) (by decide +kernel))⟩
theorem lw_p71 : lw_okq (⟨"WiringHouse$Machine", "takesAnswer", "(LWiringHouse$Frame;)Z"⟩, 15) := ⟨⟨by decide +kernel, by decide +kernel⟩, tq9_3 _ (List.mem_of_getElem? (i := 25) (by decide +kernel)), tq9_6 _ (List.mem_of_getElem? (i := 108) (by decide +kernel)), tq9_6 _ (List.mem_of_getElem? (i := 109) (by decide +kernel))⟩
theorem lw_p72 : lw_okq (⟨"WiringHouse$Machine", "put", "(I)V"⟩, 15) := ⟨⟨by decide +kernel, by decide +kernel⟩, tq9_3 _ (List.mem_of_getElem? (i := 25) (by decide +kernel)), tq9_6 _ (List.mem_of_getElem? (i := 112) (by decide +kernel)), tq9_6 _ (List.mem_of_getElem? (i := 113) (by decide +kernel))⟩
theorem lw_p73 : lw_okq (⟨"WiringHouse$Machine", "joinLate", "(LWiringHouse$Frame;I)V"⟩, 15) := ⟨⟨by decide +kernel, by decide +kernel⟩, tq9_3 _ (List.mem_of_getElem? (i := 25) (by decide +kernel)), tq9_6 _ (List.mem_of_getElem? (i := 116) (by decide +kernel)), tq9_6 _ (List.mem_of_getElem? (i := 117) (by decide +kernel))⟩
theorem lw_p74 : lw_okq (⟨"WiringHouse$Machine", "work", "(LWiringHouse$Frame;)V"⟩, 15) := ⟨⟨by decide +kernel, by decide +kernel⟩, tq9_3 _ (List.mem_of_getElem? (i := 25) (by decide +kernel)), tq9_6 _ (List.mem_of_getElem? (i := 120) (by decide +kernel)), tq9_6 _ (List.mem_of_getElem? (i := 121) (by decide +kernel))⟩
theorem lw_p75 : lw_okq (⟨"WiringHouse$Machine", "worksWith", "(LWiringHouse$Frame;I)Z"⟩, 15) := ⟨⟨by decide +kernel, by decide +kernel⟩, tq9_3 _ (List.mem_of_getElem? (i := 25) (by decide +kernel)), tq9_6 _ (List.mem_of_getElem? (i := 124) (by decide +kernel)), tq9_6 _ (List.mem_of_getElem? (i := 125) (by decide +kernel))⟩
theorem lw_p76 : lw_okq (⟨"WiringHouse$Machine", "pull", "()I"⟩, 15) := ⟨⟨by decide +kernel, by decide +kernel⟩, tq9_3 _ (List.mem_of_getElem? (i := 25) (by decide +kernel)), tq9_6 _ (List.mem_of_getElem? (i := 128) (by decide +kernel)), tq9_6 _ (List.mem_of_getElem? (i := 129) (by decide +kernel))⟩
theorem lw_p77 : lw_okq (⟨"WiringHouse$Machine", "worksAlone", "(LWiringHouse$Frame;I)Z"⟩, 15) := ⟨⟨by decide +kernel, by decide +kernel⟩, tq9_3 _ (List.mem_of_getElem? (i := 25) (by decide +kernel)), tq9_6 _ (List.mem_of_getElem? (i := 135) (by decide +kernel)), tq9_6 _ (List.mem_of_getElem? (i := 136) (by decide +kernel))⟩
theorem lw_p78 : lw_okq (⟨"WiringHouse$Machine", "goOnClosing", "(LWiringHouse$Frame;)V"⟩, 15) := ⟨⟨by decide +kernel, by decide +kernel⟩, tq9_3 _ (List.mem_of_getElem? (i := 25) (by decide +kernel)), tq9_6 _ (List.mem_of_getElem? (i := 139) (by decide +kernel)), tq9_6 _ (List.mem_of_getElem? (i := 140) (by decide +kernel))⟩
theorem lw_p79 : lw_okq (⟨"WiringHouse$Stock", "latestOpen", "(II)I"⟩, 16) := ⟨⟨by decide +kernel, by decide +kernel⟩, tq9_1 _ (List.mem_of_getElem? (i := 210) (by decide +kernel)), tq9_6 _ (List.mem_of_getElem? (i := 174) (by decide +kernel)), tq9_6 _ (List.mem_of_getElem? (i := 175) (by decide +kernel))⟩
def lw_privs_5 : List (MethodName × Nat) := [(⟨"WiringHouse$Machine", "beginInside", "(LWiringHouse$Frame;)V"⟩, 15), (⟨"WiringHouse$Machine", "nextBefore", "(LWiringHouse$Frame;)V"⟩, 15), (⟨"WiringHouse$Machine", "nextAfter", "(LWiringHouse$Frame;)V"⟩, 15), (⟨"WiringHouse$Machine", "goOnWorking", "(LWiringHouse$Frame;)V"⟩, 15), (⟨"WiringHouse$Machine", "callNeed", "(LWiringHouse$Frame;)V"⟩, 15), (⟨"WiringHouse$Machine", "getLate", "(LWiringHouse$Frame;)V"⟩, 15), (⟨"WiringHouse$Machine", "endWork", "(LWiringHouse$Frame;)V"⟩, 15), (⟨"WiringHouse$Machine", "takesAnswer", "(LWiringHouse$Frame;)Z"⟩, 15), (⟨"WiringHouse$Machine", "put", "(I)V"⟩, 15), (⟨"WiringHouse$Machine", "joinLate", "(LWiringHouse$Frame;I)V"⟩, 15), (⟨"WiringHouse$Machine", "work", "(LWiringHouse$Frame;)V"⟩, 15), (⟨"WiringHouse$Machine", "worksWith", "(LWiringHouse$Frame;I)Z"⟩, 15), (⟨"WiringHouse$Machine", "pull", "()I"⟩, 15), (⟨"WiringHouse$Machine", "worksAlone", "(LWiringHouse$Frame;I)Z"⟩, 15), (⟨"WiringHouse$Machine", "goOnClosing", "(LWiringHouse$Frame;)V"⟩, 15), (⟨"WiringHouse$Stock", "latestOpen", "(II)I"⟩, 16)]
theorem lw_r5 : ∀ q ∈ lw_privs_5, lw_okq q := List.forall_mem_cons.mpr ⟨lw_p64, List.forall_mem_cons.mpr ⟨lw_p65, List.forall_mem_cons.mpr ⟨lw_p66, List.forall_mem_cons.mpr ⟨lw_p67, List.forall_mem_cons.mpr ⟨lw_p68, List.forall_mem_cons.mpr ⟨lw_p69, List.forall_mem_cons.mpr ⟨lw_p70, List.forall_mem_cons.mpr ⟨lw_p71, List.forall_mem_cons.mpr ⟨lw_p72, List.forall_mem_cons.mpr ⟨lw_p73, List.forall_mem_cons.mpr ⟨lw_p74, List.forall_mem_cons.mpr ⟨lw_p75, List.forall_mem_cons.mpr ⟨lw_p76, List.forall_mem_cons.mpr ⟨lw_p77, List.forall_mem_cons.mpr ⟨lw_p78, List.forall_mem_cons.mpr ⟨lw_p79, fun _ h => absurd h List.not_mem_nil⟩⟩⟩⟩⟩⟩⟩⟩⟩⟩⟩⟩⟩⟩⟩⟩
theorem lw_p80 : lw_okq (⟨"java/lang/Throwable", "fillInStackTrace", "(I)Ljava/lang/Throwable;"⟩, 6) := ⟨⟨by decide +kernel, by decide +kernel⟩, tq9_7 _ (List.mem_of_getElem? (i := 47) (by decide +kernel)), tq9_7 _ (List.mem_of_getElem? (i := 45) (by decide +kernel)), tq9_7 _ (List.mem_of_getElem? (i := 46) (by decide +kernel))⟩
theorem lw_p81 : lw_okq (⟨"WiringHouseModel", "lay", "(J)V"⟩, 100) := ⟨⟨by decide +kernel, by decide +kernel⟩, tq9_7 _ (List.mem_of_getElem? (i := 93) (by decide +kernel)), tq9_7 _ (List.mem_of_getElem? (i := 91) (by decide +kernel)), tq9_7 _ (List.mem_of_getElem? (i := 92) (by decide +kernel))⟩
theorem lw_p82 : lw_okq (⟨"WiringHouseModel", "cutAll", "()V"⟩, 100) := ⟨⟨by decide +kernel, by decide +kernel⟩, tq9_7 _ (List.mem_of_getElem? (i := 93) (by decide +kernel)), tq9_8 _ (List.mem_of_getElem? (i := 177) (by decide +kernel)), tq9_8 _ (List.mem_of_getElem? (i := 178) (by decide +kernel))⟩
theorem lw_p83 : lw_okq (⟨"WiringHouseModel", "isWord", "(I)Z"⟩, 100) := ⟨⟨by decide +kernel, by decide +kernel⟩, tq9_7 _ (List.mem_of_getElem? (i := 93) (by decide +kernel)), tq9_8 _ (List.mem_of_getElem? (i := 189) (by decide +kernel)), tq9_8 _ (List.mem_of_getElem? (i := 190) (by decide +kernel))⟩
theorem lw_p84 : lw_okq (⟨"WiringHouseModel", "toldType", "()V"⟩, 100) := ⟨⟨by decide +kernel, by decide +kernel⟩, tq9_7 _ (List.mem_of_getElem? (i := 93) (by decide +kernel)), tq9_8 _ (List.mem_of_getElem? (i := 193) (by decide +kernel)), tq9_8 _ (List.mem_of_getElem? (i := 194) (by decide +kernel))⟩
theorem lw_p85 : lw_okq (⟨"WiringHouseModel", "begins", "(Z)V"⟩, 100) := ⟨⟨by decide +kernel, by decide +kernel⟩, tq9_7 _ (List.mem_of_getElem? (i := 93) (by decide +kernel)), tq9_8 _ (List.mem_of_getElem? (i := 197) (by decide +kernel)), tq9_8 _ (List.mem_of_getElem? (i := 198) (by decide +kernel))⟩
theorem lw_p86 : lw_okq (⟨"WiringHouseModel", "wrong", "(I)V"⟩, 100) := ⟨⟨by decide +kernel, by decide +kernel⟩, tq9_7 _ (List.mem_of_getElem? (i := 93) (by decide +kernel)), tq9_8 _ (List.mem_of_getElem? (i := 201) (by decide +kernel)), tq9_8 _ (List.mem_of_getElem? (i := 202) (by decide +kernel))⟩
theorem lw_p87 : lw_okq (⟨"WiringHouseModel", "newName", "()J"⟩, 100) := ⟨⟨by decide +kernel, by decide +kernel⟩, tq9_7 _ (List.mem_of_getElem? (i := 93) (by decide +kernel)), tq9_8 _ (List.mem_of_getElem? (i := 205) (by decide +kernel)), tq9_8 _ (List.mem_of_getElem? (i := 206) (by decide +kernel))⟩
theorem lw_p88 : lw_okq (⟨"WiringHouseModel", "isName", "()Z"⟩, 100) := ⟨⟨by decide +kernel, by decide +kernel⟩, tq9_7 _ (List.mem_of_getElem? (i := 93) (by decide +kernel)), tq9_8 _ (List.mem_of_getElem? (i := 209) (by decide +kernel)), tq9_8 _ (List.mem_of_getElem? (i := 210) (by decide +kernel))⟩
theorem lw_p89 : lw_okq (⟨"WiringHouseModel", "find", "([JIIJ)I"⟩, 100) := ⟨⟨by decide +kernel, by decide +kernel⟩, tq9_7 _ (List.mem_of_getElem? (i := 93) (by decide +kernel)), tq9_8 _ (List.mem_of_getElem? (i := 213) (by decide +kernel)), tq9_8 _ (List.mem_of_getElem? (i := 214) (by decide +kernel))⟩
theorem lw_p90 : lw_okq (⟨"WiringHouseModel", "hasWord", "(I)Z"⟩, 100) := ⟨⟨by decide +kernel, by decide +kernel⟩, tq9_7 _ (List.mem_of_getElem? (i := 93) (by decide +kernel)), tq9_8 _ (List.mem_of_getElem? (i := 217) (by decide +kernel)), tq9_8 _ (List.mem_of_getElem? (i := 218) (by decide +kernel))⟩
theorem lw_p91 : lw_okq (⟨"WiringHouseModel", "takeTypes", "([ZI)V"⟩, 100) := ⟨⟨by decide +kernel, by decide +kernel⟩, tq9_7 _ (List.mem_of_getElem? (i := 93) (by decide +kernel)), tq9_8 _ (List.mem_of_getElem? (i := 221) (by decide +kernel)), tq9_8 _ (List.mem_of_getElem? (i := 222) (by decide +kernel))⟩
theorem lw_p92 : lw_okq (⟨"WiringHouseModel", "takeType", "()I"⟩, 100) := ⟨⟨by decide +kernel, by decide +kernel⟩, tq9_7 _ (List.mem_of_getElem? (i := 93) (by decide +kernel)), tq9_8 _ (List.mem_of_getElem? (i := 225) (by decide +kernel)), tq9_8 _ (List.mem_of_getElem? (i := 226) (by decide +kernel))⟩
theorem lw_p93 : lw_okq (⟨"WiringHouseModel", "named", "([JII)I"⟩, 100) := ⟨⟨by decide +kernel, by decide +kernel⟩, tq9_7 _ (List.mem_of_getElem? (i := 93) (by decide +kernel)), tq9_8 _ (List.mem_of_getElem? (i := 229) (by decide +kernel)), tq9_8 _ (List.mem_of_getElem? (i := 230) (by decide +kernel))⟩
theorem lw_p94 : lw_okq (⟨"WiringHouseModel", "hasSign", "(I)Z"⟩, 100) := ⟨⟨by decide +kernel, by decide +kernel⟩, tq9_7 _ (List.mem_of_getElem? (i := 93) (by decide +kernel)), tq9_8 _ (List.mem_of_getElem? (i := 233) (by decide +kernel)), tq9_8 _ (List.mem_of_getElem? (i := 234) (by decide +kernel))⟩
theorem lw_p95 : lw_okq (⟨"WiringHouseModel", "isSign", "(I)Z"⟩, 100) := ⟨⟨by decide +kernel, by decide +kernel⟩, tq9_7 _ (List.mem_of_getElem? (i := 93) (by decide +kernel)), tq9_8 _ (List.mem_of_getElem? (i := 237) (by decide +kernel)), tq9_8 _ (List.mem_of_getElem? (i := 238) (by decide +kernel))⟩
def lw_privs_6 : List (MethodName × Nat) := [(⟨"java/lang/Throwable", "fillInStackTrace", "(I)Ljava/lang/Throwable;"⟩, 6), (⟨"WiringHouseModel", "lay", "(J)V"⟩, 100), (⟨"WiringHouseModel", "cutAll", "()V"⟩, 100), (⟨"WiringHouseModel", "isWord", "(I)Z"⟩, 100), (⟨"WiringHouseModel", "toldType", "()V"⟩, 100), (⟨"WiringHouseModel", "begins", "(Z)V"⟩, 100), (⟨"WiringHouseModel", "wrong", "(I)V"⟩, 100), (⟨"WiringHouseModel", "newName", "()J"⟩, 100), (⟨"WiringHouseModel", "isName", "()Z"⟩, 100), (⟨"WiringHouseModel", "find", "([JIIJ)I"⟩, 100), (⟨"WiringHouseModel", "hasWord", "(I)Z"⟩, 100), (⟨"WiringHouseModel", "takeTypes", "([ZI)V"⟩, 100), (⟨"WiringHouseModel", "takeType", "()I"⟩, 100), (⟨"WiringHouseModel", "named", "([JII)I"⟩, 100), (⟨"WiringHouseModel", "hasSign", "(I)Z"⟩, 100), (⟨"WiringHouseModel", "isSign", "(I)Z"⟩, 100)]
theorem lw_r6 : ∀ q ∈ lw_privs_6, lw_okq q := List.forall_mem_cons.mpr ⟨lw_p80, List.forall_mem_cons.mpr ⟨lw_p81, List.forall_mem_cons.mpr ⟨lw_p82, List.forall_mem_cons.mpr ⟨lw_p83, List.forall_mem_cons.mpr ⟨lw_p84, List.forall_mem_cons.mpr ⟨lw_p85, List.forall_mem_cons.mpr ⟨lw_p86, List.forall_mem_cons.mpr ⟨lw_p87, List.forall_mem_cons.mpr ⟨lw_p88, List.forall_mem_cons.mpr ⟨lw_p89, List.forall_mem_cons.mpr ⟨lw_p90, List.forall_mem_cons.mpr ⟨lw_p91, List.forall_mem_cons.mpr ⟨lw_p92, List.forall_mem_cons.mpr ⟨lw_p93, List.forall_mem_cons.mpr ⟨lw_p94, List.forall_mem_cons.mpr ⟨lw_p95, fun _ h => absurd h List.not_mem_nil⟩⟩⟩⟩⟩⟩⟩⟩⟩⟩⟩⟩⟩⟩⟩⟩
theorem lw_p96 : lw_okq (⟨"WiringHouseModel", "takeSign", "(I)V"⟩, 100) := ⟨⟨by decide +kernel, by decide +kernel⟩, tq9_7 _ (List.mem_of_getElem? (i := 93) (by decide +kernel)), tq9_9 _ (List.mem_of_getElem? (i := 1) (by decide +kernel)), tq9_9 _ (List.mem_of_getElem? (i := 2) (by decide +kernel))⟩
theorem lw_p97 : lw_okq (⟨"WiringHouseModel", "toldSetting", "()V"⟩, 100) := ⟨⟨by decide +kernel, by decide +kernel⟩, tq9_7 _ (List.mem_of_getElem? (i := 93) (by decide +kernel)), tq9_9 _ (List.mem_of_getElem? (i := 5) (by decide +kernel)), tq9_9 _ (List.mem_of_getElem? (i := 6) (by decide +kernel))⟩
theorem lw_p98 : lw_okq (⟨"WiringHouseModel", "takeNumber", "(II)I"⟩, 100) := ⟨⟨by decide +kernel, by decide +kernel⟩, tq9_7 _ (List.mem_of_getElem? (i := 93) (by decide +kernel)), tq9_9 _ (List.mem_of_getElem? (i := 10) (by decide +kernel)), tq9_9 _ (List.mem_of_getElem? (i := 11) (by decide +kernel))⟩
theorem lw_p99 : lw_okq (⟨"WiringHouseModel", "toldComponent", "()V"⟩, 100) := ⟨⟨by decide +kernel, by decide +kernel⟩, tq9_7 _ (List.mem_of_getElem? (i := 93) (by decide +kernel)), tq9_9 _ (List.mem_of_getElem? (i := 14) (by decide +kernel)), tq9_9 _ (List.mem_of_getElem? (i := 15) (by decide +kernel))⟩
theorem lw_p100 : lw_okq (⟨"WiringHouseModel", "takeWord", "(I)V"⟩, 100) := ⟨⟨by decide +kernel, by decide +kernel⟩, tq9_7 _ (List.mem_of_getElem? (i := 93) (by decide +kernel)), tq9_9 _ (List.mem_of_getElem? (i := 18) (by decide +kernel)), tq9_9 _ (List.mem_of_getElem? (i := 19) (by decide +kernel))⟩
theorem lw_p101 : lw_okq (⟨"WiringHouseModel", "oneOf", "(II)I"⟩, 100) := ⟨⟨by decide +kernel, by decide +kernel⟩, tq9_7 _ (List.mem_of_getElem? (i := 93) (by decide +kernel)), tq9_9 _ (List.mem_of_getElem? (i := 22) (by decide +kernel)), tq9_9 _ (List.mem_of_getElem? (i := 23) (by decide +kernel))⟩
theorem lw_p102 : lw_okq (⟨"WiringHouseModel", "takeWordOf", "([J[I)I"⟩, 100) := ⟨⟨by decide +kernel, by decide +kernel⟩, tq9_7 _ (List.mem_of_getElem? (i := 93) (by decide +kernel)), tq9_9 _ (List.mem_of_getElem? (i := 26) (by decide +kernel)), tq9_9 _ (List.mem_of_getElem? (i := 27) (by decide +kernel))⟩
theorem lw_p103 : lw_okq (⟨"WiringHouseModel", "member", "(I)V"⟩, 100) := ⟨⟨by decide +kernel, by decide +kernel⟩, tq9_7 _ (List.mem_of_getElem? (i := 93) (by decide +kernel)), tq9_9 _ (List.mem_of_getElem? (i := 30) (by decide +kernel)), tq9_9 _ (List.mem_of_getElem? (i := 31) (by decide +kernel))⟩
theorem lw_p104 : lw_okq (⟨"WiringHouseModel", "takeNeed", "(I)V"⟩, 100) := ⟨⟨by decide +kernel, by decide +kernel⟩, tq9_7 _ (List.mem_of_getElem? (i := 93) (by decide +kernel)), tq9_9 _ (List.mem_of_getElem? (i := 34) (by decide +kernel)), tq9_9 _ (List.mem_of_getElem? (i := 35) (by decide +kernel))⟩
theorem lw_p105 : lw_okq (⟨"WiringHouseModel", "code", "()I"⟩, 100) := ⟨⟨by decide +kernel, by decide +kernel⟩, tq9_7 _ (List.mem_of_getElem? (i := 93) (by decide +kernel)), tq9_9 _ (List.mem_of_getElem? (i := 38) (by decide +kernel)), tq9_9 _ (List.mem_of_getElem? (i := 39) (by decide +kernel))⟩
theorem lw_p106 : lw_okq (⟨"WiringHouseModel", "expression", "()V"⟩, 100) := ⟨⟨by decide +kernel, by decide +kernel⟩, tq9_7 _ (List.mem_of_getElem? (i := 93) (by decide +kernel)), tq9_9 _ (List.mem_of_getElem? (i := 42) (by decide +kernel)), tq9_9 _ (List.mem_of_getElem? (i := 43) (by decide +kernel))⟩
theorem lw_p107 : lw_okq (⟨"WiringHouseModel", "sum", "()V"⟩, 100) := ⟨⟨by decide +kernel, by decide +kernel⟩, tq9_7 _ (List.mem_of_getElem? (i := 93) (by decide +kernel)), tq9_9 _ (List.mem_of_getElem? (i := 46) (by decide +kernel)), tq9_9 _ (List.mem_of_getElem? (i := 47) (by decide +kernel))⟩
theorem lw_p108 : lw_okq (⟨"WiringHouseModel", "product", "()V"⟩, 100) := ⟨⟨by decide +kernel, by decide +kernel⟩, tq9_7 _ (List.mem_of_getElem? (i := 93) (by decide +kernel)), tq9_9 _ (List.mem_of_getElem? (i := 50) (by decide +kernel)), tq9_9 _ (List.mem_of_getElem? (i := 51) (by decide +kernel))⟩
theorem lw_p109 : lw_okq (⟨"WiringHouseModel", "part", "()V"⟩, 100) := ⟨⟨by decide +kernel, by decide +kernel⟩, tq9_7 _ (List.mem_of_getElem? (i := 93) (by decide +kernel)), tq9_9 _ (List.mem_of_getElem? (i := 54) (by decide +kernel)), tq9_9 _ (List.mem_of_getElem? (i := 55) (by decide +kernel))⟩
theorem lw_p110 : lw_okq (⟨"WiringHouseModel", "isPart", "()Z"⟩, 100) := ⟨⟨by decide +kernel, by decide +kernel⟩, tq9_7 _ (List.mem_of_getElem? (i := 93) (by decide +kernel)), tq9_9 _ (List.mem_of_getElem? (i := 58) (by decide +kernel)), tq9_9 _ (List.mem_of_getElem? (i := 59) (by decide +kernel))⟩
theorem lw_p111 : lw_okq (⟨"WiringHouseModel", "emit", "(III)I"⟩, 100) := ⟨⟨by decide +kernel, by decide +kernel⟩, tq9_7 _ (List.mem_of_getElem? (i := 93) (by decide +kernel)), tq9_9 _ (List.mem_of_getElem? (i := 62) (by decide +kernel)), tq9_9 _ (List.mem_of_getElem? (i := 63) (by decide +kernel))⟩
def lw_privs_7 : List (MethodName × Nat) := [(⟨"WiringHouseModel", "takeSign", "(I)V"⟩, 100), (⟨"WiringHouseModel", "toldSetting", "()V"⟩, 100), (⟨"WiringHouseModel", "takeNumber", "(II)I"⟩, 100), (⟨"WiringHouseModel", "toldComponent", "()V"⟩, 100), (⟨"WiringHouseModel", "takeWord", "(I)V"⟩, 100), (⟨"WiringHouseModel", "oneOf", "(II)I"⟩, 100), (⟨"WiringHouseModel", "takeWordOf", "([J[I)I"⟩, 100), (⟨"WiringHouseModel", "member", "(I)V"⟩, 100), (⟨"WiringHouseModel", "takeNeed", "(I)V"⟩, 100), (⟨"WiringHouseModel", "code", "()I"⟩, 100), (⟨"WiringHouseModel", "expression", "()V"⟩, 100), (⟨"WiringHouseModel", "sum", "()V"⟩, 100), (⟨"WiringHouseModel", "product", "()V"⟩, 100), (⟨"WiringHouseModel", "part", "()V"⟩, 100), (⟨"WiringHouseModel", "isPart", "()Z"⟩, 100), (⟨"WiringHouseModel", "emit", "(III)I"⟩, 100)]
theorem lw_r7 : ∀ q ∈ lw_privs_7, lw_okq q := List.forall_mem_cons.mpr ⟨lw_p96, List.forall_mem_cons.mpr ⟨lw_p97, List.forall_mem_cons.mpr ⟨lw_p98, List.forall_mem_cons.mpr ⟨lw_p99, List.forall_mem_cons.mpr ⟨lw_p100, List.forall_mem_cons.mpr ⟨lw_p101, List.forall_mem_cons.mpr ⟨lw_p102, List.forall_mem_cons.mpr ⟨lw_p103, List.forall_mem_cons.mpr ⟨lw_p104, List.forall_mem_cons.mpr ⟨lw_p105, List.forall_mem_cons.mpr ⟨lw_p106, List.forall_mem_cons.mpr ⟨lw_p107, List.forall_mem_cons.mpr ⟨lw_p108, List.forall_mem_cons.mpr ⟨lw_p109, List.forall_mem_cons.mpr ⟨lw_p110, List.forall_mem_cons.mpr ⟨lw_p111, fun _ h => absurd h List.not_mem_nil⟩⟩⟩⟩⟩⟩⟩⟩⟩⟩⟩⟩⟩⟩⟩⟩
theorem lw_p112 : lw_okq (⟨"WiringHouseModel", "partWithin", "()V"⟩, 100) := ⟨⟨by decide +kernel, by decide +kernel⟩, tq9_7 _ (List.mem_of_getElem? (i := 93) (by decide +kernel)), tq9_9 _ (List.mem_of_getElem? (i := 66) (by decide +kernel)), tq9_9 _ (List.mem_of_getElem? (i := 67) (by decide +kernel))⟩
theorem lw_p113 : lw_okq (⟨"WiringHouseModel", "pick", "()V"⟩, 100) := ⟨⟨by decide +kernel, by decide +kernel⟩, tq9_7 _ (List.mem_of_getElem? (i := 93) (by decide +kernel)), tq9_9 _ (List.mem_of_getElem? (i := 70) (by decide +kernel)), tq9_9 _ (List.mem_of_getElem? (i := 71) (by decide +kernel))⟩
theorem lw_p114 : lw_okq (⟨"WiringHouseModel", "bracketed", "()V"⟩, 100) := ⟨⟨by decide +kernel, by decide +kernel⟩, tq9_7 _ (List.mem_of_getElem? (i := 93) (by decide +kernel)), tq9_9 _ (List.mem_of_getElem? (i := 74) (by decide +kernel)), tq9_9 _ (List.mem_of_getElem? (i := 75) (by decide +kernel))⟩
theorem lw_p115 : lw_okq (⟨"WiringHouseModel", "toldWrap", "()V"⟩, 100) := ⟨⟨by decide +kernel, by decide +kernel⟩, tq9_7 _ (List.mem_of_getElem? (i := 93) (by decide +kernel)), tq9_9 _ (List.mem_of_getElem? (i := 78) (by decide +kernel)), tq9_9 _ (List.mem_of_getElem? (i := 79) (by decide +kernel))⟩
theorem lw_p116 : lw_okq (⟨"WiringHouseModel", "forget", "()V"⟩, 100) := ⟨⟨by decide +kernel, by decide +kernel⟩, tq9_7 _ (List.mem_of_getElem? (i := 93) (by decide +kernel)), tq9_9 _ (List.mem_of_getElem? (i := 82) (by decide +kernel)), tq9_9 _ (List.mem_of_getElem? (i := 83) (by decide +kernel))⟩
theorem lw_p117 : lw_okq (⟨"WiringHouseModel", "isThere", "(I)Z"⟩, 100) := ⟨⟨by decide +kernel, by decide +kernel⟩, tq9_7 _ (List.mem_of_getElem? (i := 93) (by decide +kernel)), tq9_9 _ (List.mem_of_getElem? (i := 90) (by decide +kernel)), tq9_9 _ (List.mem_of_getElem? (i := 91) (by decide +kernel))⟩
theorem lw_p118 : lw_okq (⟨"WiringHouseModel", "checkNeed", "(II)V"⟩, 100) := ⟨⟨by decide +kernel, by decide +kernel⟩, tq9_7 _ (List.mem_of_getElem? (i := 93) (by decide +kernel)), tq9_9 _ (List.mem_of_getElem? (i := 94) (by decide +kernel)), tq9_9 _ (List.mem_of_getElem? (i := 95) (by decide +kernel))⟩
theorem lw_p119 : lw_okq (⟨"WiringHouseModel", "candidatesOf", "(I)I"⟩, 100) := ⟨⟨by decide +kernel, by decide +kernel⟩, tq9_7 _ (List.mem_of_getElem? (i := 93) (by decide +kernel)), tq9_9 _ (List.mem_of_getElem? (i := 98) (by decide +kernel)), tq9_9 _ (List.mem_of_getElem? (i := 99) (by decide +kernel))⟩
theorem lw_p120 : lw_okq (⟨"WiringHouseModel", "suits", "(II)Z"⟩, 100) := ⟨⟨by decide +kernel, by decide +kernel⟩, tq9_7 _ (List.mem_of_getElem? (i := 93) (by decide +kernel)), tq9_9 _ (List.mem_of_getElem? (i := 102) (by decide +kernel)), tq9_9 _ (List.mem_of_getElem? (i := 103) (by decide +kernel))⟩
theorem lw_p121 : lw_okq (⟨"WiringHouseModel", "addFault", "(III)V"⟩, 100) := ⟨⟨by decide +kernel, by decide +kernel⟩, tq9_7 _ (List.mem_of_getElem? (i := 93) (by decide +kernel)), tq9_9 _ (List.mem_of_getElem? (i := 109) (by decide +kernel)), tq9_9 _ (List.mem_of_getElem? (i := 110) (by decide +kernel))⟩
theorem lw_p122 : lw_okq (⟨"WiringHouseModel", "visits", "(I)V"⟩, 100) := ⟨⟨by decide +kernel, by decide +kernel⟩, tq9_7 _ (List.mem_of_getElem? (i := 93) (by decide +kernel)), tq9_9 _ (List.mem_of_getElem? (i := 113) (by decide +kernel)), tq9_9 _ (List.mem_of_getElem? (i := 114) (by decide +kernel))⟩
theorem lw_p123 : lw_okq (⟨"WiringHouseModel", "isCandidate", "(II)Z"⟩, 100) := ⟨⟨by decide +kernel, by decide +kernel⟩, tq9_7 _ (List.mem_of_getElem? (i := 93) (by decide +kernel)), tq9_9 _ (List.mem_of_getElem? (i := 117) (by decide +kernel)), tq9_9 _ (List.mem_of_getElem? (i := 118) (by decide +kernel))⟩
theorem lw_p124 : lw_okq (⟨"WiringHouseModel", "addCycle", "(I)V"⟩, 100) := ⟨⟨by decide +kernel, by decide +kernel⟩, tq9_7 _ (List.mem_of_getElem? (i := 93) (by decide +kernel)), tq9_9 _ (List.mem_of_getElem? (i := 121) (by decide +kernel)), tq9_9 _ (List.mem_of_getElem? (i := 122) (by decide +kernel))⟩
theorem lw_p125 : lw_okq (⟨"WiringHouseModel", "scope", "(II)I"⟩, 100) := ⟨⟨by decide +kernel, by decide +kernel⟩, tq9_7 _ (List.mem_of_getElem? (i := 93) (by decide +kernel)), tq9_9 _ (List.mem_of_getElem? (i := 141) (by decide +kernel)), tq9_9 _ (List.mem_of_getElem? (i := 142) (by decide +kernel))⟩
theorem lw_p126 : lw_okq (⟨"WiringHouseModel", "isScope", "(I)Z"⟩, 100) := ⟨⟨by decide +kernel, by decide +kernel⟩, tq9_7 _ (List.mem_of_getElem? (i := 93) (by decide +kernel)), tq9_9 _ (List.mem_of_getElem? (i := 149) (by decide +kernel)), tq9_9 _ (List.mem_of_getElem? (i := 150) (by decide +kernel))⟩
theorem lw_p127 : lw_okq (⟨"WiringHouseModel", "begins", "()V"⟩, 100) := ⟨⟨by decide +kernel, by decide +kernel⟩, tq9_7 _ (List.mem_of_getElem? (i := 93) (by decide +kernel)), tq9_9 _ (List.mem_of_getElem? (i := 157) (by decide +kernel)), tq9_9 _ (List.mem_of_getElem? (i := 158) (by decide +kernel))⟩
def lw_privs_8 : List (MethodName × Nat) := [(⟨"WiringHouseModel", "partWithin", "()V"⟩, 100), (⟨"WiringHouseModel", "pick", "()V"⟩, 100), (⟨"WiringHouseModel", "bracketed", "()V"⟩, 100), (⟨"WiringHouseModel", "toldWrap", "()V"⟩, 100), (⟨"WiringHouseModel", "forget", "()V"⟩, 100), (⟨"WiringHouseModel", "isThere", "(I)Z"⟩, 100), (⟨"WiringHouseModel", "checkNeed", "(II)V"⟩, 100), (⟨"WiringHouseModel", "candidatesOf", "(I)I"⟩, 100), (⟨"WiringHouseModel", "suits", "(II)Z"⟩, 100), (⟨"WiringHouseModel", "addFault", "(III)V"⟩, 100), (⟨"WiringHouseModel", "visits", "(I)V"⟩, 100), (⟨"WiringHouseModel", "isCandidate", "(II)Z"⟩, 100), (⟨"WiringHouseModel", "addCycle", "(I)V"⟩, 100), (⟨"WiringHouseModel", "scope", "(II)I"⟩, 100), (⟨"WiringHouseModel", "isScope", "(I)Z"⟩, 100), (⟨"WiringHouseModel", "begins", "()V"⟩, 100)]
theorem lw_r8 : ∀ q ∈ lw_privs_8, lw_okq q := List.forall_mem_cons.mpr ⟨lw_p112, List.forall_mem_cons.mpr ⟨lw_p113, List.forall_mem_cons.mpr ⟨lw_p114, List.forall_mem_cons.mpr ⟨lw_p115, List.forall_mem_cons.mpr ⟨lw_p116, List.forall_mem_cons.mpr ⟨lw_p117, List.forall_mem_cons.mpr ⟨lw_p118, List.forall_mem_cons.mpr ⟨lw_p119, List.forall_mem_cons.mpr ⟨lw_p120, List.forall_mem_cons.mpr ⟨lw_p121, List.forall_mem_cons.mpr ⟨lw_p122, List.forall_mem_cons.mpr ⟨lw_p123, List.forall_mem_cons.mpr ⟨lw_p124, List.forall_mem_cons.mpr ⟨lw_p125, List.forall_mem_cons.mpr ⟨lw_p126, List.forall_mem_cons.mpr ⟨lw_p127, fun _ h => absurd h List.not_mem_nil⟩⟩⟩⟩⟩⟩⟩⟩⟩⟩⟩⟩⟩⟩⟩⟩
theorem lw_p128 : lw_okq (⟨"WiringHouseModel", "getsWhole", "(II)I"⟩, 100) := ⟨⟨by decide +kernel, by decide +kernel⟩, tq9_7 _ (List.mem_of_getElem? (i := 93) (by decide +kernel)), tq9_9 _ (List.mem_of_getElem? (i := 161) (by decide +kernel)), tq9_9 _ (List.mem_of_getElem? (i := 162) (by decide +kernel))⟩
theorem lw_p129 : lw_okq (⟨"WiringHouseModel", "gets", "(II)I"⟩, 100) := ⟨⟨by decide +kernel, by decide +kernel⟩, tq9_7 _ (List.mem_of_getElem? (i := 93) (by decide +kernel)), tq9_9 _ (List.mem_of_getElem? (i := 165) (by decide +kernel)), tq9_9 _ (List.mem_of_getElem? (i := 166) (by decide +kernel))⟩
theorem lw_p130 : lw_okq (⟨"WiringHouseModel", "placeOf", "(II)I"⟩, 100) := ⟨⟨by decide +kernel, by decide +kernel⟩, tq9_7 _ (List.mem_of_getElem? (i := 93) (by decide +kernel)), tq9_9 _ (List.mem_of_getElem? (i := 169) (by decide +kernel)), tq9_9 _ (List.mem_of_getElem? (i := 170) (by decide +kernel))⟩
theorem lw_p131 : lw_okq (⟨"WiringHouseModel", "fails", "(I)I"⟩, 100) := ⟨⟨by decide +kernel, by decide +kernel⟩, tq9_7 _ (List.mem_of_getElem? (i := 93) (by decide +kernel)), tq9_9 _ (List.mem_of_getElem? (i := 173) (by decide +kernel)), tq9_9 _ (List.mem_of_getElem? (i := 174) (by decide +kernel))⟩
theorem lw_p132 : lw_okq (⟨"WiringHouseModel", "objectAt", "(II)I"⟩, 100) := ⟨⟨by decide +kernel, by decide +kernel⟩, tq9_7 _ (List.mem_of_getElem? (i := 93) (by decide +kernel)), tq9_9 _ (List.mem_of_getElem? (i := 177) (by decide +kernel)), tq9_9 _ (List.mem_of_getElem? (i := 178) (by decide +kernel))⟩
theorem lw_p133 : lw_okq (⟨"WiringHouseModel", "makes", "(IIZ)I"⟩, 100) := ⟨⟨by decide +kernel, by decide +kernel⟩, tq9_7 _ (List.mem_of_getElem? (i := 93) (by decide +kernel)), tq9_9 _ (List.mem_of_getElem? (i := 181) (by decide +kernel)), tq9_9 _ (List.mem_of_getElem? (i := 182) (by decide +kernel))⟩
theorem lw_p134 : lw_okq (⟨"WiringHouseModel", "step", "()Z"⟩, 100) := ⟨⟨by decide +kernel, by decide +kernel⟩, tq9_7 _ (List.mem_of_getElem? (i := 93) (by decide +kernel)), tq9_9 _ (List.mem_of_getElem? (i := 185) (by decide +kernel)), tq9_9 _ (List.mem_of_getElem? (i := 186) (by decide +kernel))⟩
theorem lw_p135 : lw_okq (⟨"WiringHouseModel", "joinsAll", "(III)I"⟩, 100) := ⟨⟨by decide +kernel, by decide +kernel⟩, tq9_7 _ (List.mem_of_getElem? (i := 93) (by decide +kernel)), tq9_9 _ (List.mem_of_getElem? (i := 190) (by decide +kernel)), tq9_9 _ (List.mem_of_getElem? (i := 191) (by decide +kernel))⟩
theorem lw_p136 : lw_okq (⟨"WiringHouseModel", "works", "(IIIII)I"⟩, 100) := ⟨⟨by decide +kernel, by decide +kernel⟩, tq9_7 _ (List.mem_of_getElem? (i := 93) (by decide +kernel)), tq9_9 _ (List.mem_of_getElem? (i := 194) (by decide +kernel)), tq9_9 _ (List.mem_of_getElem? (i := 195) (by decide +kernel))⟩
theorem lw_p137 : lw_okq (⟨"WiringHouseModel", "worksAround", "(IIIIII)I"⟩, 100) := ⟨⟨by decide +kernel, by decide +kernel⟩, tq9_7 _ (List.mem_of_getElem? (i := 93) (by decide +kernel)), tq9_9 _ (List.mem_of_getElem? (i := 198) (by decide +kernel)), tq9_9 _ (List.mem_of_getElem? (i := 199) (by decide +kernel))⟩
theorem lw_p138 : lw_okq (⟨"WiringHouseModel", "pop", "()I"⟩, 100) := ⟨⟨by decide +kernel, by decide +kernel⟩, tq9_7 _ (List.mem_of_getElem? (i := 93) (by decide +kernel)), tq9_9 _ (List.mem_of_getElem? (i := 202) (by decide +kernel)), tq9_9 _ (List.mem_of_getElem? (i := 203) (by decide +kernel))⟩
theorem lw_p139 : lw_okq (⟨"WiringHouseModel", "arounds", "(IIIII)I"⟩, 100) := ⟨⟨by decide +kernel, by decide +kernel⟩, tq9_7 _ (List.mem_of_getElem? (i := 93) (by decide +kernel)), tq9_9 _ (List.mem_of_getElem? (i := 206) (by decide +kernel)), tq9_9 _ (List.mem_of_getElem? (i := 207) (by decide +kernel))⟩
theorem lw_p140 : lw_okq (⟨"WiringHouseModel", "wrapAt", "(IIII)I"⟩, 100) := ⟨⟨by decide +kernel, by decide +kernel⟩, tq9_7 _ (List.mem_of_getElem? (i := 93) (by decide +kernel)), tq9_9 _ (List.mem_of_getElem? (i := 210) (by decide +kernel)), tq9_9 _ (List.mem_of_getElem? (i := 211) (by decide +kernel))⟩
theorem lw_p141 : lw_okq (⟨"WiringHouseModel", "isWrap", "(IIII)Z"⟩, 100) := ⟨⟨by decide +kernel, by decide +kernel⟩, tq9_7 _ (List.mem_of_getElem? (i := 93) (by decide +kernel)), tq9_9 _ (List.mem_of_getElem? (i := 214) (by decide +kernel)), tq9_9 _ (List.mem_of_getElem? (i := 215) (by decide +kernel))⟩
theorem lw_p142 : lw_okq (⟨"WiringHouseModel", "inside", "(IIII)I"⟩, 100) := ⟨⟨by decide +kernel, by decide +kernel⟩, tq9_7 _ (List.mem_of_getElem? (i := 93) (by decide +kernel)), tq9_9 _ (List.mem_of_getElem? (i := 218) (by decide +kernel)), tq9_9 _ (List.mem_of_getElem? (i := 219) (by decide +kernel))⟩
theorem lw_p143 : lw_okq (⟨"WiringHouseModel", "wrapsOf", "(III)I"⟩, 100) := ⟨⟨by decide +kernel, by decide +kernel⟩, tq9_7 _ (List.mem_of_getElem? (i := 93) (by decide +kernel)), tq9_9 _ (List.mem_of_getElem? (i := 222) (by decide +kernel)), tq9_9 _ (List.mem_of_getElem? (i := 223) (by decide +kernel))⟩
def lw_privs_9 : List (MethodName × Nat) := [(⟨"WiringHouseModel", "getsWhole", "(II)I"⟩, 100), (⟨"WiringHouseModel", "gets", "(II)I"⟩, 100), (⟨"WiringHouseModel", "placeOf", "(II)I"⟩, 100), (⟨"WiringHouseModel", "fails", "(I)I"⟩, 100), (⟨"WiringHouseModel", "objectAt", "(II)I"⟩, 100), (⟨"WiringHouseModel", "makes", "(IIZ)I"⟩, 100), (⟨"WiringHouseModel", "step", "()Z"⟩, 100), (⟨"WiringHouseModel", "joinsAll", "(III)I"⟩, 100), (⟨"WiringHouseModel", "works", "(IIIII)I"⟩, 100), (⟨"WiringHouseModel", "worksAround", "(IIIIII)I"⟩, 100), (⟨"WiringHouseModel", "pop", "()I"⟩, 100), (⟨"WiringHouseModel", "arounds", "(IIIII)I"⟩, 100), (⟨"WiringHouseModel", "wrapAt", "(IIII)I"⟩, 100), (⟨"WiringHouseModel", "isWrap", "(IIII)Z"⟩, 100), (⟨"WiringHouseModel", "inside", "(IIII)I"⟩, 100), (⟨"WiringHouseModel", "wrapsOf", "(III)I"⟩, 100)]
theorem lw_r9 : ∀ q ∈ lw_privs_9, lw_okq q := List.forall_mem_cons.mpr ⟨lw_p128, List.forall_mem_cons.mpr ⟨lw_p129, List.forall_mem_cons.mpr ⟨lw_p130, List.forall_mem_cons.mpr ⟨lw_p131, List.forall_mem_cons.mpr ⟨lw_p132, List.forall_mem_cons.mpr ⟨lw_p133, List.forall_mem_cons.mpr ⟨lw_p134, List.forall_mem_cons.mpr ⟨lw_p135, List.forall_mem_cons.mpr ⟨lw_p136, List.forall_mem_cons.mpr ⟨lw_p137, List.forall_mem_cons.mpr ⟨lw_p138, List.forall_mem_cons.mpr ⟨lw_p139, List.forall_mem_cons.mpr ⟨lw_p140, List.forall_mem_cons.mpr ⟨lw_p141, List.forall_mem_cons.mpr ⟨lw_p142, List.forall_mem_cons.mpr ⟨lw_p143, fun _ h => absurd h List.not_mem_nil⟩⟩⟩⟩⟩⟩⟩⟩⟩⟩⟩⟩⟩⟩⟩⟩
theorem lw_p144 : lw_okq (⟨"WiringHouseModel", "notes", "(III)V"⟩, 100) := ⟨⟨by decide +kernel, by decide +kernel⟩, tq9_7 _ (List.mem_of_getElem? (i := 93) (by decide +kernel)), tq9_9 _ (List.mem_of_getElem? (i := 226) (by decide +kernel)), tq9_9 _ (List.mem_of_getElem? (i := 227) (by decide +kernel))⟩
theorem lw_p145 : lw_okq (⟨"WiringHouseModel", "push", "(I)V"⟩, 100) := ⟨⟨by decide +kernel, by decide +kernel⟩, tq9_7 _ (List.mem_of_getElem? (i := 93) (by decide +kernel)), tq9_9 _ (List.mem_of_getElem? (i := 230) (by decide +kernel)), tq9_9 _ (List.mem_of_getElem? (i := 231) (by decide +kernel))⟩
theorem lw_p146 : lw_okq (⟨"WiringHouseModel", "ofNeed", "(IIIII)I"⟩, 100) := ⟨⟨by decide +kernel, by decide +kernel⟩, tq9_7 _ (List.mem_of_getElem? (i := 93) (by decide +kernel)), tq9_9 _ (List.mem_of_getElem? (i := 234) (by decide +kernel)), tq9_9 _ (List.mem_of_getElem? (i := 235) (by decide +kernel))⟩
theorem lw_p147 : lw_okq (⟨"WiringHouseModel", "ofLate", "(IIIIII)I"⟩, 100) := ⟨⟨by decide +kernel, by decide +kernel⟩, tq9_7 _ (List.mem_of_getElem? (i := 93) (by decide +kernel)), tq9_9 _ (List.mem_of_getElem? (i := 238) (by decide +kernel)), tq9_9 _ (List.mem_of_getElem? (i := 239) (by decide +kernel))⟩
theorem lw_p148 : lw_okq (⟨"WiringHouseModel", "calls", "(IIII)I"⟩, 100) := ⟨⟨by decide +kernel, by decide +kernel⟩, tq9_7 _ (List.mem_of_getElem? (i := 93) (by decide +kernel)), tq9_10 _ (List.mem_of_getElem? (i := 2) (by decide +kernel)), tq9_10 _ (List.mem_of_getElem? (i := 3) (by decide +kernel))⟩
theorem lw_p149 : lw_okq (⟨"WiringHouseModel", "failings", "(III)I"⟩, 100) := ⟨⟨by decide +kernel, by decide +kernel⟩, tq9_7 _ (List.mem_of_getElem? (i := 93) (by decide +kernel)), tq9_10 _ (List.mem_of_getElem? (i := 6) (by decide +kernel)), tq9_10 _ (List.mem_of_getElem? (i := 7) (by decide +kernel))⟩
theorem lw_p150 : lw_okq (⟨"WiringHouseModel", "reckons", "(II)I"⟩, 100) := ⟨⟨by decide +kernel, by decide +kernel⟩, tq9_7 _ (List.mem_of_getElem? (i := 93) (by decide +kernel)), tq9_10 _ (List.mem_of_getElem? (i := 10) (by decide +kernel)), tq9_10 _ (List.mem_of_getElem? (i := 11) (by decide +kernel))⟩
theorem lw_p151 : lw_okq (⟨"WiringHouseModel", "closes", "(I)Z"⟩, 100) := ⟨⟨by decide +kernel, by decide +kernel⟩, tq9_7 _ (List.mem_of_getElem? (i := 93) (by decide +kernel)), tq9_10 _ (List.mem_of_getElem? (i := 14) (by decide +kernel)), tq9_10 _ (List.mem_of_getElem? (i := 15) (by decide +kernel))⟩
theorem lw_p152 : lw_okq (⟨"WiringHouseModel", "ends", "(I)Z"⟩, 100) := ⟨⟨by decide +kernel, by decide +kernel⟩, tq9_7 _ (List.mem_of_getElem? (i := 93) (by decide +kernel)), tq9_10 _ (List.mem_of_getElem? (i := 18) (by decide +kernel)), tq9_10 _ (List.mem_of_getElem? (i := 19) (by decide +kernel))⟩
theorem lw_p153 : lw_okq (⟨"WiringHouseModel", "closeAll", "(I)I"⟩, 100) := ⟨⟨by decide +kernel, by decide +kernel⟩, tq9_7 _ (List.mem_of_getElem? (i := 93) (by decide +kernel)), tq9_10 _ (List.mem_of_getElem? (i := 30) (by decide +kernel)), tq9_10 _ (List.mem_of_getElem? (i := 31) (by decide +kernel))⟩
theorem lw_p154 : lw_okq (⟨"WiringHouseModel", "latestIn", "(I)I"⟩, 100) := ⟨⟨by decide +kernel, by decide +kernel⟩, tq9_7 _ (List.mem_of_getElem? (i := 93) (by decide +kernel)), tq9_10 _ (List.mem_of_getElem? (i := 34) (by decide +kernel)), tq9_10 _ (List.mem_of_getElem? (i := 35) (by decide +kernel))⟩
def lw_privs_10 : List (MethodName × Nat) := [(⟨"WiringHouseModel", "notes", "(III)V"⟩, 100), (⟨"WiringHouseModel", "push", "(I)V"⟩, 100), (⟨"WiringHouseModel", "ofNeed", "(IIIII)I"⟩, 100), (⟨"WiringHouseModel", "ofLate", "(IIIIII)I"⟩, 100), (⟨"WiringHouseModel", "calls", "(IIII)I"⟩, 100), (⟨"WiringHouseModel", "failings", "(III)I"⟩, 100), (⟨"WiringHouseModel", "reckons", "(II)I"⟩, 100), (⟨"WiringHouseModel", "closes", "(I)Z"⟩, 100), (⟨"WiringHouseModel", "ends", "(I)Z"⟩, 100), (⟨"WiringHouseModel", "closeAll", "(I)I"⟩, 100), (⟨"WiringHouseModel", "latestIn", "(I)I"⟩, 100)]
theorem lw_r10 : ∀ q ∈ lw_privs_10, lw_okq q := List.forall_mem_cons.mpr ⟨lw_p144, List.forall_mem_cons.mpr ⟨lw_p145, List.forall_mem_cons.mpr ⟨lw_p146, List.forall_mem_cons.mpr ⟨lw_p147, List.forall_mem_cons.mpr ⟨lw_p148, List.forall_mem_cons.mpr ⟨lw_p149, List.forall_mem_cons.mpr ⟨lw_p150, List.forall_mem_cons.mpr ⟨lw_p151, List.forall_mem_cons.mpr ⟨lw_p152, List.forall_mem_cons.mpr ⟨lw_p153, List.forall_mem_cons.mpr ⟨lw_p154, fun _ h => absurd h List.not_mem_nil⟩⟩⟩⟩⟩⟩⟩⟩⟩⟩⟩
def lw_privs : List (MethodName × Nat) := lw_privs_1 ++ (lw_privs_2 ++ (lw_privs_3 ++ (lw_privs_4 ++ (lw_privs_5 ++ (lw_privs_6 ++ (lw_privs_7 ++ (lw_privs_8 ++ (lw_privs_9 ++ (lw_privs_10)))))))))
def lw_tbl : List Cond := k2_sels lw_privs ++ tables_1
theorem lw_privs_ok : ∀ q ∈ lw_privs, lw_okq q := by
  show ∀ q ∈ lw_privs_1 ++ (lw_privs_2 ++ (lw_privs_3 ++ (lw_privs_4 ++ (lw_privs_5 ++ (lw_privs_6 ++ (lw_privs_7 ++ (lw_privs_8 ++ (lw_privs_9 ++ (lw_privs_10))))))))), lw_okq q
  exact List.forall_mem_append.mpr ⟨lw_r1, List.forall_mem_append.mpr ⟨lw_r2, List.forall_mem_append.mpr ⟨lw_r3, List.forall_mem_append.mpr ⟨lw_r4, List.forall_mem_append.mpr ⟨lw_r5, List.forall_mem_append.mpr ⟨lw_r6, List.forall_mem_append.mpr ⟨lw_r7, List.forall_mem_append.mpr ⟨lw_r8, List.forall_mem_append.mpr ⟨lw_r9, lw_r10⟩⟩⟩⟩⟩⟩⟩⟩⟩
-- ===== end of PART A; then your names; then what follows =====
/-! THE CLAIM OUT OF ONE WALK OF THE LAW'S BODY. Your part is whole_start (and what it stands on); all else here is the same for every law, but numbers. -/
def R_law : String := "WiringHouseLaw"
def lw_P (b : Addr) (xs : List Int32) (args : Array Value) (s : State) : Prop := args = #[.ref b] ∧ s.IntsAt b xs ∧ xs.length ≤ 3584 ∧ (Jvm.Cond.and given_1 narrow_1).before args s = true
def lw_Q (_ : Array Value) (s : State) (o : Outcome) (t : State) : Prop := o = .returned (some (.int 1)) ∧ Framed s o t [] 601024 7293034
def lw_Z (below : List Frame) (a : Array Value) (s : State) : State → Prop := fun t => ∃ o, t.status = .running ∧ Ended t below o ∧ lw_Q a s o t
/-- the law's own end, with 1 on the stack, nothing written that was there before, its room as the claim has it -/
theorem lw_ret {p : Program} {l : Launch} {e : Env} {s : State} {m : MethodId} {below : List Frame} {meth : Method} {c : Code} {b : Nat} (hx : p.tables.exec = Jvm.exec) (hb : c.code = code) (hr : meth.sig.returnType = ret) (hlocks : meth.locks = false) {pc : Nat} {H : Heap} {ls : Array Slot} (hdg : decode code pc = .ok (.ireturn, 1)) : W p l e room_1 s m #[Value.ref b] below meth c H [] 601024 7293034 (lw_Z below #[Value.ref b] s) (F0 m pc ls [.int 1]) := by
  intro T hT X
  obtain ⟨fs, hret, hrun, hended, hW, hframe⟩ := X.leave (v := some (.int 1)) (hlocks := hlocks) (fun h => by rw [hr] at h; cases h)
  have hmeth' : T.vm.method? m = some meth := X.method'
  refine ⟨T.setFrames fs, ?_, .returned (some (.int 1)), hrun, hended, rfl, ⟨_, rfl⟩, hW, hframe⟩
  jvm_step X.here [X.here.top, hx, hb, hdg, hmeth', hr, ret, narrow_b1]
  (try refine ⟨rfl, ?_⟩); (try refine ⟨rfl, ?_⟩)
  first | (intro acts; rw [hret _ acts rfl rfl rfl]) | rw [hret _ _ rfl rfl rfl]
  exact Steps.refl _
/-- what holds at the law's entry: the machine, the code, the tables' words (any of lw_tbl by 'hts w (by decide +kernel)'), the script of L ints xs at the cell b, what the Statement gives of the start (any of its parts by flat_of_before) -/
def lw_At (p : Program) (s : State) (m : MethodId) (meth : Method) (c : Code) (b L : Nat) (xs : Nat → Int32) : Prop :=
  p.tables.exec = Jvm.exec ∧ c.code = code ∧ meth.sig.returnType = ret ∧ c.maxLocals = 7 ∧ s.vm.findClass R_law = some m.cls ∧ (∀ w ∈ lw_tbl, w.before #[Value.ref b] s = true) ∧ va_X b L xs s s.heap ∧ b < s.heap.size ∧ meth.locks = false ∧ (Jvm.Cond.and given_1 narrow_1).before #[Value.ref b] s = true
def RX0 : String := "WiringHouse$Book"
def TX0 : u_T := fun k => match k with
  | 0 => ("WiringHouse$Book", "types", "LWiringHouse$Names;", true)
  | 1 => ("WiringHouse$Book", "settings", "LWiringHouse$Names;", true)
  | 2 => ("WiringHouse$Book", "names", "LWiringHouse$Names;", true)
  | 3 => ("WiringHouse$Book", "methods", "LWiringHouse$Names;", true)
  | 4 => ("WiringHouse$Book", "words", "LWiringHouse$Names;", true)
  | 5 => ("WiringHouse$Book", "typeUnder", "[I", true)
  | 6 => ("WiringHouse$Book", "settingValues", "[I", true)
  | 7 => ("WiringHouse$Book", "components", "[LWiringHouse$Component;", true)
  | 8 => ("WiringHouse$Book", "wraps", "[LWiringHouse$Wrap;", true)
  | 9 => ("WiringHouse$Book", "wrapOrder", "[I", true)
  | 10 => ("WiringHouse$Book", "code", "[I", true)
  | 11 => ("WiringHouse$Book", "wrapCount", "I", false)
  | _ => ("WiringHouse$Book", "codeLength", "I", false)
def tyX0 : Nat → FieldType := fun k => match k with
  | 0 => .object "WiringHouse$Names"
  | 1 => .object "WiringHouse$Names"
  | 2 => .object "WiringHouse$Names"
  | 3 => .object "WiringHouse$Names"
  | 4 => .object "WiringHouse$Names"
  | 5 => .array .int
  | 6 => .array .int
  | 7 => .array (.object "WiringHouse$Component")
  | 8 => .array (.object "WiringHouse$Wrap")
  | 9 => .array .int
  | 10 => .array .int
  | 11 => .int
  | _ => .int
abbrev wsX00 : List Cond := u_ws RX0 TX0 13
theorem nmX0 : ∀ a, a < 13 → ∀ b, b < 13 → a ≠ b → (TX0 a).2.1 ≠ (TX0 b).2.1 := by decide +kernel
theorem tyX0_ok : ∀ k, k < 13 → parseFieldDescriptor (TX0 k).2.2.1 = some (tyX0 k) := by decide +kernel
abbrev cX0_init : ByteArray := prog_2_method_1_code
def yX0_init : MethodName := ⟨RX0, "<init>", "()V"⟩
abbrev cX0_clear : ByteArray := prog_2_method_2_code
def yX0_clear : MethodName := ⟨RX0, "clear", "()V"⟩
abbrev cX0_numberOf : ByteArray := prog_2_method_3_code
def yX0_numberOf : MethodName := ⟨RX0, "numberOf", "(JI)I"⟩
abbrev cX0_isTold : ByteArray := prog_2_method_4_code
def yX0_isTold : MethodName := ⟨RX0, "isTold", "(J)Z"⟩
abbrev cX0_has : ByteArray := prog_2_method_5_code
def yX0_has : MethodName := ⟨RX0, "has", "(I)Z"⟩
abbrev cX0_isThere : ByteArray := prog_2_method_6_code
def yX0_isThere : MethodName := ⟨RX0, "isThere", "(I)Z"⟩
abbrev cX0_candidates : ByteArray := prog_2_method_7_code
def yX0_candidates : MethodName := ⟨RX0, "candidates", "(II)I"⟩
abbrev cX0_firstCandidate : ByteArray := prog_2_method_8_code
def yX0_firstCandidate : MethodName := ⟨RX0, "firstCandidate", "(II)I"⟩
abbrev cX0_addWrap : ByteArray := prog_2_method_9_code
def yX0_addWrap : MethodName := ⟨RX0, "addWrap", "(IIIII)V"⟩
abbrev cX0_aroundsOf : ByteArray := prog_2_method_10_code
def yX0_aroundsOf : MethodName := ⟨RX0, "aroundsOf", "(I)I"⟩
abbrev cX0_wrapFrom : ByteArray := prog_2_method_11_code
def yX0_wrapFrom : MethodName := ⟨RX0, "wrapFrom", "(IIII)I"⟩
abbrev cX0_wrapBackFrom : ByteArray := prog_2_method_12_code
def yX0_wrapBackFrom : MethodName := ⟨RX0, "wrapBackFrom", "(IIII)I"⟩
abbrev cX0_isFor : ByteArray := prog_2_method_13_code
def yX0_isFor : MethodName := ⟨RX0, "isFor", "(LWiringHouse$Wrap;III)Z"⟩
abbrev cX0_emit : ByteArray := prog_2_method_14_code
def yX0_emit : MethodName := ⟨RX0, "emit", "(I)V"⟩
abbrev cX0_patch : ByteArray := prog_2_method_15_code
def yX0_patch : MethodName := ⟨RX0, "patch", "(II)V"⟩
def RX1 : String := "WiringHouse$BookReader"
def TX1 : u_T := fun k => match k with
  | 0 => ("WiringHouse$BookReader", "tape", "LWiringHouse$Tape;", true)
  | 1 => ("WiringHouse$BookReader", "book", "LWiringHouse$Book;", false)
  | 2 => ("WiringHouse$BookReader", "owner", "LWiringHouse$Component;", false)
  | 3 => ("WiringHouse$BookReader", "fault", "I", false)
  | 4 => ("WiringHouse$BookReader", "where", "I", false)
  | 5 => ("WiringHouse$BookReader", "word", "J", false)
  | 6 => ("WiringHouse$BookReader", "found", "I", false)
  | 7 => ("WiringHouse$BookReader", "under", "I", false)
  | _ => ("WiringHouse$BookReader", "number", "I", false)
def tyX1 : Nat → FieldType := fun k => match k with
  | 0 => .object "WiringHouse$Tape"
  | 1 => .object "WiringHouse$Book"
  | 2 => .object "WiringHouse$Component"
  | 3 => .int
  | 4 => .int
  | 5 => .long
  | 6 => .int
  | 7 => .int
  | _ => .int
abbrev wsX10 : List Cond := u_ws RX1 TX1 9
theorem nmX1 : ∀ a, a < 9 → ∀ b, b < 9 → a ≠ b → (TX1 a).2.1 ≠ (TX1 b).2.1 := by decide +kernel
theorem tyX1_ok : ∀ k, k < 9 → parseFieldDescriptor (TX1 k).2.2.1 = some (tyX1 k) := by decide +kernel
abbrev cX1_init : ByteArray := prog_3_method_1_code
def yX1_init : MethodName := ⟨RX1, "<init>", "(LWiringHouse$Tape;)V"⟩
abbrev cX1_read : ByteArray := prog_3_method_2_code
def yX1_read : MethodName := ⟨RX1, "read", "(LWiringHouse$Book;)I"⟩
abbrev cX1_readStatement : ByteArray := prog_3_method_3_code
def yX1_readStatement : MethodName := ⟨RX1, "readStatement", "()Z"⟩
abbrev cX1_readType : ByteArray := prog_3_method_4_code
def yX1_readType : MethodName := ⟨RX1, "readType", "()Z"⟩
abbrev cX1_readSetting : ByteArray := prog_3_method_5_code
def yX1_readSetting : MethodName := ⟨RX1, "readSetting", "()Z"⟩
abbrev cX1_readComponent : ByteArray := prog_3_method_6_code
def yX1_readComponent : MethodName := ⟨RX1, "readComponent", "()Z"⟩
abbrev cX1_readExtras : ByteArray := prog_3_method_7_code
def yX1_readExtras : MethodName := ⟨RX1, "readExtras", "(LWiringHouse$Component;)Z"⟩
abbrev cX1_readWrap : ByteArray := prog_3_method_8_code
def yX1_readWrap : MethodName := ⟨RX1, "readWrap", "()Z"⟩
abbrev cX1_readMember : ByteArray := prog_3_method_9_code
def yX1_readMember : MethodName := ⟨RX1, "readMember", "()Z"⟩
abbrev cX1_readNeed : ByteArray := prog_3_method_10_code
def yX1_readNeed : MethodName := ⟨RX1, "readNeed", "()Z"⟩
abbrev cX1_readMethod : ByteArray := prog_3_method_11_code
def yX1_readMethod : MethodName := ⟨RX1, "readMethod", "()Z"⟩
abbrev cX1_readE : ByteArray := prog_3_method_12_code
def yX1_readE : MethodName := ⟨RX1, "readE", "(I)Z"⟩
abbrev cX1_readExpression : ByteArray := prog_3_method_13_code
def yX1_readExpression : MethodName := ⟨RX1, "readExpression", "(I)Z"⟩
abbrev cX1_readSum : ByteArray := prog_3_method_14_code
def yX1_readSum : MethodName := ⟨RX1, "readSum", "(I)Z"⟩
abbrev cX1_readProduct : ByteArray := prog_3_method_15_code
def yX1_readProduct : MethodName := ⟨RX1, "readProduct", "(I)Z"⟩
abbrev cX1_readPart : ByteArray := prog_3_method_16_code
def yX1_readPart : MethodName := ⟨RX1, "readPart", "(I)Z"⟩
abbrev cX1_beginsPart : ByteArray := prog_3_method_17_code
def yX1_beginsPart : MethodName := ⟨RX1, "beginsPart", "()Z"⟩
abbrev cX1_readWithin : ByteArray := prog_3_method_18_code
def yX1_readWithin : MethodName := ⟨RX1, "readWithin", "(I)Z"⟩
abbrev cX1_readPick : ByteArray := prog_3_method_19_code
def yX1_readPick : MethodName := ⟨RX1, "readPick", "(I)Z"⟩
abbrev cX1_readOf : ByteArray := prog_3_method_20_code
def yX1_readOf : MethodName := ⟨RX1, "readOf", "(I)Z"⟩
abbrev cX1_putAlone : ByteArray := prog_3_method_21_code
def yX1_putAlone : MethodName := ⟨RX1, "putAlone", "(I)Z"⟩
abbrev cX1_put : ByteArray := prog_3_method_22_code
def yX1_put : MethodName := ⟨RX1, "put", "(II)Z"⟩
abbrev cX1_take : ByteArray := prog_3_method_23_code
def yX1_take : MethodName := ⟨RX1, "take", "(I)Z"⟩
abbrev cX1_takeNumber : ByteArray := prog_3_method_24_code
def yX1_takeNumber : MethodName := ⟨RX1, "takeNumber", "(II)Z"⟩
abbrev cX1_takeNewName : ByteArray := prog_3_method_25_code
def yX1_takeNewName : MethodName := ⟨RX1, "takeNewName", "()Z"⟩
abbrev cX1_isToldType : ByteArray := prog_3_method_26_code
def yX1_isToldType : MethodName := ⟨RX1, "isToldType", "()Z"⟩
abbrev cX1_takeTypes : ByteArray := prog_3_method_27_code
def yX1_takeTypes : MethodName := ⟨RX1, "takeTypes", "()Z"⟩
abbrev cX1_takeSetting : ByteArray := prog_3_method_28_code
def yX1_takeSetting : MethodName := ⟨RX1, "takeSetting", "()Z"⟩
abbrev cX1_takeMethod : ByteArray := prog_3_method_29_code
def yX1_takeMethod : MethodName := ⟨RX1, "takeMethod", "(LWiringHouse$Component;)Z"⟩
abbrev cX1_takeCalled : ByteArray := prog_3_method_30_code
def yX1_takeCalled : MethodName := ⟨RX1, "takeCalled", "()Z"⟩
abbrev cX1_takeNumbered : ByteArray := prog_3_method_31_code
def yX1_takeNumbered : MethodName := ⟨RX1, "takeNumbered", "(LWiringHouse$Names;I)Z"⟩
abbrev cX1_wrong : ByteArray := prog_3_method_32_code
def yX1_wrong : MethodName := ⟨RX1, "wrong", "(I)Z"⟩
def RX2 : String := "WiringHouse$Checker"
def TX2 : u_T := fun k => match k with
  | 0 => ("WiringHouse$Checker", "kinds", "[I", true)
  | 1 => ("WiringHouse$Checker", "whose", "[I", true)
  | 2 => ("WiringHouse$Checker", "details", "[I", true)
  | 3 => ("WiringHouse$Checker", "rings", "[I", true)
  | 4 => ("WiringHouse$Checker", "path", "[I", true)
  | 5 => ("WiringHouse$Checker", "onPath", "[I", true)
  | 6 => ("WiringHouse$Checker", "book", "LWiringHouse$Book;", false)
  | _ => ("WiringHouse$Checker", "faults", "I", false)
def tyX2 : Nat → FieldType := fun k => match k with
  | 0 => .array .int
  | 1 => .array .int
  | 2 => .array .int
  | 3 => .array .int
  | 4 => .array .int
  | 5 => .array .int
  | 6 => .object "WiringHouse$Book"
  | _ => .int
abbrev wsX20 : List Cond := u_ws RX2 TX2 8
theorem nmX2 : ∀ a, a < 8 → ∀ b, b < 8 → a ≠ b → (TX2 a).2.1 ≠ (TX2 b).2.1 := by decide +kernel
theorem tyX2_ok : ∀ k, k < 8 → parseFieldDescriptor (TX2 k).2.2.1 = some (tyX2 k) := by decide +kernel
abbrev cX2_init : ByteArray := prog_4_method_1_code
def yX2_init : MethodName := ⟨RX2, "<init>", "()V"⟩
abbrev cX2_clear : ByteArray := prog_4_method_2_code
def yX2_clear : MethodName := ⟨RX2, "clear", "()V"⟩
abbrev cX2_examine : ByteArray := prog_4_method_3_code
def yX2_examine : MethodName := ⟨RX2, "examine", "(LWiringHouse$Book;)I"⟩
abbrev cX2_examineNeeds : ByteArray := prog_4_method_4_code
def yX2_examineNeeds : MethodName := ⟨RX2, "examineNeeds", "(I)V"⟩
abbrev cX2_faultOf : ByteArray := prog_4_method_5_code
def yX2_faultOf : MethodName := ⟨RX2, "faultOf", "(II)I"⟩
abbrev cX2_hasShorter : ByteArray := prog_4_method_6_code
def yX2_hasShorter : MethodName := ⟨RX2, "hasShorter", "(II)Z"⟩
abbrev cX2_follow : ByteArray := prog_4_method_7_code
def yX2_follow : MethodName := ⟨RX2, "follow", "(II)V"⟩
abbrev cX2_followed : ByteArray := prog_4_method_8_code
def yX2_followed : MethodName := ⟨RX2, "followed", "(II)I"⟩
abbrev cX2_noteRing : ByteArray := prog_4_method_9_code
def yX2_noteRing : MethodName := ⟨RX2, "noteRing", "(II)V"⟩
abbrev cX2_note : ByteArray := prog_4_method_10_code
def yX2_note : MethodName := ⟨RX2, "note", "(III)V"⟩
abbrev cX2_tells : ByteArray := prog_4_method_11_code
def yX2_tells : MethodName := ⟨RX2, "tells", "(I)Z"⟩
abbrev cX2_tell : ByteArray := prog_4_method_12_code
def yX2_tell : MethodName := ⟨RX2, "tell", "(II)I"⟩
abbrev cX2_onRing : ByteArray := prog_4_method_13_code
def yX2_onRing : MethodName := ⟨RX2, "onRing", "(II)I"⟩
def RX3 : String := "WiringHouse$Component"
def TX3 : u_T := fun k => match k with
  | 0 => ("WiringHouse$Component", "needTypes", "[I", true)
  | 1 => ("WiringHouse$Component", "needWords", "[I", true)
  | 2 => ("WiringHouse$Component", "needKinds", "[I", true)
  | 3 => ("WiringHouse$Component", "methodStarts", "[I", true)
  | 4 => ("WiringHouse$Component", "needs", "I", false)
  | 5 => ("WiringHouse$Component", "under", "I", false)
  | 6 => ("WiringHouse$Component", "scope", "I", false)
  | 7 => ("WiringHouse$Component", "calledWord", "I", false)
  | 8 => ("WiringHouse$Component", "rank", "I", false)
  | 9 => ("WiringHouse$Component", "whenSetting", "I", false)
  | 10 => ("WiringHouse$Component", "whenValue", "I", false)
  | 11 => ("WiringHouse$Component", "openedStart", "I", false)
  | _ => ("WiringHouse$Component", "closedStart", "I", false)
def tyX3 : Nat → FieldType := fun k => match k with
  | 0 => .array .int
  | 1 => .array .int
  | 2 => .array .int
  | 3 => .array .int
  | 4 => .int
  | 5 => .int
  | 6 => .int
  | 7 => .int
  | 8 => .int
  | 9 => .int
  | 10 => .int
  | 11 => .int
  | _ => .int
abbrev wsX30 : List Cond := u_ws RX3 TX3 13
theorem nmX3 : ∀ a, a < 13 → ∀ b, b < 13 → a ≠ b → (TX3 a).2.1 ≠ (TX3 b).2.1 := by decide +kernel
theorem tyX3_ok : ∀ k, k < 13 → parseFieldDescriptor (TX3 k).2.2.1 = some (tyX3 k) := by decide +kernel
abbrev cX3_init : ByteArray := prog_5_method_1_code
def yX3_init : MethodName := ⟨RX3, "<init>", "()V"⟩
abbrev cX3_clear : ByteArray := prog_5_method_2_code
def yX3_clear : MethodName := ⟨RX3, "clear", "()V"⟩
abbrev cX3_addNeed : ByteArray := prog_5_method_3_code
def yX3_addNeed : MethodName := ⟨RX3, "addNeed", "(III)V"⟩
def RX4 : String := "WiringHouse$Frame"
def TX4 : u_T := fun k => match k with
  | 0 => ("WiringHouse$Frame", "kind", "I", false)
  | 1 => ("WiringHouse$Frame", "phase", "I", false)
  | 2 => ("WiringHouse$Frame", "level", "I", false)
  | 3 => ("WiringHouse$Frame", "object", "I", false)
  | 4 => ("WiringHouse$Frame", "component", "I", false)
  | 5 => ("WiringHouse$Frame", "scope", "I", false)
  | 6 => ("WiringHouse$Frame", "method", "I", false)
  | 7 => ("WiringHouse$Frame", "arg", "I", false)
  | 8 => ("WiringHouse$Frame", "position", "I", false)
  | 9 => ("WiringHouse$Frame", "item", "I", false)
  | 10 => ("WiringHouse$Frame", "target", "I", false)
  | 11 => ("WiringHouse$Frame", "given", "I", false)
  | 12 => ("WiringHouse$Frame", "sum", "I", false)
  | 13 => ("WiringHouse$Frame", "mark", "I", false)
  | 14 => ("WiringHouse$Frame", "needs", "I", false)
  | 15 => ("WiringHouse$Frame", "failure", "I", false)
  | 16 => ("WiringHouse$Frame", "spent", "Z", false)
  | 17 => ("WiringHouse$Frame", "at", "I", false)
  | _ => ("WiringHouse$Frame", "base", "I", false)
def tyX4 : Nat → FieldType := fun k => match k with
  | 0 => .int
  | 1 => .int
  | 2 => .int
  | 3 => .int
  | 4 => .int
  | 5 => .int
  | 6 => .int
  | 7 => .int
  | 8 => .int
  | 9 => .int
  | 10 => .int
  | 11 => .int
  | 12 => .int
  | 13 => .int
  | 14 => .int
  | 15 => .int
  | 16 => .boolean
  | 17 => .int
  | _ => .int
abbrev wsX40 : List Cond := u_ws RX4 TX4 19
theorem nmX4 : ∀ a, a < 19 → ∀ b, b < 19 → a ≠ b → (TX4 a).2.1 ≠ (TX4 b).2.1 := by decide +kernel
theorem tyX4_ok : ∀ k, k < 19 → parseFieldDescriptor (TX4 k).2.2.1 = some (tyX4 k) := by decide +kernel
abbrev cX4_init : ByteArray := prog_6_method_1_code
def yX4_init : MethodName := ⟨RX4, "<init>", "()V"⟩
def RX5 : String := "WiringHouse$Machine"
def TX5 : u_T := fun k => match k with
  | 0 => ("WiringHouse$Machine", "stock", "LWiringHouse$Stock;", true)
  | 1 => ("WiringHouse$Machine", "notes", "LWiringHouse$Notes;", true)
  | 2 => ("WiringHouse$Machine", "frames", "[LWiringHouse$Frame;", true)
  | 3 => ("WiringHouse$Machine", "values", "[I", true)
  | 4 => ("WiringHouse$Machine", "made", "[I", true)
  | 5 => ("WiringHouse$Machine", "book", "LWiringHouse$Book;", false)
  | 6 => ("WiringHouse$Machine", "depth", "I", false)
  | 7 => ("WiringHouse$Machine", "top", "I", false)
  | 8 => ("WiringHouse$Machine", "madeCount", "I", false)
  | 9 => ("WiringHouse$Machine", "signal", "I", false)
  | 10 => ("WiringHouse$Machine", "answer", "I", false)
  | 11 => ("WiringHouse$Machine", "needs", "I", false)
  | 12 => ("WiringHouse$Machine", "failure", "I", false)
  | 13 => ("WiringHouse$Machine", "stepsNow", "I", false)
  | _ => ("WiringHouse$Machine", "stepsInAll", "I", false)
def tyX5 : Nat → FieldType := fun k => match k with
  | 0 => .object "WiringHouse$Stock"
  | 1 => .object "WiringHouse$Notes"
  | 2 => .array (.object "WiringHouse$Frame")
  | 3 => .array .int
  | 4 => .array .int
  | 5 => .object "WiringHouse$Book"
  | 6 => .int
  | 7 => .int
  | 8 => .int
  | 9 => .int
  | 10 => .int
  | 11 => .int
  | 12 => .int
  | 13 => .int
  | _ => .int
abbrev wsX50 : List Cond := u_ws RX5 TX5 15
theorem nmX5 : ∀ a, a < 15 → ∀ b, b < 15 → a ≠ b → (TX5 a).2.1 ≠ (TX5 b).2.1 := by decide +kernel
theorem tyX5_ok : ∀ k, k < 15 → parseFieldDescriptor (TX5 k).2.2.1 = some (tyX5 k) := by decide +kernel
abbrev cX5_init : ByteArray := prog_7_method_1_code
def yX5_init : MethodName := ⟨RX5, "<init>", "(LWiringHouse$Book;LWiringHouse$Stock;LWiringHouse$Notes;)V"⟩
abbrev cX5_takeBook : ByteArray := prog_7_method_2_code
def yX5_takeBook : MethodName := ⟨RX5, "takeBook", "(LWiringHouse$Book;)V"⟩
abbrev cX5_restart : ByteArray := prog_7_method_3_code
def yX5_restart : MethodName := ⟨RX5, "restart", "()V"⟩
abbrev cX5_isSpent : ByteArray := prog_7_method_4_code
def yX5_isSpent : MethodName := ⟨RX5, "isSpent", "()Z"⟩
abbrev cX5_howItEnded : ByteArray := prog_7_method_5_code
def yX5_howItEnded : MethodName := ⟨RX5, "howItEnded", "()I"⟩
abbrev cX5_answerOr : ByteArray := prog_7_method_6_code
def yX5_answerOr : MethodName := ⟨RX5, "answerOr", "(I)I"⟩
abbrev cX5_run : ByteArray := prog_7_method_7_code
def yX5_run : MethodName := ⟨RX5, "run", "()V"⟩
abbrev cX5_push : ByteArray := prog_7_method_8_code
def yX5_push : MethodName := ⟨RX5, "push", "(IIIII)LWiringHouse$Frame;"⟩
abbrev cX5_pushRoot : ByteArray := prog_7_method_9_code
def yX5_pushRoot : MethodName := ⟨RX5, "pushRoot", "(III)V"⟩
abbrev cX5_pushCall : ByteArray := prog_7_method_10_code
def yX5_pushCall : MethodName := ⟨RX5, "pushCall", "(IIIII)V"⟩
abbrev cX5_pushClose : ByteArray := prog_7_method_11_code
def yX5_pushClose : MethodName := ⟨RX5, "pushClose", "(II)V"⟩
abbrev cX5_pushWork : ByteArray := prog_7_method_12_code
def yX5_pushWork : MethodName := ⟨RX5, "pushWork", "(LWiringHouse$Frame;II)LWiringHouse$Frame;"⟩
abbrev cX5_leave : ByteArray := prog_7_method_13_code
def yX5_leave : MethodName := ⟨RX5, "leave", "()V"⟩
abbrev cX5_answerWith : ByteArray := prog_7_method_14_code
def yX5_answerWith : MethodName := ⟨RX5, "answerWith", "(I)V"⟩
abbrev cX5_failWith : ByteArray := prog_7_method_15_code
def yX5_failWith : MethodName := ⟨RX5, "failWith", "(II)V"⟩
abbrev cX5_holdFailure : ByteArray := prog_7_method_16_code
def yX5_holdFailure : MethodName := ⟨RX5, "holdFailure", "(LWiringHouse$Frame;)V"⟩
abbrev cX5_firstKind : ByteArray := prog_7_method_17_code
def yX5_firstKind : MethodName := ⟨RX5, "firstKind", "(II)I"⟩
abbrev cX5_takesStep : ByteArray := prog_7_method_18_code
def yX5_takesStep : MethodName := ⟨RX5, "takesStep", "()Z"⟩
abbrev cX5_goOnGetting : ByteArray := prog_7_method_19_code
def yX5_goOnGetting : MethodName := ⟨RX5, "goOnGetting", "(LWiringHouse$Frame;)V"⟩
abbrev cX5_undoNext : ByteArray := prog_7_method_20_code
def yX5_undoNext : MethodName := ⟨RX5, "undoNext", "(LWiringHouse$Frame;)V"⟩
abbrev cX5_seek : ByteArray := prog_7_method_21_code
def yX5_seek : MethodName := ⟨RX5, "seek", "(III)V"⟩
abbrev cX5_beginMaking : ByteArray := prog_7_method_22_code
def yX5_beginMaking : MethodName := ⟨RX5, "beginMaking", "(IIIZ)V"⟩
abbrev cX5_goOnMaking : ByteArray := prog_7_method_23_code
def yX5_goOnMaking : MethodName := ⟨RX5, "goOnMaking", "(LWiringHouse$Frame;)V"⟩
abbrev cX5_nextCandidate : ByteArray := prog_7_method_24_code
def yX5_nextCandidate : MethodName := ⟨RX5, "nextCandidate", "(LWiringHouse$Frame;)I"⟩
abbrev cX5_finish : ByteArray := prog_7_method_25_code
def yX5_finish : MethodName := ⟨RX5, "finish", "(LWiringHouse$Frame;)V"⟩
abbrev cX5_abandon : ByteArray := prog_7_method_26_code
def yX5_abandon : MethodName := ⟨RX5, "abandon", "(LWiringHouse$Frame;)V"⟩
abbrev cX5_goOnCalling : ByteArray := prog_7_method_27_code
def yX5_goOnCalling : MethodName := ⟨RX5, "goOnCalling", "(LWiringHouse$Frame;)V"⟩
abbrev cX5_beginCalling : ByteArray := prog_7_method_28_code
def yX5_beginCalling : MethodName := ⟨RX5, "beginCalling", "(LWiringHouse$Frame;)V"⟩
abbrev cX5_pushInside : ByteArray := prog_7_method_29_code
def yX5_pushInside : MethodName := ⟨RX5, "pushInside", "(LWiringHouse$Frame;II)V"⟩
abbrev cX5_workWrap : ByteArray := prog_7_method_30_code
def yX5_workWrap : MethodName := ⟨RX5, "workWrap", "(LWiringHouse$Frame;II)LWiringHouse$Frame;"⟩
abbrev cX5_goOnInside : ByteArray := prog_7_method_31_code
def yX5_goOnInside : MethodName := ⟨RX5, "goOnInside", "(LWiringHouse$Frame;)V"⟩
abbrev cX5_beginInside : ByteArray := prog_7_method_32_code
def yX5_beginInside : MethodName := ⟨RX5, "beginInside", "(LWiringHouse$Frame;)V"⟩
abbrev cX5_nextBefore : ByteArray := prog_7_method_33_code
def yX5_nextBefore : MethodName := ⟨RX5, "nextBefore", "(LWiringHouse$Frame;)V"⟩
abbrev cX5_nextAfter : ByteArray := prog_7_method_34_code
def yX5_nextAfter : MethodName := ⟨RX5, "nextAfter", "(LWiringHouse$Frame;)V"⟩
abbrev cX5_goOnWorking : ByteArray := prog_7_method_35_code
def yX5_goOnWorking : MethodName := ⟨RX5, "goOnWorking", "(LWiringHouse$Frame;)V"⟩
abbrev cX5_endWork : ByteArray := prog_7_method_36_code
def yX5_endWork : MethodName := ⟨RX5, "endWork", "(LWiringHouse$Frame;)V"⟩
abbrev cX5_work : ByteArray := prog_7_method_37_code
def yX5_work : MethodName := ⟨RX5, "work", "(LWiringHouse$Frame;)V"⟩
abbrev cX5_worksAlone : ByteArray := prog_7_method_38_code
def yX5_worksAlone : MethodName := ⟨RX5, "worksAlone", "(LWiringHouse$Frame;I)Z"⟩
abbrev cX5_worksWith : ByteArray := prog_7_method_39_code
def yX5_worksWith : MethodName := ⟨RX5, "worksWith", "(LWiringHouse$Frame;I)Z"⟩
abbrev cX5_compute : ByteArray := prog_7_method_40_code
def yX5_compute : MethodName := ⟨RX5, "compute", "(III)I"⟩
abbrev cX5_put : ByteArray := prog_7_method_41_code
def yX5_put : MethodName := ⟨RX5, "put", "(I)V"⟩
abbrev cX5_pull : ByteArray := prog_7_method_42_code
def yX5_pull : MethodName := ⟨RX5, "pull", "()I"⟩
abbrev cX5_callNeed : ByteArray := prog_7_method_43_code
def yX5_callNeed : MethodName := ⟨RX5, "callNeed", "(LWiringHouse$Frame;)V"⟩
abbrev cX5_getLate : ByteArray := prog_7_method_44_code
def yX5_getLate : MethodName := ⟨RX5, "getLate", "(LWiringHouse$Frame;)V"⟩
abbrev cX5_takesAnswer : ByteArray := prog_7_method_45_code
def yX5_takesAnswer : MethodName := ⟨RX5, "takesAnswer", "(LWiringHouse$Frame;)Z"⟩
abbrev cX5_joinLate : ByteArray := prog_7_method_46_code
def yX5_joinLate : MethodName := ⟨RX5, "joinLate", "(LWiringHouse$Frame;I)V"⟩
abbrev cX5_goOnClosing : ByteArray := prog_7_method_47_code
def yX5_goOnClosing : MethodName := ⟨RX5, "goOnClosing", "(LWiringHouse$Frame;)V"⟩
def RX6 : String := "WiringHouse$Names"
def TX6 : u_T := fun k => match k with
  | 0 => ("WiringHouse$Names", "words", "[J", true)
  | _ => ("WiringHouse$Names", "size", "I", false)
def tyX6 : Nat → FieldType := fun k => match k with
  | 0 => .array .long
  | _ => .int
abbrev wsX60 : List Cond := u_ws RX6 TX6 2
theorem nmX6 : ∀ a, a < 2 → ∀ b, b < 2 → a ≠ b → (TX6 a).2.1 ≠ (TX6 b).2.1 := by decide +kernel
theorem tyX6_ok : ∀ k, k < 2 → parseFieldDescriptor (TX6 k).2.2.1 = some (tyX6 k) := by decide +kernel
abbrev cX6_init : ByteArray := prog_8_method_1_code
def yX6_init : MethodName := ⟨RX6, "<init>", "(I)V"⟩
abbrev cX6_find : ByteArray := prog_8_method_2_code
def yX6_find : MethodName := ⟨RX6, "find", "(J)I"⟩
abbrev cX6_isFull : ByteArray := prog_8_method_3_code
def yX6_isFull : MethodName := ⟨RX6, "isFull", "()Z"⟩
abbrev cX6_add : ByteArray := prog_8_method_4_code
def yX6_add : MethodName := ⟨RX6, "add", "(J)I"⟩
def RX7 : String := "WiringHouse$Notes"
def TX7 : u_T := fun k => match k with
  | 0 => ("WiringHouse$Notes", "thingKinds", "[I", true)
  | 1 => ("WiringHouse$Notes", "things", "[I", true)
  | 2 => ("WiringHouse$Notes", "thingArgs", "[I", true)
  | 3 => ("WiringHouse$Notes", "closings", "[I", true)
  | 4 => ("WiringHouse$Notes", "closingKinds", "[I", true)
  | 5 => ("WiringHouse$Notes", "thingCount", "I", false)
  | 6 => ("WiringHouse$Notes", "closingCount", "I", false)
  | 7 => ("WiringHouse$Notes", "causeNeeds", "I", false)
  | 8 => ("WiringHouse$Notes", "causeKind", "I", false)
  | _ => ("WiringHouse$Notes", "listening", "Z", false)
def tyX7 : Nat → FieldType := fun k => match k with
  | 0 => .array .int
  | 1 => .array .int
  | 2 => .array .int
  | 3 => .array .int
  | 4 => .array .int
  | 5 => .int
  | 6 => .int
  | 7 => .int
  | 8 => .int
  | _ => .boolean
abbrev wsX70 : List Cond := u_ws RX7 TX7 10
theorem nmX7 : ∀ a, a < 10 → ∀ b, b < 10 → a ≠ b → (TX7 a).2.1 ≠ (TX7 b).2.1 := by decide +kernel
theorem tyX7_ok : ∀ k, k < 10 → parseFieldDescriptor (TX7 k).2.2.1 = some (tyX7 k) := by decide +kernel
abbrev cX7_init : ByteArray := prog_9_method_1_code
def yX7_init : MethodName := ⟨RX7, "<init>", "()V"⟩
abbrev cX7_clear : ByteArray := prog_9_method_2_code
def yX7_clear : MethodName := ⟨RX7, "clear", "()V"⟩
abbrev cX7_forgetThings : ByteArray := prog_9_method_3_code
def yX7_forgetThings : MethodName := ⟨RX7, "forgetThings", "()V"⟩
abbrev cX7_noteThing : ByteArray := prog_9_method_4_code
def yX7_noteThing : MethodName := ⟨RX7, "noteThing", "(III)V"⟩
abbrev cX7_ofThing : ByteArray := prog_9_method_5_code
def yX7_ofThing : MethodName := ⟨RX7, "ofThing", "(II)I"⟩
abbrev cX7_noteClosing : ByteArray := prog_9_method_6_code
def yX7_noteClosing : MethodName := ⟨RX7, "noteClosing", "(II)V"⟩
abbrev cX7_ofClosing : ByteArray := prog_9_method_7_code
def yX7_ofClosing : MethodName := ⟨RX7, "ofClosing", "(II)I"⟩
abbrev cX7_noteCause : ByteArray := prog_9_method_8_code
def yX7_noteCause : MethodName := ⟨RX7, "noteCause", "(II)V"⟩
abbrev cX7_kindOfCause : ByteArray := prog_9_method_9_code
def yX7_kindOfCause : MethodName := ⟨RX7, "kindOfCause", "(I)I"⟩
def RX8 : String := "WiringHouse$Stock"
def TX8 : u_T := fun k => match k with
  | 0 => ("WiringHouse$Stock", "scopeKinds", "[I", true)
  | 1 => ("WiringHouse$Stock", "days", "[I", true)
  | 2 => ("WiringHouse$Stock", "isOpened", "[Z", true)
  | 3 => ("WiringHouse$Stock", "spoils", "[I", true)
  | 4 => ("WiringHouse$Stock", "present", "[I", true)
  | 5 => ("WiringHouse$Stock", "components", "[I", true)
  | 6 => ("WiringHouse$Stock", "places", "[I", true)
  | 7 => ("WiringHouse$Stock", "states", "[I", true)
  | 8 => ("WiringHouse$Stock", "ends", "[I", true)
  | 9 => ("WiringHouse$Stock", "chains", "[I", true)
  | 10 => ("WiringHouse$Stock", "links", "[I", false)
  | 11 => ("WiringHouse$Stock", "nextLinks", "[I", false)
  | 12 => ("WiringHouse$Stock", "scopeCount", "I", false)
  | 13 => ("WiringHouse$Stock", "objectCount", "I", false)
  | 14 => ("WiringHouse$Stock", "endCount", "I", false)
  | _ => ("WiringHouse$Stock", "linkCount", "I", false)
def tyX8 : Nat → FieldType := fun k => match k with
  | 0 => .array .int
  | 1 => .array .int
  | 2 => .array .boolean
  | 3 => .array .int
  | 4 => .array .int
  | 5 => .array .int
  | 6 => .array .int
  | 7 => .array .int
  | 8 => .array .int
  | 9 => .array .int
  | 10 => .array .int
  | 11 => .array .int
  | 12 => .int
  | 13 => .int
  | 14 => .int
  | _ => .int
abbrev wsX80 : List Cond := u_ws RX8 TX8 16
theorem nmX8 : ∀ a, a < 16 → ∀ b, b < 16 → a ≠ b → (TX8 a).2.1 ≠ (TX8 b).2.1 := by decide +kernel
theorem tyX8_ok : ∀ k, k < 16 → parseFieldDescriptor (TX8 k).2.2.1 = some (tyX8 k) := by decide +kernel
abbrev cX8_init : ByteArray := prog_10_method_1_code
def yX8_init : MethodName := ⟨RX8, "<init>", "()V"⟩
abbrev cX8_clear : ByteArray := prog_10_method_2_code
def yX8_clear : MethodName := ⟨RX8, "clear", "()V"⟩
abbrev cX8_isOpen : ByteArray := prog_10_method_3_code
def yX8_isOpen : MethodName := ⟨RX8, "isOpen", "(I)Z"⟩
abbrev cX8_open : ByteArray := prog_10_method_4_code
def yX8_open : MethodName := ⟨RX8, "open", "(II)I"⟩
abbrev cX8_openScopes : ByteArray := prog_10_method_5_code
def yX8_openScopes : MethodName := ⟨RX8, "openScopes", "()I"⟩
abbrev cX8_innermost : ByteArray := prog_10_method_6_code
def yX8_innermost : MethodName := ⟨RX8, "innermost", "(I)I"⟩
abbrev cX8_latestOpen : ByteArray := prog_10_method_7_code
def yX8_latestOpen : MethodName := ⟨RX8, "latestOpen", "(II)I"⟩
abbrev cX8_shut : ByteArray := prog_10_method_8_code
def yX8_shut : MethodName := ⟨RX8, "shut", "(I)V"⟩
abbrev cX8_reopenHouse : ByteArray := prog_10_method_9_code
def yX8_reopenHouse : MethodName := ⟨RX8, "reopenHouse", "()V"⟩
abbrev cX8_placeOf : ByteArray := prog_10_method_10_code
def yX8_placeOf : MethodName := ⟨RX8, "placeOf", "(II)I"⟩
abbrev cX8_isSpoiled : ByteArray := prog_10_method_11_code
def yX8_isSpoiled : MethodName := ⟨RX8, "isSpoiled", "(II)Z"⟩
abbrev cX8_spoil : ByteArray := prog_10_method_12_code
def yX8_spoil : MethodName := ⟨RX8, "spoil", "(II)V"⟩
abbrev cX8_has : ByteArray := prog_10_method_13_code
def yX8_has : MethodName := ⟨RX8, "has", "(I)Z"⟩
abbrev cX8_isMade : ByteArray := prog_10_method_14_code
def yX8_isMade : MethodName := ⟨RX8, "isMade", "(I)Z"⟩
abbrev cX8_componentOf : ByteArray := prog_10_method_15_code
def yX8_componentOf : MethodName := ⟨RX8, "componentOf", "(I)I"⟩
abbrev cX8_objectAt : ByteArray := prog_10_method_16_code
def yX8_objectAt : MethodName := ⟨RX8, "objectAt", "(II)I"⟩
abbrev cX8_beginObject : ByteArray := prog_10_method_17_code
def yX8_beginObject : MethodName := ⟨RX8, "beginObject", "(IIZ)I"⟩
abbrev cX8_finishObject : ByteArray := prog_10_method_18_code
def yX8_finishObject : MethodName := ⟨RX8, "finishObject", "(I)V"⟩
abbrev cX8_dropObject : ByteArray := prog_10_method_19_code
def yX8_dropObject : MethodName := ⟨RX8, "dropObject", "(I)V"⟩
abbrev cX8_madeObjects : ByteArray := prog_10_method_20_code
def yX8_madeObjects : MethodName := ⟨RX8, "madeObjects", "()I"⟩
abbrev cX8_latestMade : ByteArray := prog_10_method_21_code
def yX8_latestMade : MethodName := ⟨RX8, "latestMade", "(I)I"⟩
abbrev cX8_join : ByteArray := prog_10_method_22_code
def yX8_join : MethodName := ⟨RX8, "join", "(III)V"⟩
abbrev cX8_joinedTo : ByteArray := prog_10_method_23_code
def yX8_joinedTo : MethodName := ⟨RX8, "joinedTo", "(III)I"⟩
def RX9 : String := "WiringHouse$Tape"
def TX9 : u_T := fun k => match k with
  | 0 => ("WiringHouse$Tape", "signs", "[B", true)
  | 1 => ("WiringHouse$Tape", "keywords", "[J", true)
  | 2 => ("WiringHouse$Tape", "kinds", "[I", true)
  | 3 => ("WiringHouse$Tape", "starts", "[I", true)
  | 4 => ("WiringHouse$Tape", "values", "[J", true)
  | 5 => ("WiringHouse$Tape", "length", "I", false)
  | 6 => ("WiringHouse$Tape", "position", "I", false)
  | 7 => ("WiringHouse$Tape", "tokens", "I", false)
  | 8 => ("WiringHouse$Tape", "looking", "I", false)
  | 9 => ("WiringHouse$Tape", "kind", "I", false)
  | 10 => ("WiringHouse$Tape", "start", "I", false)
  | _ => ("WiringHouse$Tape", "value", "J", false)
def tyX9 : Nat → FieldType := fun k => match k with
  | 0 => .array .byte
  | 1 => .array .long
  | 2 => .array .int
  | 3 => .array .int
  | 4 => .array .long
  | 5 => .int
  | 6 => .int
  | 7 => .int
  | 8 => .int
  | 9 => .int
  | 10 => .int
  | _ => .long
abbrev wsX90 : List Cond := u_ws RX9 TX9 12
theorem nmX9 : ∀ a, a < 12 → ∀ b, b < 12 → a ≠ b → (TX9 a).2.1 ≠ (TX9 b).2.1 := by decide +kernel
theorem tyX9_ok : ∀ k, k < 12 → parseFieldDescriptor (TX9 k).2.2.1 = some (tyX9 k) := by decide +kernel
abbrev cX9_init : ByteArray := prog_11_method_1_code
def yX9_init : MethodName := ⟨RX9, "<init>", "()V"⟩
abbrev cX9_append : ByteArray := prog_11_method_2_code
def yX9_append : MethodName := ⟨RX9, "append", "(J)V"⟩
abbrev cX9_empty : ByteArray := prog_11_method_3_code
def yX9_empty : MethodName := ⟨RX9, "empty", "()V"⟩
abbrev cX9_begin : ByteArray := prog_11_method_4_code
def yX9_begin : MethodName := ⟨RX9, "begin", "()V"⟩
abbrev cX9_next : ByteArray := prog_11_method_5_code
def yX9_next : MethodName := ⟨RX9, "next", "()V"⟩
abbrev cX9_cut : ByteArray := prog_11_method_6_code
def yX9_cut : MethodName := ⟨RX9, "cut", "()V"⟩
abbrev cX9_cutNumber : ByteArray := prog_11_method_7_code
def yX9_cutNumber : MethodName := ⟨RX9, "cutNumber", "()V"⟩
abbrev cX9_cutWord : ByteArray := prog_11_method_8_code
def yX9_cutWord : MethodName := ⟨RX9, "cutWord", "()V"⟩
abbrev cX9_kindOf : ByteArray := prog_11_method_9_code
def yX9_kindOf : MethodName := ⟨RX9, "kindOf", "(J)I"⟩
abbrev cX9_codeOf : ByteArray := prog_11_method_10_code
def yX9_codeOf : MethodName := ⟨RX9, "codeOf", "(I)I"⟩
abbrev cX9_isDigit : ByteArray := prog_11_method_11_code
def yX9_isDigit : MethodName := ⟨RX9, "isDigit", "(I)Z"⟩
abbrev cX9_isLetter : ByteArray := prog_11_method_12_code
def yX9_isLetter : MethodName := ⟨RX9, "isLetter", "(I)Z"⟩
def RX10 : String := "WiringHouse$Wrap"
def TX10 : u_T := fun k => match k with
  | 0 => ("WiringHouse$Wrap", "type", "I", false)
  | 1 => ("WiringHouse$Wrap", "method", "I", false)
  | 2 => ("WiringHouse$Wrap", "number", "I", false)
  | 3 => ("WiringHouse$Wrap", "phase", "I", false)
  | _ => ("WiringHouse$Wrap", "start", "I", false)
def tyX10 : Nat → FieldType := fun k => match k with
  | 0 => .int
  | 1 => .int
  | 2 => .int
  | 3 => .int
  | _ => .int
abbrev wsX100 : List Cond := u_ws RX10 TX10 5
theorem nmX10 : ∀ a, a < 5 → ∀ b, b < 5 → a ≠ b → (TX10 a).2.1 ≠ (TX10 b).2.1 := by decide +kernel
theorem tyX10_ok : ∀ k, k < 5 → parseFieldDescriptor (TX10 k).2.2.1 = some (tyX10 k) := by decide +kernel
abbrev cX10_init : ByteArray := prog_12_method_1_code
def yX10_init : MethodName := ⟨RX10, "<init>", "()V"⟩
def RX11 : String := "WiringHouse"
def TX11 : u_T := fun k => match k with
  | 0 => ("WiringHouse", "tape", "LWiringHouse$Tape;", true)
  | 1 => ("WiringHouse", "reader", "LWiringHouse$BookReader;", true)
  | 2 => ("WiringHouse", "checker", "LWiringHouse$Checker;", true)
  | 3 => ("WiringHouse", "stock", "LWiringHouse$Stock;", true)
  | 4 => ("WiringHouse", "notes", "LWiringHouse$Notes;", true)
  | 5 => ("WiringHouse", "machine", "LWiringHouse$Machine;", true)
  | 6 => ("WiringHouse", "shelf", "LWiringHouse$Book;", false)
  | 7 => ("WiringHouse", "spare", "LWiringHouse$Book;", false)
  | 8 => ("WiringHouse", "ready", "Z", false)
  | _ => ("WiringHouse", "ending", "I", false)
def tyX11 : Nat → FieldType := fun k => match k with
  | 0 => .object "WiringHouse$Tape"
  | 1 => .object "WiringHouse$BookReader"
  | 2 => .object "WiringHouse$Checker"
  | 3 => .object "WiringHouse$Stock"
  | 4 => .object "WiringHouse$Notes"
  | 5 => .object "WiringHouse$Machine"
  | 6 => .object "WiringHouse$Book"
  | 7 => .object "WiringHouse$Book"
  | 8 => .boolean
  | _ => .int
abbrev wsX110 : List Cond := u_ws RX11 TX11 10
theorem nmX11 : ∀ a, a < 10 → ∀ b, b < 10 → a ≠ b → (TX11 a).2.1 ≠ (TX11 b).2.1 := by decide +kernel
theorem tyX11_ok : ∀ k, k < 10 → parseFieldDescriptor (TX11 k).2.2.1 = some (tyX11 k) := by decide +kernel
abbrev cX11_init : ByteArray := prog_1_method_1_code
def yX11_init : MethodName := ⟨RX11, "<init>", "()V"⟩
abbrev cX11_feed : ByteArray := prog_1_method_2_code
def yX11_feed : MethodName := ⟨RX11, "feed", "(JJJ)I"⟩
abbrev cX11_book : ByteArray := prog_1_method_3_code
def yX11_book : MethodName := ⟨RX11, "book", "()I"⟩
abbrev cX11_named : ByteArray := prog_1_method_4_code
def yX11_named : MethodName := ⟨RX11, "named", "(I)I"⟩
abbrev cX11_setting : ByteArray := prog_1_method_5_code
def yX11_setting : MethodName := ⟨RX11, "setting", "(II)Z"⟩
abbrev cX11_check : ByteArray := prog_1_method_6_code
def yX11_check : MethodName := ⟨RX11, "check", "()I"⟩
abbrev cX11_fault : ByteArray := prog_1_method_7_code
def yX11_fault : MethodName := ⟨RX11, "fault", "(II)I"⟩
abbrev cX11_cycle : ByteArray := prog_1_method_8_code
def yX11_cycle : MethodName := ⟨RX11, "cycle", "(II)I"⟩
abbrev cX11_component : ByteArray := prog_1_method_9_code
def yX11_component : MethodName := ⟨RX11, "component", "(II)I"⟩
abbrev cX11_candidate : ByteArray := prog_1_method_10_code
def yX11_candidate : MethodName := ⟨RX11, "candidate", "(III)I"⟩
abbrev cX11_day : ByteArray := prog_1_method_11_code
def yX11_day : MethodName := ⟨RX11, "day", "()I"⟩
abbrev cX11_meal : ByteArray := prog_1_method_12_code
def yX11_meal : MethodName := ⟨RX11, "meal", "(I)I"⟩
abbrev cX11_get : ByteArray := prog_1_method_13_code
def yX11_get : MethodName := ⟨RX11, "get", "(II)I"⟩
abbrev cX11_call : ByteArray := prog_1_method_14_code
def yX11_call : MethodName := ⟨RX11, "call", "(IIII)I"⟩
abbrev cX11_close : ByteArray := prog_1_method_15_code
def yX11_close : MethodName := ⟨RX11, "close", "(I)I"⟩
abbrev cX11_outcome : ByteArray := prog_1_method_16_code
def yX11_outcome : MethodName := ⟨RX11, "outcome", "()I"⟩
abbrev cX11_cause : ByteArray := prog_1_method_17_code
def yX11_cause : MethodName := ⟨RX11, "cause", "(I)I"⟩
abbrev cX11_object : ByteArray := prog_1_method_18_code
def yX11_object : MethodName := ⟨RX11, "object", "(II)I"⟩
abbrev cX11_joined : ByteArray := prog_1_method_19_code
def yX11_joined : MethodName := ⟨RX11, "joined", "(III)I"⟩
abbrev cX11_closed : ByteArray := prog_1_method_20_code
def yX11_closed : MethodName := ⟨RX11, "closed", "(II)I"⟩
abbrev cX11_spoiled : ByteArray := prog_1_method_21_code
def yX11_spoiled : MethodName := ⟨RX11, "spoiled", "(II)I"⟩
abbrev cX11_did : ByteArray := prog_1_method_22_code
def yX11_did : MethodName := ⟨RX11, "did", "(II)I"⟩
abbrev cX11_count : ByteArray := prog_1_method_23_code
def yX11_count : MethodName := ⟨RX11, "count", "(I)I"⟩
abbrev cX11_ends : ByteArray := prog_1_method_24_code
def yX11_ends : MethodName := ⟨RX11, "ends", "(II)I"⟩
def RX12 : String := "WiringHouseModel"
def TX12 : u_T := fun k => match k with
  | 0 => ("WiringHouseModel", "thrown", "I", false)
  | 1 => ("WiringHouseModel", "tape", "[I", true)
  | 2 => ("WiringHouseModel", "taped", "I", false)
  | 3 => ("WiringHouseModel", "size", "I", false)
  | 4 => ("WiringHouseModel", "sort", "[I", true)
  | 5 => ("WiringHouseModel", "place", "[I", true)
  | 6 => ("WiringHouseModel", "word", "[J", true)
  | 7 => ("WiringHouseModel", "at", "I", false)
  | 8 => ("WiringHouseModel", "fault", "I", false)
  | 9 => ("WiringHouseModel", "keys", "Ljava/lang/String;", true)
  | 10 => ("WiringHouseModel", "words", "[J", true)
  | 11 => ("WiringHouseModel", "now", "I", false)
  | 12 => ("WiringHouseModel", "next", "I", false)
  | 13 => ("WiringHouseModel", "types", "[I", true)
  | 14 => ("WiringHouseModel", "typeName", "[J", true)
  | 15 => ("WiringHouseModel", "typeIs", "[Z", true)
  | 16 => ("WiringHouseModel", "settings", "[I", true)
  | 17 => ("WiringHouseModel", "settingName", "[J", true)
  | 18 => ("WiringHouseModel", "settingValue", "[I", true)
  | 19 => ("WiringHouseModel", "components", "[I", true)
  | 20 => ("WiringHouseModel", "componentName", "[J", true)
  | 21 => ("WiringHouseModel", "componentIs", "[Z", true)
  | 22 => ("WiringHouseModel", "scopeOf", "[I", true)
  | 23 => ("WiringHouseModel", "calledOf", "[I", true)
  | 24 => ("WiringHouseModel", "rankOf", "[I", true)
  | 25 => ("WiringHouseModel", "whenOf", "[I", true)
  | 26 => ("WiringHouseModel", "whenIs", "[I", true)
  | 27 => ("WiringHouseModel", "needs", "[I", true)
  | 28 => ("WiringHouseModel", "needType", "[I", true)
  | 29 => ("WiringHouseModel", "needLate", "[Z", true)
  | 30 => ("WiringHouseModel", "needAll", "[Z", true)
  | 31 => ("WiringHouseModel", "needCalled", "[I", true)
  | 32 => ("WiringHouseModel", "openedAt", "[I", true)
  | 33 => ("WiringHouseModel", "closedAt", "[I", true)
  | 34 => ("WiringHouseModel", "methodAt", "[I", true)
  | 35 => ("WiringHouseModel", "methods", "[I", true)
  | 36 => ("WiringHouseModel", "methodName", "[J", true)
  | 37 => ("WiringHouseModel", "calls", "[I", true)
  | 38 => ("WiringHouseModel", "callName", "[J", true)
  | 39 => ("WiringHouseModel", "wraps", "[I", true)
  | 40 => ("WiringHouseModel", "wrapType", "[I", true)
  | 41 => ("WiringHouseModel", "wrapMethod", "[I", true)
  | 42 => ("WiringHouseModel", "wrapNumber", "[I", true)
  | 43 => ("WiringHouseModel", "wrapPhase", "[I", true)
  | 44 => ("WiringHouseModel", "wrapAt", "[I", true)
  | 45 => ("WiringHouseModel", "op", "[I", true)
  | 46 => ("WiringHouseModel", "one", "[I", true)
  | 47 => ("WiringHouseModel", "two", "[I", true)
  | 48 => ("WiringHouseModel", "codes", "I", false)
  | 49 => ("WiringHouseModel", "codesFrom", "I", false)
  | 50 => ("WiringHouseModel", "deep", "I", false)
  | 51 => ("WiringHouseModel", "inComponent", "I", false)
  | 52 => ("WiringHouseModel", "inAround", "Z", false)
  | 53 => ("WiringHouseModel", "listed", "[I", true)
  | 54 => ("WiringHouseModel", "isReady", "Z", false)
  | 55 => ("WiringHouseModel", "scopes", "I", false)
  | 56 => ("WiringHouseModel", "isOpen", "[Z", true)
  | 57 => ("WiringHouseModel", "scopeKind", "[I", true)
  | 58 => ("WiringHouseModel", "dayOf", "[I", true)
  | 59 => ("WiringHouseModel", "spoilt", "[Z", true)
  | 60 => ("WiringHouseModel", "objects", "I", false)
  | 61 => ("WiringHouseModel", "objectOf", "[I", true)
  | 62 => ("WiringHouseModel", "objectIn", "[I", true)
  | 63 => ("WiringHouseModel", "state", "[I", true)
  | 64 => ("WiringHouseModel", "madeAt", "[I", true)
  | 65 => ("WiringHouseModel", "makings", "I", false)
  | 66 => ("WiringHouseModel", "joins", "[I", true)
  | 67 => ("WiringHouseModel", "joinedTo", "[I", true)
  | 68 => ("WiringHouseModel", "steps", "I", false)
  | 69 => ("WiringHouseModel", "latest", "I", false)
  | 70 => ("WiringHouseModel", "outcome", "I", false)
  | 71 => ("WiringHouseModel", "causeTwenties", "I", false)
  | 72 => ("WiringHouseModel", "causeKind", "I", false)
  | 73 => ("WiringHouseModel", "closeds", "I", false)
  | 74 => ("WiringHouseModel", "closedWhich", "[I", true)
  | 75 => ("WiringHouseModel", "closedKind", "[I", true)
  | 76 => ("WiringHouseModel", "dids", "I", false)
  | 77 => ("WiringHouseModel", "didWhat", "[I", true)
  | 78 => ("WiringHouseModel", "didWhich", "[I", true)
  | 79 => ("WiringHouseModel", "didArg", "[I", true)
  | 80 => ("WiringHouseModel", "candidates", "[I", true)
  | 81 => ("WiringHouseModel", "faults", "I", false)
  | 82 => ("WiringHouseModel", "faultKind", "[I", true)
  | 83 => ("WiringHouseModel", "faultOf", "[I", true)
  | 84 => ("WiringHouseModel", "faultNeed", "[I", true)
  | 85 => ("WiringHouseModel", "cycles", "[I", true)
  | 86 => ("WiringHouseModel", "isWrong", "[Z", true)
  | 87 => ("WiringHouseModel", "visit", "[I", true)
  | 88 => ("WiringHouseModel", "way", "[I", true)
  | 89 => ("WiringHouseModel", "wayMany", "I", false)
  | 90 => ("WiringHouseModel", "twenties", "I", false)
  | 91 => ("WiringHouseModel", "kind", "I", false)
  | 92 => ("WiringHouseModel", "got", "I", false)
  | 93 => ("WiringHouseModel", "within", "I", false)
  | 94 => ("WiringHouseModel", "fresh", "[I", true)
  | 95 => ("WiringHouseModel", "freshMany", "I", false)
  | 96 => ("WiringHouseModel", "value", "I", false)
  | 97 => ("WiringHouseModel", "pile", "[I", true)
  | 98 => ("WiringHouseModel", "top", "I", false)
  | _ => ("WiringHouseModel", "isSpent", "Z", false)
def tyX12 : Nat → FieldType := fun k => match k with
  | 0 => .int
  | 1 => .array .int
  | 2 => .int
  | 3 => .int
  | 4 => .array .int
  | 5 => .array .int
  | 6 => .array .long
  | 7 => .int
  | 8 => .int
  | 9 => .object "java/lang/String"
  | 10 => .array .long
  | 11 => .int
  | 12 => .int
  | 13 => .array .int
  | 14 => .array .long
  | 15 => .array .boolean
  | 16 => .array .int
  | 17 => .array .long
  | 18 => .array .int
  | 19 => .array .int
  | 20 => .array .long
  | 21 => .array .boolean
  | 22 => .array .int
  | 23 => .array .int
  | 24 => .array .int
  | 25 => .array .int
  | 26 => .array .int
  | 27 => .array .int
  | 28 => .array .int
  | 29 => .array .boolean
  | 30 => .array .boolean
  | 31 => .array .int
  | 32 => .array .int
  | 33 => .array .int
  | 34 => .array .int
  | 35 => .array .int
  | 36 => .array .long
  | 37 => .array .int
  | 38 => .array .long
  | 39 => .array .int
  | 40 => .array .int
  | 41 => .array .int
  | 42 => .array .int
  | 43 => .array .int
  | 44 => .array .int
  | 45 => .array .int
  | 46 => .array .int
  | 47 => .array .int
  | 48 => .int
  | 49 => .int
  | 50 => .int
  | 51 => .int
  | 52 => .boolean
  | 53 => .array .int
  | 54 => .boolean
  | 55 => .int
  | 56 => .array .boolean
  | 57 => .array .int
  | 58 => .array .int
  | 59 => .array .boolean
  | 60 => .int
  | 61 => .array .int
  | 62 => .array .int
  | 63 => .array .int
  | 64 => .array .int
  | 65 => .int
  | 66 => .array .int
  | 67 => .array .int
  | 68 => .int
  | 69 => .int
  | 70 => .int
  | 71 => .int
  | 72 => .int
  | 73 => .int
  | 74 => .array .int
  | 75 => .array .int
  | 76 => .int
  | 77 => .array .int
  | 78 => .array .int
  | 79 => .array .int
  | 80 => .array .int
  | 81 => .int
  | 82 => .array .int
  | 83 => .array .int
  | 84 => .array .int
  | 85 => .array .int
  | 86 => .array .boolean
  | 87 => .array .int
  | 88 => .array .int
  | 89 => .int
  | 90 => .int
  | 91 => .int
  | 92 => .int
  | 93 => .int
  | 94 => .array .int
  | 95 => .int
  | 96 => .int
  | 97 => .array .int
  | 98 => .int
  | _ => .boolean
abbrev wsX120 : List Cond := u_ws RX12 TX12 100
theorem nmX12 : ∀ a, a < 100 → ∀ b, b < 100 → a ≠ b → (TX12 a).2.1 ≠ (TX12 b).2.1 := by decide +kernel
theorem tyX12_ok : ∀ k, k < 100 → parseFieldDescriptor (TX12 k).2.2.1 = some (tyX12 k) := by decide +kernel
abbrev cX12_feed : ByteArray := prog_14_method_2_code
def yX12_feed : MethodName := ⟨RX12, "feed", "(JJJ)I"⟩
abbrev cX12_lay : ByteArray := prog_14_method_3_code
def yX12_lay : MethodName := ⟨RX12, "lay", "(J)V"⟩
abbrev cX12_init : ByteArray := prog_14_method_4_code
def yX12_init : MethodName := ⟨RX12, "<init>", "()V"⟩
abbrev cX12_isLetter : ByteArray := prog_14_method_5_code
def yX12_isLetter : MethodName := ⟨RX12, "isLetter", "(I)Z"⟩
abbrev cX12_isDigit : ByteArray := prog_14_method_6_code
def yX12_isDigit : MethodName := ⟨RX12, "isDigit", "(I)Z"⟩
abbrev cX12_rank : ByteArray := prog_14_method_7_code
def yX12_rank : MethodName := ⟨RX12, "rank", "(I)I"⟩
abbrev cX12_isSignOf : ByteArray := prog_14_method_8_code
def yX12_isSignOf : MethodName := ⟨RX12, "isSignOf", "(I)Z"⟩
abbrev cX12_cutAll : ByteArray := prog_14_method_9_code
def yX12_cutAll : MethodName := ⟨RX12, "cutAll", "()V"⟩
abbrev cX12_wrong : ByteArray := prog_14_method_10_code
def yX12_wrong : MethodName := ⟨RX12, "wrong", "(I)V"⟩
abbrev cX12_isSign : ByteArray := prog_14_method_11_code
def yX12_isSign : MethodName := ⟨RX12, "isSign", "(I)Z"⟩
abbrev cX12_isWord : ByteArray := prog_14_method_12_code
def yX12_isWord : MethodName := ⟨RX12, "isWord", "(I)Z"⟩
abbrev cX12_takeSign : ByteArray := prog_14_method_13_code
def yX12_takeSign : MethodName := ⟨RX12, "takeSign", "(I)V"⟩
abbrev cX12_hasSign : ByteArray := prog_14_method_14_code
def yX12_hasSign : MethodName := ⟨RX12, "hasSign", "(I)Z"⟩
abbrev cX12_hasWord : ByteArray := prog_14_method_15_code
def yX12_hasWord : MethodName := ⟨RX12, "hasWord", "(I)Z"⟩
abbrev cX12_takeWord : ByteArray := prog_14_method_16_code
def yX12_takeWord : MethodName := ⟨RX12, "takeWord", "(I)V"⟩
abbrev cX12_isName : ByteArray := prog_14_method_17_code
def yX12_isName : MethodName := ⟨RX12, "isName", "()Z"⟩
abbrev cX12_takeNumber : ByteArray := prog_14_method_18_code
def yX12_takeNumber : MethodName := ⟨RX12, "takeNumber", "(II)I"⟩
abbrev cX12_oneOf : ByteArray := prog_14_method_19_code
def yX12_oneOf : MethodName := ⟨RX12, "oneOf", "(II)I"⟩
abbrev cX12_find : ByteArray := prog_14_method_20_code
def yX12_find : MethodName := ⟨RX12, "find", "([JIIJ)I"⟩
abbrev cX12_book : ByteArray := prog_14_method_21_code
def yX12_book : MethodName := ⟨RX12, "book", "()I"⟩
abbrev cX12_begins : ByteArray := prog_14_method_22_code
def yX12_begins : MethodName := ⟨RX12, "begins", "(Z)V"⟩
abbrev cX12_newName : ByteArray := prog_14_method_23_code
def yX12_newName : MethodName := ⟨RX12, "newName", "()J"⟩
abbrev cX12_named : ByteArray := prog_14_method_24_code
def yX12_named : MethodName := ⟨RX12, "named", "([JII)I"⟩
abbrev cX12_takeType : ByteArray := prog_14_method_25_code
def yX12_takeType : MethodName := ⟨RX12, "takeType", "()I"⟩
abbrev cX12_takeWordOf : ByteArray := prog_14_method_26_code
def yX12_takeWordOf : MethodName := ⟨RX12, "takeWordOf", "([J[I)I"⟩
abbrev cX12_takeTypes : ByteArray := prog_14_method_27_code
def yX12_takeTypes : MethodName := ⟨RX12, "takeTypes", "([ZI)V"⟩
abbrev cX12_toldType : ByteArray := prog_14_method_28_code
def yX12_toldType : MethodName := ⟨RX12, "toldType", "()V"⟩
abbrev cX12_toldSetting : ByteArray := prog_14_method_29_code
def yX12_toldSetting : MethodName := ⟨RX12, "toldSetting", "()V"⟩
abbrev cX12_toldComponent : ByteArray := prog_14_method_30_code
def yX12_toldComponent : MethodName := ⟨RX12, "toldComponent", "()V"⟩
abbrev cX12_member : ByteArray := prog_14_method_31_code
def yX12_member : MethodName := ⟨RX12, "member", "(I)V"⟩
abbrev cX12_takeNeed : ByteArray := prog_14_method_32_code
def yX12_takeNeed : MethodName := ⟨RX12, "takeNeed", "(I)V"⟩
abbrev cX12_toldWrap : ByteArray := prog_14_method_33_code
def yX12_toldWrap : MethodName := ⟨RX12, "toldWrap", "()V"⟩
abbrev cX12_emit : ByteArray := prog_14_method_34_code
def yX12_emit : MethodName := ⟨RX12, "emit", "(III)I"⟩
abbrev cX12_code : ByteArray := prog_14_method_35_code
def yX12_code : MethodName := ⟨RX12, "code", "()I"⟩
abbrev cX12_expression : ByteArray := prog_14_method_36_code
def yX12_expression : MethodName := ⟨RX12, "expression", "()V"⟩
abbrev cX12_sum : ByteArray := prog_14_method_37_code
def yX12_sum : MethodName := ⟨RX12, "sum", "()V"⟩
abbrev cX12_product : ByteArray := prog_14_method_38_code
def yX12_product : MethodName := ⟨RX12, "product", "()V"⟩
abbrev cX12_isPart : ByteArray := prog_14_method_39_code
def yX12_isPart : MethodName := ⟨RX12, "isPart", "()Z"⟩
abbrev cX12_part : ByteArray := prog_14_method_40_code
def yX12_part : MethodName := ⟨RX12, "part", "()V"⟩
abbrev cX12_partWithin : ByteArray := prog_14_method_41_code
def yX12_partWithin : MethodName := ⟨RX12, "partWithin", "()V"⟩
abbrev cX12_bracketed : ByteArray := prog_14_method_42_code
def yX12_bracketed : MethodName := ⟨RX12, "bracketed", "()V"⟩
abbrev cX12_pick : ByteArray := prog_14_method_43_code
def yX12_pick : MethodName := ⟨RX12, "pick", "()V"⟩
abbrev cX12_forget : ByteArray := prog_14_method_44_code
def yX12_forget : MethodName := ⟨RX12, "forget", "()V"⟩
abbrev cX12_isThere : ByteArray := prog_14_method_45_code
def yX12_isThere : MethodName := ⟨RX12, "isThere", "(I)Z"⟩
abbrev cX12_suits : ByteArray := prog_14_method_46_code
def yX12_suits : MethodName := ⟨RX12, "suits", "(II)Z"⟩
abbrev cX12_candidatesOf : ByteArray := prog_14_method_47_code
def yX12_candidatesOf : MethodName := ⟨RX12, "candidatesOf", "(I)I"⟩
abbrev cX12_addFault : ByteArray := prog_14_method_48_code
def yX12_addFault : MethodName := ⟨RX12, "addFault", "(III)V"⟩
abbrev cX12_longness : ByteArray := prog_14_method_49_code
def yX12_longness : MethodName := ⟨RX12, "longness", "(I)I"⟩
abbrev cX12_check : ByteArray := prog_14_method_50_code
def yX12_check : MethodName := ⟨RX12, "check", "()I"⟩
abbrev cX12_checkNeed : ByteArray := prog_14_method_51_code
def yX12_checkNeed : MethodName := ⟨RX12, "checkNeed", "(II)V"⟩
abbrev cX12_visits : ByteArray := prog_14_method_52_code
def yX12_visits : MethodName := ⟨RX12, "visits", "(I)V"⟩
abbrev cX12_isCandidate : ByteArray := prog_14_method_53_code
def yX12_isCandidate : MethodName := ⟨RX12, "isCandidate", "(II)Z"⟩
abbrev cX12_addCycle : ByteArray := prog_14_method_54_code
def yX12_addCycle : MethodName := ⟨RX12, "addCycle", "(I)V"⟩
abbrev cX12_fault : ByteArray := prog_14_method_55_code
def yX12_fault : MethodName := ⟨RX12, "fault", "(II)I"⟩
abbrev cX12_cycle : ByteArray := prog_14_method_56_code
def yX12_cycle : MethodName := ⟨RX12, "cycle", "(II)I"⟩
abbrev cX12_fails : ByteArray := prog_14_method_57_code
def yX12_fails : MethodName := ⟨RX12, "fails", "(I)I"⟩
abbrev cX12_step : ByteArray := prog_14_method_58_code
def yX12_step : MethodName := ⟨RX12, "step", "()Z"⟩
abbrev cX12_placeOf : ByteArray := prog_14_method_59_code
def yX12_placeOf : MethodName := ⟨RX12, "placeOf", "(II)I"⟩
abbrev cX12_objectAt : ByteArray := prog_14_method_60_code
def yX12_objectAt : MethodName := ⟨RX12, "objectAt", "(II)I"⟩
abbrev cX12_gets : ByteArray := prog_14_method_61_code
def yX12_gets : MethodName := ⟨RX12, "gets", "(II)I"⟩
abbrev cX12_makes : ByteArray := prog_14_method_62_code
def yX12_makes : MethodName := ⟨RX12, "makes", "(IIZ)I"⟩
abbrev cX12_joinsAll : ByteArray := prog_14_method_63_code
def yX12_joinsAll : MethodName := ⟨RX12, "joinsAll", "(III)I"⟩
abbrev cX12_getsWhole : ByteArray := prog_14_method_64_code
def yX12_getsWhole : MethodName := ⟨RX12, "getsWhole", "(II)I"⟩
abbrev cX12_closes : ByteArray := prog_14_method_65_code
def yX12_closes : MethodName := ⟨RX12, "closes", "(I)Z"⟩
abbrev cX12_notes : ByteArray := prog_14_method_66_code
def yX12_notes : MethodName := ⟨RX12, "notes", "(III)V"⟩
abbrev cX12_isWrap : ByteArray := prog_14_method_67_code
def yX12_isWrap : MethodName := ⟨RX12, "isWrap", "(IIII)Z"⟩
abbrev cX12_wrapAt : ByteArray := prog_14_method_68_code
def yX12_wrapAt : MethodName := ⟨RX12, "wrapAt", "(IIII)I"⟩
abbrev cX12_wrapsOf : ByteArray := prog_14_method_69_code
def yX12_wrapsOf : MethodName := ⟨RX12, "wrapsOf", "(III)I"⟩
abbrev cX12_calls : ByteArray := prog_14_method_70_code
def yX12_calls : MethodName := ⟨RX12, "calls", "(IIII)I"⟩
abbrev cX12_arounds : ByteArray := prog_14_method_71_code
def yX12_arounds : MethodName := ⟨RX12, "arounds", "(IIIII)I"⟩
abbrev cX12_inside : ByteArray := prog_14_method_72_code
def yX12_inside : MethodName := ⟨RX12, "inside", "(IIII)I"⟩
abbrev cX12_failings : ByteArray := prog_14_method_73_code
def yX12_failings : MethodName := ⟨RX12, "failings", "(III)I"⟩
abbrev cX12_works : ByteArray := prog_14_method_74_code
def yX12_works : MethodName := ⟨RX12, "works", "(IIIII)I"⟩
abbrev cX12_worksAround : ByteArray := prog_14_method_75_code
def yX12_worksAround : MethodName := ⟨RX12, "worksAround", "(IIIIII)I"⟩
abbrev cX12_push : ByteArray := prog_14_method_76_code
def yX12_push : MethodName := ⟨RX12, "push", "(I)V"⟩
abbrev cX12_pop : ByteArray := prog_14_method_77_code
def yX12_pop : MethodName := ⟨RX12, "pop", "()I"⟩
abbrev cX12_reckons : ByteArray := prog_14_method_78_code
def yX12_reckons : MethodName := ⟨RX12, "reckons", "(II)I"⟩
abbrev cX12_ofNeed : ByteArray := prog_14_method_79_code
def yX12_ofNeed : MethodName := ⟨RX12, "ofNeed", "(IIIII)I"⟩
abbrev cX12_ofLate : ByteArray := prog_14_method_80_code
def yX12_ofLate : MethodName := ⟨RX12, "ofLate", "(IIIIII)I"⟩
abbrev cX12_isScope : ByteArray := prog_14_method_81_code
def yX12_isScope : MethodName := ⟨RX12, "isScope", "(I)Z"⟩
abbrev cX12_setting : ByteArray := prog_14_method_82_code
def yX12_setting : MethodName := ⟨RX12, "setting", "(II)Z"⟩
abbrev cX12_scope : ByteArray := prog_14_method_83_code
def yX12_scope : MethodName := ⟨RX12, "scope", "(II)I"⟩
abbrev cX12_day : ByteArray := prog_14_method_84_code
def yX12_day : MethodName := ⟨RX12, "day", "()I"⟩
abbrev cX12_meal : ByteArray := prog_14_method_85_code
def yX12_meal : MethodName := ⟨RX12, "meal", "(I)I"⟩
abbrev cX12_begins_ : ByteArray := prog_14_method_86_code
def yX12_begins_ : MethodName := ⟨RX12, "begins", "()V"⟩
abbrev cX12_ends : ByteArray := prog_14_method_87_code
def yX12_ends : MethodName := ⟨RX12, "ends", "(I)Z"⟩
abbrev cX12_get : ByteArray := prog_14_method_88_code
def yX12_get : MethodName := ⟨RX12, "get", "(II)I"⟩
abbrev cX12_call : ByteArray := prog_14_method_89_code
def yX12_call : MethodName := ⟨RX12, "call", "(IIII)I"⟩
abbrev cX12_closeAll : ByteArray := prog_14_method_90_code
def yX12_closeAll : MethodName := ⟨RX12, "closeAll", "(I)I"⟩
abbrev cX12_latestIn : ByteArray := prog_14_method_91_code
def yX12_latestIn : MethodName := ⟨RX12, "latestIn", "(I)I"⟩
abbrev cX12_close : ByteArray := prog_14_method_92_code
def yX12_close : MethodName := ⟨RX12, "close", "(I)I"⟩
abbrev cX12_outcome : ByteArray := prog_14_method_93_code
def yX12_outcome : MethodName := ⟨RX12, "outcome", "()I"⟩
abbrev cX12_cause : ByteArray := prog_14_method_94_code
def yX12_cause : MethodName := ⟨RX12, "cause", "(I)I"⟩
abbrev cX12_named_ : ByteArray := prog_14_method_95_code
def yX12_named_ : MethodName := ⟨RX12, "named", "(I)I"⟩
abbrev cX12_component : ByteArray := prog_14_method_96_code
def yX12_component : MethodName := ⟨RX12, "component", "(II)I"⟩
abbrev cX12_candidate : ByteArray := prog_14_method_97_code
def yX12_candidate : MethodName := ⟨RX12, "candidate", "(III)I"⟩
abbrev cX12_object : ByteArray := prog_14_method_98_code
def yX12_object : MethodName := ⟨RX12, "object", "(II)I"⟩
abbrev cX12_joined : ByteArray := prog_14_method_99_code
def yX12_joined : MethodName := ⟨RX12, "joined", "(III)I"⟩
abbrev cX12_closed : ByteArray := prog_14_method_100_code
def yX12_closed : MethodName := ⟨RX12, "closed", "(II)I"⟩
abbrev cX12_spoiled : ByteArray := prog_14_method_101_code
def yX12_spoiled : MethodName := ⟨RX12, "spoiled", "(II)I"⟩
abbrev cX12_did : ByteArray := prog_14_method_102_code
def yX12_did : MethodName := ⟨RX12, "did", "(II)I"⟩
abbrev cX12_count : ByteArray := prog_14_method_103_code
def yX12_count : MethodName := ⟨RX12, "count", "(I)I"⟩
def RJ11 : String := "java/lang/Character"
def TJ11 : u_T := fun k => match k with
  | _ => ("", "", "", false)
def tyJ11 : Nat → FieldType := fun k => match k with
  | _ => .int
abbrev wsJ110 : List Cond := u_ws RJ11 TJ11 0
theorem nmJ11 : ∀ a, a < 0 → ∀ b, b < 0 → a ≠ b → (TJ11 a).2.1 ≠ (TJ11 b).2.1 := by decide +kernel
theorem tyJ11_ok : ∀ k, k < 0 → parseFieldDescriptor (TJ11 k).2.2.1 = some (tyJ11 k) := by decide +kernel
abbrev cJ11_isValidCodePoint_9a6ad : ByteArray := prog_15_method_11_code
def yJ11_isValidCodePoint_9a6ad : MethodName := ⟨RJ11, "isValidCodePoint", "(I)Z"⟩
abbrev cJ11_highSurrogate_5068e : ByteArray := prog_15_method_28_code
def yJ11_highSurrogate_5068e : MethodName := ⟨RJ11, "highSurrogate", "(I)C"⟩
abbrev cJ11_lowSurrogate_5068e : ByteArray := prog_15_method_29_code
def yJ11_lowSurrogate_5068e : MethodName := ⟨RJ11, "lowSurrogate", "(I)C"⟩
def RJx8e188 : String := "java/lang/Cloneable"
def TJx8e188 : u_T := fun k => match k with
  | _ => ("", "", "", false)
def tyJx8e188 : Nat → FieldType := fun k => match k with
  | _ => .int
abbrev wsJx8e1880 : List Cond := u_ws RJx8e188 TJx8e188 0
theorem nmJx8e188 : ∀ a, a < 0 → ∀ b, b < 0 → a ≠ b → (TJx8e188 a).2.1 ≠ (TJx8e188 b).2.1 := by decide +kernel
theorem tyJx8e188_ok : ∀ k, k < 0 → parseFieldDescriptor (TJx8e188 k).2.2.1 = some (tyJx8e188 k) := by decide +kernel
def RJ6 : String := "java/lang/Integer"
def TJ6 : u_T := fun k => match k with
  | _ => ("", "", "", false)
def tyJ6 : Nat → FieldType := fun k => match k with
  | _ => .int
abbrev wsJ60 : List Cond := u_ws RJ6 TJ6 0
theorem nmJ6 : ∀ a, a < 0 → ∀ b, b < 0 → a ≠ b → (TJ6 a).2.1 ≠ (TJ6 b).2.1 := by decide +kernel
theorem tyJ6_ok : ∀ k, k < 0 → parseFieldDescriptor (TJ6 k).2.2.1 = some (tyJ6 k) := by decide +kernel
abbrev cJ6_numberOfTrailingZeros_0f7a4 : ByteArray := prog_18_method_48_code
def yJ6_numberOfTrailingZeros_0f7a4 : MethodName := ⟨RJ6, "numberOfTrailingZeros", "(I)I"⟩
abbrev cJ6_bitCount_0f7a4 : ByteArray := prog_18_method_49_code
def yJ6_bitCount_0f7a4 : MethodName := ⟨RJ6, "bitCount", "(I)I"⟩
def RJ9 : String := "java/lang/Math"
def TJ9 : u_T := fun k => match k with
  | _ => ("", "", "", false)
def tyJ9 : Nat → FieldType := fun k => match k with
  | _ => .int
abbrev wsJ90 : List Cond := u_ws RJ9 TJ9 0
theorem nmJ9 : ∀ a, a < 0 → ∀ b, b < 0 → a ≠ b → (TJ9 a).2.1 ≠ (TJ9 b).2.1 := by decide +kernel
theorem tyJ9_ok : ∀ k, k < 0 → parseFieldDescriptor (TJ9 k).2.2.1 = some (tyJ9 k) := by decide +kernel
abbrev cJ9_max_7cf53 : ByteArray := prog_19_method_65_code
def yJ9_max_7cf53 : MethodName := ⟨RJ9, "max", "(II)I"⟩
abbrev cJ9_min_7cf53 : ByteArray := prog_19_method_69_code
def yJ9_min_7cf53 : MethodName := ⟨RJ9, "min", "(II)I"⟩
def RJ0 : String := "java/lang/String"
def TJ0 : u_T := fun k => match k with
  | _ => ("", "", "", false)
def tyJ0 : Nat → FieldType := fun k => match k with
  | _ => .int
abbrev wsJ00 : List Cond := u_ws RJ0 TJ0 0
theorem nmJ0 : ∀ a, a < 0 → ∀ b, b < 0 → a ≠ b → (TJ0 a).2.1 ≠ (TJ0 b).2.1 := by decide +kernel
theorem tyJ0_ok : ∀ k, k < 0 → parseFieldDescriptor (TJ0 k).2.2.1 = some (tyJ0 k) := by decide +kernel
abbrev cJ0_length_8abf5 : ByteArray := prog_21_method_54_code
def yJ0_length_8abf5 : MethodName := ⟨RJ0, "length", "()I"⟩
abbrev cJ0_charAt_5068e : ByteArray := prog_21_method_56_code
def yJ0_charAt_5068e : MethodName := ⟨RJ0, "charAt", "(I)C"⟩
abbrev cJ0_indexOf_0f7a4 : ByteArray := prog_21_method_79_code
def yJ0_indexOf_0f7a4 : MethodName := ⟨RJ0, "indexOf", "(I)I"⟩
abbrev cJ0_indexOf_7cf53 : ByteArray := prog_21_method_80_code
def yJ0_indexOf_7cf53 : MethodName := ⟨RJ0, "indexOf", "(II)I"⟩
abbrev cJ0_coder_7d493 : ByteArray := prog_21_method_152_code
def yJ0_coder_7d493 : MethodName := ⟨RJ0, "coder", "()B"⟩
abbrev cJ0_isLatin1_aae02 : ByteArray := prog_21_method_154_code
def yJ0_isLatin1_aae02 : MethodName := ⟨RJ0, "isLatin1", "()Z"⟩
abbrev cJ0_checkIndex_df160 : ByteArray := prog_21_method_155_code
def yJ0_checkIndex_df160 : MethodName := ⟨RJ0, "checkIndex", "(II)V"⟩
abbrev cJ0_checkBoundsBeginEnd_23922 : ByteArray := prog_21_method_158_code
def yJ0_checkBoundsBeginEnd_23922 : MethodName := ⟨RJ0, "checkBoundsBeginEnd", "(III)V"⟩
def RJ1 : String := "java/lang/StringLatin1"
def TJ1 : u_T := fun k => match k with
  | _ => ("", "", "", false)
def tyJ1 : Nat → FieldType := fun k => match k with
  | _ => .int
abbrev wsJ10 : List Cond := u_ws RJ1 TJ1 0
theorem nmJ1 : ∀ a, a < 0 → ∀ b, b < 0 → a ≠ b → (TJ1 a).2.1 ≠ (TJ1 b).2.1 := by decide +kernel
theorem tyJ1_ok : ∀ k, k < 0 → parseFieldDescriptor (TJ1 k).2.2.1 = some (tyJ1 k) := by decide +kernel
abbrev cJ1_charAt_3b067 : ByteArray := prog_22_method_2_code
def yJ1_charAt_3b067 : MethodName := ⟨RJ1, "charAt", "([BI)C"⟩
abbrev cJ1_canEncode_9a6ad : ByteArray := prog_22_method_4_code
def yJ1_canEncode_9a6ad : MethodName := ⟨RJ1, "canEncode", "(I)Z"⟩
abbrev cJ1_indexOf_4cfef : ByteArray := prog_22_method_22_code
def yJ1_indexOf_4cfef : MethodName := ⟨RJ1, "indexOf", "([BIII)I"⟩
abbrev cJ1_indexOfChar_4cfef : ByteArray := prog_22_method_23_code
def yJ1_indexOfChar_4cfef : MethodName := ⟨RJ1, "indexOfChar", "([BIII)I"⟩
def RJ2 : String := "java/lang/StringUTF16"
def TJ2 : u_T := fun k => match k with
  | _ => ("", "", "", false)
def tyJ2 : Nat → FieldType := fun k => match k with
  | _ => .int
abbrev wsJ20 : List Cond := u_ws RJ2 TJ2 0
theorem nmJ2 : ∀ a, a < 0 → ∀ b, b < 0 → a ≠ b → (TJ2 a).2.1 ≠ (TJ2 b).2.1 := by decide +kernel
theorem tyJ2_ok : ∀ k, k < 0 → parseFieldDescriptor (TJ2 k).2.2.1 = some (tyJ2 k) := by decide +kernel
abbrev cJ2_getChar_3b067 : ByteArray := prog_23_method_5_code
def yJ2_getChar_3b067 : MethodName := ⟨RJ2, "getChar", "([BI)C"⟩
abbrev cJ2_length_9d52b : ByteArray := prog_23_method_6_code
def yJ2_length_9d52b : MethodName := ⟨RJ2, "length", "([B)I"⟩
abbrev cJ2_indexOf_4cfef : ByteArray := prog_23_method_40_code
def yJ2_indexOf_4cfef : MethodName := ⟨RJ2, "indexOf", "([BIII)I"⟩
abbrev cJ2_indexOfChar_4cfef : ByteArray := prog_23_method_47_code
def yJ2_indexOfChar_4cfef : MethodName := ⟨RJ2, "indexOfChar", "([BIII)I"⟩
abbrev cJ2_indexOfCharUnsafe_4cfef : ByteArray := prog_23_method_48_code
def yJ2_indexOfCharUnsafe_4cfef : MethodName := ⟨RJ2, "indexOfCharUnsafe", "([BIII)I"⟩
abbrev cJ2_indexOfSupplementary_4cfef : ByteArray := prog_23_method_49_code
def yJ2_indexOfSupplementary_4cfef : MethodName := ⟨RJ2, "indexOfSupplementary", "([BIII)I"⟩
abbrev cJ2_charAt_3b067 : ByteArray := prog_23_method_83_code
def yJ2_charAt_3b067 : MethodName := ⟨RJ2, "charAt", "([BI)C"⟩
abbrev cJ2_checkIndex_2214a : ByteArray := prog_23_method_91_code
def yJ2_checkIndex_2214a : MethodName := ⟨RJ2, "checkIndex", "(I[B)V"⟩
abbrev cJ2_checkBoundsBeginEnd_d044e : ByteArray := prog_23_method_93_code
def yJ2_checkBoundsBeginEnd_d044e : MethodName := ⟨RJ2, "checkBoundsBeginEnd", "(II[B)V"⟩
def RJ10 : String := "java/lang/System"
def TJ10 : u_T := fun k => match k with
  | _ => ("", "", "", false)
def tyJ10 : Nat → FieldType := fun k => match k with
  | _ => .int
abbrev wsJ100 : List Cond := u_ws RJ10 TJ10 0
theorem nmJ10 : ∀ a, a < 0 → ∀ b, b < 0 → a ≠ b → (TJ10 a).2.1 ≠ (TJ10 b).2.1 := by decide +kernel
theorem tyJ10_ok : ∀ k, k < 0 → parseFieldDescriptor (TJ10 k).2.2.1 = some (tyJ10 k) := by decide +kernel
def RJ7 : String := "java/util/Arrays"
def TJ7 : u_T := fun k => match k with
  | _ => ("", "", "", false)
def tyJ7 : Nat → FieldType := fun k => match k with
  | _ => .int
abbrev wsJ70 : List Cond := u_ws RJ7 TJ7 0
theorem nmJ7 : ∀ a, a < 0 → ∀ b, b < 0 → a ≠ b → (TJ7 a).2.1 ≠ (TJ7 b).2.1 := by decide +kernel
theorem tyJ7_ok : ∀ k, k < 0 → parseFieldDescriptor (TJ7 k).2.2.1 = some (tyJ7 k) := by decide +kernel
abbrev cJ7_rangeCheck_23922 : ByteArray := prog_26_method_30_code
def yJ7_rangeCheck_23922 : MethodName := ⟨RJ7, "rangeCheck", "(III)V"⟩
abbrev cJ7_fill_53178 : ByteArray := prog_26_method_103_code
def yJ7_fill_53178 : MethodName := ⟨RJ7, "fill", "([II)V"⟩
abbrev cJ7_fill_fda19 : ByteArray := prog_26_method_104_code
def yJ7_fill_fda19 : MethodName := ⟨RJ7, "fill", "([IIII)V"⟩
abbrev cJ7_copyOf_59c91 : ByteArray := prog_26_method_123_code
def yJ7_copyOf_59c91 : MethodName := ⟨RJ7, "copyOf", "([II)[I"⟩
def RJ3 : String := "jdk/internal/util/Preconditions"
def TJ3 : u_T := fun k => match k with
  | _ => ("", "", "", false)
def tyJ3 : Nat → FieldType := fun k => match k with
  | _ => .int
abbrev wsJ30 : List Cond := u_ws RJ3 TJ3 0
theorem nmJ3 : ∀ a, a < 0 → ∀ b, b < 0 → a ≠ b → (TJ3 a).2.1 ≠ (TJ3 b).2.1 := by decide +kernel
theorem tyJ3_ok : ∀ k, k < 0 → parseFieldDescriptor (TJ3 k).2.2.1 = some (tyJ3 k) := by decide +kernel
abbrev cJ3_checkIndex_8e157 : ByteArray := prog_28_method_11_code
def yJ3_checkIndex_8e157 : MethodName := ⟨RJ3, "checkIndex", "(IILjava/util/function/BiFunction;)I"⟩
abbrev cJ3_checkFromToIndex_8c36e : ByteArray := prog_28_method_12_code
def yJ3_checkFromToIndex_8c36e : MethodName := ⟨RJ3, "checkFromToIndex", "(IIILjava/util/function/BiFunction;)I"⟩
def RL : String := "WiringHouseLaw"
abbrev cL_component : ByteArray := method_3_code
def yL_component : MethodName := ⟨RL, "component", "(LWiringHouse;II[J)I"⟩
abbrev cL_object : ByteArray := method_4_code
def yL_object : MethodName := ⟨RL, "object", "(LWiringHouse;II[J)I"⟩
abbrev cL_law : ByteArray := code
def yL_law : MethodName := ⟨RL, "law", "([I)Z"⟩
abbrev vwCl : List vw_C := [(RX0, TX0, 13), (RX1, TX1, 9), (RX2, TX2, 8), (RX3, TX3, 13), (RX4, TX4, 19), (RX5, TX5, 15), (RX6, TX6, 2), (RX7, TX7, 10), (RX8, TX8, 16), (RX9, TX9, 12), (RX10, TX10, 5), (RX11, TX11, 10), (RX12, TX12, 100)]
