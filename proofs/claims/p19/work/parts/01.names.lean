section
-- ===== PART A: goes FIRST, ahead of the names: the tables' words, and 'selects' of the private methods out of them =====
theorem tq9_1 : ∀ w ∈ tables_1_1, w ∈ tables_1 := fun w h => List.mem_append_left _ (h)
theorem tq9_2 : ∀ w ∈ tables_1_2, w ∈ tables_1 := fun w h => List.mem_append_right _ (List.mem_append_left _ (h))
theorem tq9_3 : ∀ w ∈ tables_1_3, w ∈ tables_1 := fun w h => List.mem_append_right _ (List.mem_append_right _ (List.mem_append_left _ (h)))
theorem tq9_4 : ∀ w ∈ tables_1_4, w ∈ tables_1 := fun w h => List.mem_append_right _ (List.mem_append_right _ (List.mem_append_right _ (List.mem_append_left _ (h))))
theorem tq9_5 : ∀ w ∈ tables_1_5, w ∈ tables_1 := fun w h => List.mem_append_right _ (List.mem_append_right _ (List.mem_append_right _ (List.mem_append_right _ (List.mem_append_left _ (h)))))
theorem tq9_6 : ∀ w ∈ tables_1_6, w ∈ tables_1 := fun w h => List.mem_append_right _ (List.mem_append_right _ (List.mem_append_right _ (List.mem_append_right _ (List.mem_append_right _ (List.mem_append_left _ (h))))))
theorem tq9_7 : ∀ w ∈ tables_1_7, w ∈ tables_1 := fun w h => List.mem_append_right _ (List.mem_append_right _ (List.mem_append_right _ (List.mem_append_right _ (List.mem_append_right _ (List.mem_append_right _ (List.mem_append_left _ (h)))))))
theorem tq9_8 : ∀ w ∈ tables_1_8, w ∈ tables_1 := fun w h => List.mem_append_right _ (List.mem_append_right _ (List.mem_append_right _ (List.mem_append_right _ (List.mem_append_right _ (List.mem_append_right _ (List.mem_append_right _ (List.mem_append_left _ (h))))))))
theorem tq9_9 : ∀ w ∈ tables_1_9, w ∈ tables_1 := fun w h => List.mem_append_right _ (List.mem_append_right _ (List.mem_append_right _ (List.mem_append_right _ (List.mem_append_right _ (List.mem_append_right _ (List.mem_append_right _ (List.mem_append_right _ (List.mem_append_left _ (h)))))))))
theorem tq9_10 : ∀ w ∈ tables_1_10, w ∈ tables_1 := fun w h => List.mem_append_right _ (List.mem_append_right _ (List.mem_append_right _ (List.mem_append_right _ (List.mem_append_right _ (List.mem_append_right _ (List.mem_append_right _ (List.mem_append_right _ (List.mem_append_right _ (h)))))))))
/-- a private method of a class that the tables say can be made, by its rows of tables_1 -/
def lw_okq (q : MethodName × Nat) : Prop := (q.1.cls ≠ "java/lang/invoke/MethodHandle" ∧ q.1.cls ≠ "java/lang/invoke/VarHandle") ∧ Cond.instantiable q.1.cls q.2 ∈ tables_1 ∧ Cond.privateMethod q.1 ∈ tables_1 ∧ Cond.instanceMethod q.1 ∈ tables_1
theorem lw_p0 : lw_okq (⟨"WiringHouse$Tape", "cut", "()V"⟩, 12) := ⟨⟨by decide +kernel, by decide +kernel⟩, tq9_1 _ (List.mem_of_getElem? (i := 36) (by decide +kernel)), tq9_3 _ (List.mem_of_getElem? (i := 136) (by decide +kernel)), tq9_3 _ (List.mem_of_getElem? (i := 137) (by decide +kernel))⟩
theorem lw_p1 : lw_okq (⟨"WiringHouse$Tape", "cutNumber", "()V"⟩, 12) := ⟨⟨by decide +kernel, by decide +kernel⟩, tq9_1 _ (List.mem_of_getElem? (i := 36) (by decide +kernel)), tq9_3 _ (List.mem_of_getElem? (i := 140) (by decide +kernel)), tq9_3 _ (List.mem_of_getElem? (i := 141) (by decide +kernel))⟩
theorem lw_p2 : lw_okq (⟨"WiringHouse$Tape", "cutWord", "()V"⟩, 12) := ⟨⟨by decide +kernel, by decide +kernel⟩, tq9_1 _ (List.mem_of_getElem? (i := 36) (by decide +kernel)), tq9_3 _ (List.mem_of_getElem? (i := 149) (by decide +kernel)), tq9_3 _ (List.mem_of_getElem? (i := 150) (by decide +kernel))⟩
theorem lw_p3 : lw_okq (⟨"WiringHouse$Tape", "kindOf", "(J)I"⟩, 12) := ⟨⟨by decide +kernel, by decide +kernel⟩, tq9_1 _ (List.mem_of_getElem? (i := 36) (by decide +kernel)), tq9_3 _ (List.mem_of_getElem? (i := 153) (by decide +kernel)), tq9_3 _ (List.mem_of_getElem? (i := 154) (by decide +kernel))⟩
theorem lw_p4 : lw_okq (⟨"WiringHouse$BookReader", "readStatement", "()Z"⟩, 9) := ⟨⟨by decide +kernel, by decide +kernel⟩, tq9_1 _ (List.mem_of_getElem? (i := 144) (by decide +kernel)), tq9_3 _ (List.mem_of_getElem? (i := 221) (by decide +kernel)), tq9_3 _ (List.mem_of_getElem? (i := 222) (by decide +kernel))⟩
theorem lw_p5 : lw_okq (⟨"WiringHouse$BookReader", "readType", "()Z"⟩, 9) := ⟨⟨by decide +kernel, by decide +kernel⟩, tq9_1 _ (List.mem_of_getElem? (i := 144) (by decide +kernel)), tq9_3 _ (List.mem_of_getElem? (i := 225) (by decide +kernel)), tq9_3 _ (List.mem_of_getElem? (i := 226) (by decide +kernel))⟩
theorem lw_p6 : lw_okq (⟨"WiringHouse$BookReader", "wrong", "(I)Z"⟩, 9) := ⟨⟨by decide +kernel, by decide +kernel⟩, tq9_1 _ (List.mem_of_getElem? (i := 144) (by decide +kernel)), tq9_3 _ (List.mem_of_getElem? (i := 233) (by decide +kernel)), tq9_3 _ (List.mem_of_getElem? (i := 234) (by decide +kernel))⟩
theorem lw_p7 : lw_okq (⟨"WiringHouse$BookReader", "takeNewName", "()Z"⟩, 9) := ⟨⟨by decide +kernel, by decide +kernel⟩, tq9_1 _ (List.mem_of_getElem? (i := 144) (by decide +kernel)), tq9_3 _ (List.mem_of_getElem? (i := 238) (by decide +kernel)), tq9_3 _ (List.mem_of_getElem? (i := 239) (by decide +kernel))⟩
theorem lw_p8 : lw_okq (⟨"WiringHouse$BookReader", "takeTypes", "()Z"⟩, 9) := ⟨⟨by decide +kernel, by decide +kernel⟩, tq9_1 _ (List.mem_of_getElem? (i := 144) (by decide +kernel)), tq9_4 _ (List.mem_of_getElem? (i := 10) (by decide +kernel)), tq9_4 _ (List.mem_of_getElem? (i := 11) (by decide +kernel))⟩
theorem lw_p9 : lw_okq (⟨"WiringHouse$BookReader", "isToldType", "()Z"⟩, 9) := ⟨⟨by decide +kernel, by decide +kernel⟩, tq9_1 _ (List.mem_of_getElem? (i := 144) (by decide +kernel)), tq9_4 _ (List.mem_of_getElem? (i := 14) (by decide +kernel)), tq9_4 _ (List.mem_of_getElem? (i := 15) (by decide +kernel))⟩
theorem lw_p10 : lw_okq (⟨"WiringHouse$BookReader", "take", "(I)Z"⟩, 9) := ⟨⟨by decide +kernel, by decide +kernel⟩, tq9_1 _ (List.mem_of_getElem? (i := 144) (by decide +kernel)), tq9_4 _ (List.mem_of_getElem? (i := 19) (by decide +kernel)), tq9_4 _ (List.mem_of_getElem? (i := 20) (by decide +kernel))⟩
theorem lw_p11 : lw_okq (⟨"WiringHouse$BookReader", "readSetting", "()Z"⟩, 9) := ⟨⟨by decide +kernel, by decide +kernel⟩, tq9_1 _ (List.mem_of_getElem? (i := 144) (by decide +kernel)), tq9_4 _ (List.mem_of_getElem? (i := 27) (by decide +kernel)), tq9_4 _ (List.mem_of_getElem? (i := 28) (by decide +kernel))⟩
theorem lw_p12 : lw_okq (⟨"WiringHouse$BookReader", "takeNumber", "(II)Z"⟩, 9) := ⟨⟨by decide +kernel, by decide +kernel⟩, tq9_1 _ (List.mem_of_getElem? (i := 144) (by decide +kernel)), tq9_4 _ (List.mem_of_getElem? (i := 32) (by decide +kernel)), tq9_4 _ (List.mem_of_getElem? (i := 33) (by decide +kernel))⟩
theorem lw_p13 : lw_okq (⟨"WiringHouse$BookReader", "readComponent", "()Z"⟩, 9) := ⟨⟨by decide +kernel, by decide +kernel⟩, tq9_1 _ (List.mem_of_getElem? (i := 144) (by decide +kernel)), tq9_4 _ (List.mem_of_getElem? (i := 36) (by decide +kernel)), tq9_4 _ (List.mem_of_getElem? (i := 37) (by decide +kernel))⟩
theorem lw_p14 : lw_okq (⟨"WiringHouse$BookReader", "readExtras", "(LWiringHouse$Component;)Z"⟩, 9) := ⟨⟨by decide +kernel, by decide +kernel⟩, tq9_1 _ (List.mem_of_getElem? (i := 144) (by decide +kernel)), tq9_4 _ (List.mem_of_getElem? (i := 45) (by decide +kernel)), tq9_4 _ (List.mem_of_getElem? (i := 46) (by decide +kernel))⟩
theorem lw_p15 : lw_okq (⟨"WiringHouse$BookReader", "takeCalled", "()Z"⟩, 9) := ⟨⟨by decide +kernel, by decide +kernel⟩, tq9_1 _ (List.mem_of_getElem? (i := 144) (by decide +kernel)), tq9_4 _ (List.mem_of_getElem? (i := 49) (by decide +kernel)), tq9_4 _ (List.mem_of_getElem? (i := 50) (by decide +kernel))⟩
def lw_privs_1 : List (MethodName × Nat) := [(⟨"WiringHouse$Tape", "cut", "()V"⟩, 12), (⟨"WiringHouse$Tape", "cutNumber", "()V"⟩, 12), (⟨"WiringHouse$Tape", "cutWord", "()V"⟩, 12), (⟨"WiringHouse$Tape", "kindOf", "(J)I"⟩, 12), (⟨"WiringHouse$BookReader", "readStatement", "()Z"⟩, 9), (⟨"WiringHouse$BookReader", "readType", "()Z"⟩, 9), (⟨"WiringHouse$BookReader", "wrong", "(I)Z"⟩, 9), (⟨"WiringHouse$BookReader", "takeNewName", "()Z"⟩, 9), (⟨"WiringHouse$BookReader", "takeTypes", "()Z"⟩, 9), (⟨"WiringHouse$BookReader", "isToldType", "()Z"⟩, 9), (⟨"WiringHouse$BookReader", "take", "(I)Z"⟩, 9), (⟨"WiringHouse$BookReader", "readSetting", "()Z"⟩, 9), (⟨"WiringHouse$BookReader", "takeNumber", "(II)Z"⟩, 9), (⟨"WiringHouse$BookReader", "readComponent", "()Z"⟩, 9), (⟨"WiringHouse$BookReader", "readExtras", "(LWiringHouse$Component;)Z"⟩, 9), (⟨"WiringHouse$BookReader", "takeCalled", "()Z"⟩, 9)]
theorem lw_r1 : ∀ q ∈ lw_privs_1, lw_okq q := List.forall_mem_cons.mpr ⟨lw_p0, List.forall_mem_cons.mpr ⟨lw_p1, List.forall_mem_cons.mpr ⟨lw_p2, List.forall_mem_cons.mpr ⟨lw_p3, List.forall_mem_cons.mpr ⟨lw_p4, List.forall_mem_cons.mpr ⟨lw_p5, List.forall_mem_cons.mpr ⟨lw_p6, List.forall_mem_cons.mpr ⟨lw_p7, List.forall_mem_cons.mpr ⟨lw_p8, List.forall_mem_cons.mpr ⟨lw_p9, List.forall_mem_cons.mpr ⟨lw_p10, List.forall_mem_cons.mpr ⟨lw_p11, List.forall_mem_cons.mpr ⟨lw_p12, List.forall_mem_cons.mpr ⟨lw_p13, List.forall_mem_cons.mpr ⟨lw_p14, List.forall_mem_cons.mpr ⟨lw_p15, fun _ h => absurd h List.not_mem_nil⟩⟩⟩⟩⟩⟩⟩⟩⟩⟩⟩⟩⟩⟩⟩⟩
theorem lw_p16 : lw_okq (⟨"WiringHouse$BookReader", "takeNumbered", "(LWiringHouse$Names;I)Z"⟩, 9) := ⟨⟨by decide +kernel, by decide +kernel⟩, tq9_1 _ (List.mem_of_getElem? (i := 144) (by decide +kernel)), tq9_4 _ (List.mem_of_getElem? (i := 53) (by decide +kernel)), tq9_4 _ (List.mem_of_getElem? (i := 54) (by decide +kernel))⟩
theorem lw_p17 : lw_okq (⟨"WiringHouse$BookReader", "takeSetting", "()Z"⟩, 9) := ⟨⟨by decide +kernel, by decide +kernel⟩, tq9_1 _ (List.mem_of_getElem? (i := 144) (by decide +kernel)), tq9_4 _ (List.mem_of_getElem? (i := 57) (by decide +kernel)), tq9_4 _ (List.mem_of_getElem? (i := 58) (by decide +kernel))⟩
theorem lw_p18 : lw_okq (⟨"WiringHouse$BookReader", "readWrap", "()Z"⟩, 9) := ⟨⟨by decide +kernel, by decide +kernel⟩, tq9_1 _ (List.mem_of_getElem? (i := 144) (by decide +kernel)), tq9_4 _ (List.mem_of_getElem? (i := 61) (by decide +kernel)), tq9_4 _ (List.mem_of_getElem? (i := 62) (by decide +kernel))⟩
theorem lw_p19 : lw_okq (⟨"WiringHouse$BookReader", "takeMethod", "(LWiringHouse$Component;)Z"⟩, 9) := ⟨⟨by decide +kernel, by decide +kernel⟩, tq9_1 _ (List.mem_of_getElem? (i := 144) (by decide +kernel)), tq9_4 _ (List.mem_of_getElem? (i := 65) (by decide +kernel)), tq9_4 _ (List.mem_of_getElem? (i := 66) (by decide +kernel))⟩
theorem lw_p20 : lw_okq (⟨"WiringHouse$BookReader", "readE", "(I)Z"⟩, 9) := ⟨⟨by decide +kernel, by decide +kernel⟩, tq9_1 _ (List.mem_of_getElem? (i := 144) (by decide +kernel)), tq9_4 _ (List.mem_of_getElem? (i := 73) (by decide +kernel)), tq9_4 _ (List.mem_of_getElem? (i := 74) (by decide +kernel))⟩
theorem lw_p21 : lw_okq (⟨"WiringHouse$BookReader", "readExpression", "(I)Z"⟩, 9) := ⟨⟨by decide +kernel, by decide +kernel⟩, tq9_1 _ (List.mem_of_getElem? (i := 144) (by decide +kernel)), tq9_4 _ (List.mem_of_getElem? (i := 77) (by decide +kernel)), tq9_4 _ (List.mem_of_getElem? (i := 78) (by decide +kernel))⟩
theorem lw_p22 : lw_okq (⟨"WiringHouse$BookReader", "readSum", "(I)Z"⟩, 9) := ⟨⟨by decide +kernel, by decide +kernel⟩, tq9_1 _ (List.mem_of_getElem? (i := 144) (by decide +kernel)), tq9_4 _ (List.mem_of_getElem? (i := 81) (by decide +kernel)), tq9_4 _ (List.mem_of_getElem? (i := 82) (by decide +kernel))⟩
theorem lw_p23 : lw_okq (⟨"WiringHouse$BookReader", "readProduct", "(I)Z"⟩, 9) := ⟨⟨by decide +kernel, by decide +kernel⟩, tq9_1 _ (List.mem_of_getElem? (i := 144) (by decide +kernel)), tq9_4 _ (List.mem_of_getElem? (i := 85) (by decide +kernel)), tq9_4 _ (List.mem_of_getElem? (i := 86) (by decide +kernel))⟩
theorem lw_p24 : lw_okq (⟨"WiringHouse$BookReader", "readPart", "(I)Z"⟩, 9) := ⟨⟨by decide +kernel, by decide +kernel⟩, tq9_1 _ (List.mem_of_getElem? (i := 144) (by decide +kernel)), tq9_4 _ (List.mem_of_getElem? (i := 89) (by decide +kernel)), tq9_4 _ (List.mem_of_getElem? (i := 90) (by decide +kernel))⟩
theorem lw_p25 : lw_okq (⟨"WiringHouse$BookReader", "beginsPart", "()Z"⟩, 9) := ⟨⟨by decide +kernel, by decide +kernel⟩, tq9_1 _ (List.mem_of_getElem? (i := 144) (by decide +kernel)), tq9_4 _ (List.mem_of_getElem? (i := 93) (by decide +kernel)), tq9_4 _ (List.mem_of_getElem? (i := 94) (by decide +kernel))⟩
theorem lw_p26 : lw_okq (⟨"WiringHouse$BookReader", "put", "(II)Z"⟩, 9) := ⟨⟨by decide +kernel, by decide +kernel⟩, tq9_1 _ (List.mem_of_getElem? (i := 144) (by decide +kernel)), tq9_4 _ (List.mem_of_getElem? (i := 101) (by decide +kernel)), tq9_4 _ (List.mem_of_getElem? (i := 102) (by decide +kernel))⟩
theorem lw_p27 : lw_okq (⟨"WiringHouse$BookReader", "putAlone", "(I)Z"⟩, 9) := ⟨⟨by decide +kernel, by decide +kernel⟩, tq9_1 _ (List.mem_of_getElem? (i := 144) (by decide +kernel)), tq9_4 _ (List.mem_of_getElem? (i := 105) (by decide +kernel)), tq9_4 _ (List.mem_of_getElem? (i := 106) (by decide +kernel))⟩
theorem lw_p28 : lw_okq (⟨"WiringHouse$BookReader", "readPick", "(I)Z"⟩, 9) := ⟨⟨by decide +kernel, by decide +kernel⟩, tq9_1 _ (List.mem_of_getElem? (i := 144) (by decide +kernel)), tq9_4 _ (List.mem_of_getElem? (i := 109) (by decide +kernel)), tq9_4 _ (List.mem_of_getElem? (i := 110) (by decide +kernel))⟩
theorem lw_p29 : lw_okq (⟨"WiringHouse$BookReader", "readOf", "(I)Z"⟩, 9) := ⟨⟨by decide +kernel, by decide +kernel⟩, tq9_1 _ (List.mem_of_getElem? (i := 144) (by decide +kernel)), tq9_4 _ (List.mem_of_getElem? (i := 117) (by decide +kernel)), tq9_4 _ (List.mem_of_getElem? (i := 118) (by decide +kernel))⟩
theorem lw_p30 : lw_okq (⟨"WiringHouse$BookReader", "readWithin", "(I)Z"⟩, 9) := ⟨⟨by decide +kernel, by decide +kernel⟩, tq9_1 _ (List.mem_of_getElem? (i := 144) (by decide +kernel)), tq9_4 _ (List.mem_of_getElem? (i := 121) (by decide +kernel)), tq9_4 _ (List.mem_of_getElem? (i := 122) (by decide +kernel))⟩
theorem lw_p31 : lw_okq (⟨"WiringHouse$BookReader", "readMember", "()Z"⟩, 9) := ⟨⟨by decide +kernel, by decide +kernel⟩, tq9_1 _ (List.mem_of_getElem? (i := 144) (by decide +kernel)), tq9_4 _ (List.mem_of_getElem? (i := 129) (by decide +kernel)), tq9_4 _ (List.mem_of_getElem? (i := 130) (by decide +kernel))⟩
def lw_privs_2 : List (MethodName × Nat) := [(⟨"WiringHouse$BookReader", "takeNumbered", "(LWiringHouse$Names;I)Z"⟩, 9), (⟨"WiringHouse$BookReader", "takeSetting", "()Z"⟩, 9), (⟨"WiringHouse$BookReader", "readWrap", "()Z"⟩, 9), (⟨"WiringHouse$BookReader", "takeMethod", "(LWiringHouse$Component;)Z"⟩, 9), (⟨"WiringHouse$BookReader", "readE", "(I)Z"⟩, 9), (⟨"WiringHouse$BookReader", "readExpression", "(I)Z"⟩, 9), (⟨"WiringHouse$BookReader", "readSum", "(I)Z"⟩, 9), (⟨"WiringHouse$BookReader", "readProduct", "(I)Z"⟩, 9), (⟨"WiringHouse$BookReader", "readPart", "(I)Z"⟩, 9), (⟨"WiringHouse$BookReader", "beginsPart", "()Z"⟩, 9), (⟨"WiringHouse$BookReader", "put", "(II)Z"⟩, 9), (⟨"WiringHouse$BookReader", "putAlone", "(I)Z"⟩, 9), (⟨"WiringHouse$BookReader", "readPick", "(I)Z"⟩, 9), (⟨"WiringHouse$BookReader", "readOf", "(I)Z"⟩, 9), (⟨"WiringHouse$BookReader", "readWithin", "(I)Z"⟩, 9), (⟨"WiringHouse$BookReader", "readMember", "()Z"⟩, 9)]
theorem lw_r2 : ∀ q ∈ lw_privs_2, lw_okq q := List.forall_mem_cons.mpr ⟨lw_p16, List.forall_mem_cons.mpr ⟨lw_p17, List.forall_mem_cons.mpr ⟨lw_p18, List.forall_mem_cons.mpr ⟨lw_p19, List.forall_mem_cons.mpr ⟨lw_p20, List.forall_mem_cons.mpr ⟨lw_p21, List.forall_mem_cons.mpr ⟨lw_p22, List.forall_mem_cons.mpr ⟨lw_p23, List.forall_mem_cons.mpr ⟨lw_p24, List.forall_mem_cons.mpr ⟨lw_p25, List.forall_mem_cons.mpr ⟨lw_p26, List.forall_mem_cons.mpr ⟨lw_p27, List.forall_mem_cons.mpr ⟨lw_p28, List.forall_mem_cons.mpr ⟨lw_p29, List.forall_mem_cons.mpr ⟨lw_p30, List.forall_mem_cons.mpr ⟨lw_p31, fun _ h => absurd h List.not_mem_nil⟩⟩⟩⟩⟩⟩⟩⟩⟩⟩⟩⟩⟩⟩⟩⟩
theorem lw_p32 : lw_okq (⟨"WiringHouse$BookReader", "readNeed", "()Z"⟩, 9) := ⟨⟨by decide +kernel, by decide +kernel⟩, tq9_1 _ (List.mem_of_getElem? (i := 144) (by decide +kernel)), tq9_4 _ (List.mem_of_getElem? (i := 133) (by decide +kernel)), tq9_4 _ (List.mem_of_getElem? (i := 134) (by decide +kernel))⟩
theorem lw_p33 : lw_okq (⟨"WiringHouse$BookReader", "readMethod", "()Z"⟩, 9) := ⟨⟨by decide +kernel, by decide +kernel⟩, tq9_1 _ (List.mem_of_getElem? (i := 144) (by decide +kernel)), tq9_4 _ (List.mem_of_getElem? (i := 141) (by decide +kernel)), tq9_4 _ (List.mem_of_getElem? (i := 142) (by decide +kernel))⟩
theorem lw_p34 : lw_okq (⟨"WiringHouse$Checker", "examineNeeds", "(I)V"⟩, 8) := ⟨⟨by decide +kernel, by decide +kernel⟩, tq9_1 _ (List.mem_of_getElem? (i := 178) (by decide +kernel)), tq9_4 _ (List.mem_of_getElem? (i := 199) (by decide +kernel)), tq9_4 _ (List.mem_of_getElem? (i := 200) (by decide +kernel))⟩
theorem lw_p35 : lw_okq (⟨"WiringHouse$Checker", "faultOf", "(II)I"⟩, 8) := ⟨⟨by decide +kernel, by decide +kernel⟩, tq9_1 _ (List.mem_of_getElem? (i := 178) (by decide +kernel)), tq9_4 _ (List.mem_of_getElem? (i := 203) (by decide +kernel)), tq9_4 _ (List.mem_of_getElem? (i := 204) (by decide +kernel))⟩
theorem lw_p36 : lw_okq (⟨"WiringHouse$Checker", "hasShorter", "(II)Z"⟩, 8) := ⟨⟨by decide +kernel, by decide +kernel⟩, tq9_1 _ (List.mem_of_getElem? (i := 178) (by decide +kernel)), tq9_4 _ (List.mem_of_getElem? (i := 218) (by decide +kernel)), tq9_4 _ (List.mem_of_getElem? (i := 219) (by decide +kernel))⟩
theorem lw_p37 : lw_okq (⟨"WiringHouse$Checker", "note", "(III)V"⟩, 8) := ⟨⟨by decide +kernel, by decide +kernel⟩, tq9_1 _ (List.mem_of_getElem? (i := 178) (by decide +kernel)), tq9_4 _ (List.mem_of_getElem? (i := 222) (by decide +kernel)), tq9_4 _ (List.mem_of_getElem? (i := 223) (by decide +kernel))⟩
theorem lw_p38 : lw_okq (⟨"WiringHouse$Checker", "follow", "(II)V"⟩, 8) := ⟨⟨by decide +kernel, by decide +kernel⟩, tq9_1 _ (List.mem_of_getElem? (i := 178) (by decide +kernel)), tq9_4 _ (List.mem_of_getElem? (i := 227) (by decide +kernel)), tq9_4 _ (List.mem_of_getElem? (i := 228) (by decide +kernel))⟩
theorem lw_p39 : lw_okq (⟨"WiringHouse$Checker", "followed", "(II)I"⟩, 8) := ⟨⟨by decide +kernel, by decide +kernel⟩, tq9_1 _ (List.mem_of_getElem? (i := 178) (by decide +kernel)), tq9_4 _ (List.mem_of_getElem? (i := 231) (by decide +kernel)), tq9_4 _ (List.mem_of_getElem? (i := 232) (by decide +kernel))⟩
theorem lw_p40 : lw_okq (⟨"WiringHouse$Checker", "noteRing", "(II)V"⟩, 8) := ⟨⟨by decide +kernel, by decide +kernel⟩, tq9_1 _ (List.mem_of_getElem? (i := 178) (by decide +kernel)), tq9_4 _ (List.mem_of_getElem? (i := 235) (by decide +kernel)), tq9_4 _ (List.mem_of_getElem? (i := 236) (by decide +kernel))⟩
theorem lw_p41 : lw_okq (⟨"WiringHouse$Checker", "tells", "(I)Z"⟩, 8) := ⟨⟨by decide +kernel, by decide +kernel⟩, tq9_1 _ (List.mem_of_getElem? (i := 178) (by decide +kernel)), tq9_5 _ (List.mem_of_getElem? (i := 7) (by decide +kernel)), tq9_5 _ (List.mem_of_getElem? (i := 8) (by decide +kernel))⟩
theorem lw_p42 : lw_okq (⟨"WiringHouse", "ends", "(II)I"⟩, 10) := ⟨⟨by decide +kernel, by decide +kernel⟩, tq9_1 _ (List.mem_of_getElem? (i := 28) (by decide +kernel)), tq9_5 _ (List.mem_of_getElem? (i := 57) (by decide +kernel)), tq9_5 _ (List.mem_of_getElem? (i := 58) (by decide +kernel))⟩
theorem lw_p43 : lw_okq (⟨"WiringHouse$Machine", "push", "(IIIII)LWiringHouse$Frame;"⟩, 15) := ⟨⟨by decide +kernel, by decide +kernel⟩, tq9_3 _ (List.mem_of_getElem? (i := 25) (by decide +kernel)), tq9_5 _ (List.mem_of_getElem? (i := 66) (by decide +kernel)), tq9_5 _ (List.mem_of_getElem? (i := 67) (by decide +kernel))⟩
theorem lw_p44 : lw_okq (⟨"WiringHouse$Machine", "goOnGetting", "(LWiringHouse$Frame;)V"⟩, 15) := ⟨⟨by decide +kernel, by decide +kernel⟩, tq9_3 _ (List.mem_of_getElem? (i := 25) (by decide +kernel)), tq9_5 _ (List.mem_of_getElem? (i := 138) (by decide +kernel)), tq9_5 _ (List.mem_of_getElem? (i := 139) (by decide +kernel))⟩
theorem lw_p45 : lw_okq (⟨"WiringHouse$Machine", "seek", "(III)V"⟩, 15) := ⟨⟨by decide +kernel, by decide +kernel⟩, tq9_3 _ (List.mem_of_getElem? (i := 25) (by decide +kernel)), tq9_5 _ (List.mem_of_getElem? (i := 142) (by decide +kernel)), tq9_5 _ (List.mem_of_getElem? (i := 143) (by decide +kernel))⟩
theorem lw_p46 : lw_okq (⟨"WiringHouse$Machine", "failWith", "(II)V"⟩, 15) := ⟨⟨by decide +kernel, by decide +kernel⟩, tq9_3 _ (List.mem_of_getElem? (i := 25) (by decide +kernel)), tq9_5 _ (List.mem_of_getElem? (i := 147) (by decide +kernel)), tq9_5 _ (List.mem_of_getElem? (i := 148) (by decide +kernel))⟩
theorem lw_p47 : lw_okq (⟨"WiringHouse$Machine", "beginMaking", "(IIIZ)V"⟩, 15) := ⟨⟨by decide +kernel, by decide +kernel⟩, tq9_3 _ (List.mem_of_getElem? (i := 25) (by decide +kernel)), tq9_5 _ (List.mem_of_getElem? (i := 163) (by decide +kernel)), tq9_5 _ (List.mem_of_getElem? (i := 164) (by decide +kernel))⟩
def lw_privs_3 : List (MethodName × Nat) := [(⟨"WiringHouse$BookReader", "readNeed", "()Z"⟩, 9), (⟨"WiringHouse$BookReader", "readMethod", "()Z"⟩, 9), (⟨"WiringHouse$Checker", "examineNeeds", "(I)V"⟩, 8), (⟨"WiringHouse$Checker", "faultOf", "(II)I"⟩, 8), (⟨"WiringHouse$Checker", "hasShorter", "(II)Z"⟩, 8), (⟨"WiringHouse$Checker", "note", "(III)V"⟩, 8), (⟨"WiringHouse$Checker", "follow", "(II)V"⟩, 8), (⟨"WiringHouse$Checker", "followed", "(II)I"⟩, 8), (⟨"WiringHouse$Checker", "noteRing", "(II)V"⟩, 8), (⟨"WiringHouse$Checker", "tells", "(I)Z"⟩, 8), (⟨"WiringHouse", "ends", "(II)I"⟩, 10), (⟨"WiringHouse$Machine", "push", "(IIIII)LWiringHouse$Frame;"⟩, 15), (⟨"WiringHouse$Machine", "goOnGetting", "(LWiringHouse$Frame;)V"⟩, 15), (⟨"WiringHouse$Machine", "seek", "(III)V"⟩, 15), (⟨"WiringHouse$Machine", "failWith", "(II)V"⟩, 15), (⟨"WiringHouse$Machine", "beginMaking", "(IIIZ)V"⟩, 15)]
theorem lw_r3 : ∀ q ∈ lw_privs_3, lw_okq q := List.forall_mem_cons.mpr ⟨lw_p32, List.forall_mem_cons.mpr ⟨lw_p33, List.forall_mem_cons.mpr ⟨lw_p34, List.forall_mem_cons.mpr ⟨lw_p35, List.forall_mem_cons.mpr ⟨lw_p36, List.forall_mem_cons.mpr ⟨lw_p37, List.forall_mem_cons.mpr ⟨lw_p38, List.forall_mem_cons.mpr ⟨lw_p39, List.forall_mem_cons.mpr ⟨lw_p40, List.forall_mem_cons.mpr ⟨lw_p41, List.forall_mem_cons.mpr ⟨lw_p42, List.forall_mem_cons.mpr ⟨lw_p43, List.forall_mem_cons.mpr ⟨lw_p44, List.forall_mem_cons.mpr ⟨lw_p45, List.forall_mem_cons.mpr ⟨lw_p46, List.forall_mem_cons.mpr ⟨lw_p47, fun _ h => absurd h List.not_mem_nil⟩⟩⟩⟩⟩⟩⟩⟩⟩⟩⟩⟩⟩⟩⟩⟩
theorem lw_p48 : lw_okq (⟨"WiringHouse$Machine", "takesStep", "()Z"⟩, 15) := ⟨⟨by decide +kernel, by decide +kernel⟩, tq9_3 _ (List.mem_of_getElem? (i := 25) (by decide +kernel)), tq9_5 _ (List.mem_of_getElem? (i := 167) (by decide +kernel)), tq9_5 _ (List.mem_of_getElem? (i := 168) (by decide +kernel))⟩
theorem lw_p49 : lw_okq (⟨"WiringHouse$Machine", "answerWith", "(I)V"⟩, 15) := ⟨⟨by decide +kernel, by decide +kernel⟩, tq9_3 _ (List.mem_of_getElem? (i := 25) (by decide +kernel)), tq9_5 _ (List.mem_of_getElem? (i := 190) (by decide +kernel)), tq9_5 _ (List.mem_of_getElem? (i := 191) (by decide +kernel))⟩
theorem lw_p50 : lw_okq (⟨"WiringHouse$Machine", "leave", "()V"⟩, 15) := ⟨⟨by decide +kernel, by decide +kernel⟩, tq9_3 _ (List.mem_of_getElem? (i := 25) (by decide +kernel)), tq9_5 _ (List.mem_of_getElem? (i := 194) (by decide +kernel)), tq9_5 _ (List.mem_of_getElem? (i := 195) (by decide +kernel))⟩
theorem lw_p51 : lw_okq (⟨"WiringHouse$Machine", "holdFailure", "(LWiringHouse$Frame;)V"⟩, 15) := ⟨⟨by decide +kernel, by decide +kernel⟩, tq9_3 _ (List.mem_of_getElem? (i := 25) (by decide +kernel)), tq9_5 _ (List.mem_of_getElem? (i := 198) (by decide +kernel)), tq9_5 _ (List.mem_of_getElem? (i := 199) (by decide +kernel))⟩
theorem lw_p52 : lw_okq (⟨"WiringHouse$Machine", "undoNext", "(LWiringHouse$Frame;)V"⟩, 15) := ⟨⟨by decide +kernel, by decide +kernel⟩, tq9_3 _ (List.mem_of_getElem? (i := 25) (by decide +kernel)), tq9_5 _ (List.mem_of_getElem? (i := 202) (by decide +kernel)), tq9_5 _ (List.mem_of_getElem? (i := 203) (by decide +kernel))⟩
theorem lw_p53 : lw_okq (⟨"WiringHouse$Machine", "goOnMaking", "(LWiringHouse$Frame;)V"⟩, 15) := ⟨⟨by decide +kernel, by decide +kernel⟩, tq9_3 _ (List.mem_of_getElem? (i := 25) (by decide +kernel)), tq9_5 _ (List.mem_of_getElem? (i := 214) (by decide +kernel)), tq9_5 _ (List.mem_of_getElem? (i := 215) (by decide +kernel))⟩
theorem lw_p54 : lw_okq (⟨"WiringHouse$Machine", "abandon", "(LWiringHouse$Frame;)V"⟩, 15) := ⟨⟨by decide +kernel, by decide +kernel⟩, tq9_3 _ (List.mem_of_getElem? (i := 25) (by decide +kernel)), tq9_5 _ (List.mem_of_getElem? (i := 218) (by decide +kernel)), tq9_5 _ (List.mem_of_getElem? (i := 219) (by decide +kernel))⟩
theorem lw_p55 : lw_okq (⟨"WiringHouse$Machine", "finish", "(LWiringHouse$Frame;)V"⟩, 15) := ⟨⟨by decide +kernel, by decide +kernel⟩, tq9_3 _ (List.mem_of_getElem? (i := 25) (by decide +kernel)), tq9_5 _ (List.mem_of_getElem? (i := 230) (by decide +kernel)), tq9_5 _ (List.mem_of_getElem? (i := 231) (by decide +kernel))⟩
theorem lw_p56 : lw_okq (⟨"WiringHouse$Machine", "nextCandidate", "(LWiringHouse$Frame;)I"⟩, 15) := ⟨⟨by decide +kernel, by decide +kernel⟩, tq9_3 _ (List.mem_of_getElem? (i := 25) (by decide +kernel)), tq9_6 _ (List.mem_of_getElem? (i := 16) (by decide +kernel)), tq9_6 _ (List.mem_of_getElem? (i := 17) (by decide +kernel))⟩
theorem lw_p57 : lw_okq (⟨"WiringHouse$Machine", "pushWork", "(LWiringHouse$Frame;II)LWiringHouse$Frame;"⟩, 15) := ⟨⟨by decide +kernel, by decide +kernel⟩, tq9_3 _ (List.mem_of_getElem? (i := 25) (by decide +kernel)), tq9_6 _ (List.mem_of_getElem? (i := 22) (by decide +kernel)), tq9_6 _ (List.mem_of_getElem? (i := 23) (by decide +kernel))⟩
theorem lw_p58 : lw_okq (⟨"WiringHouse$Machine", "goOnCalling", "(LWiringHouse$Frame;)V"⟩, 15) := ⟨⟨by decide +kernel, by decide +kernel⟩, tq9_3 _ (List.mem_of_getElem? (i := 25) (by decide +kernel)), tq9_6 _ (List.mem_of_getElem? (i := 26) (by decide +kernel)), tq9_6 _ (List.mem_of_getElem? (i := 27) (by decide +kernel))⟩
theorem lw_p59 : lw_okq (⟨"WiringHouse$Machine", "beginCalling", "(LWiringHouse$Frame;)V"⟩, 15) := ⟨⟨by decide +kernel, by decide +kernel⟩, tq9_3 _ (List.mem_of_getElem? (i := 25) (by decide +kernel)), tq9_6 _ (List.mem_of_getElem? (i := 30) (by decide +kernel)), tq9_6 _ (List.mem_of_getElem? (i := 31) (by decide +kernel))⟩
theorem lw_p60 : lw_okq (⟨"WiringHouse$Machine", "pushInside", "(LWiringHouse$Frame;II)V"⟩, 15) := ⟨⟨by decide +kernel, by decide +kernel⟩, tq9_3 _ (List.mem_of_getElem? (i := 25) (by decide +kernel)), tq9_6 _ (List.mem_of_getElem? (i := 34) (by decide +kernel)), tq9_6 _ (List.mem_of_getElem? (i := 35) (by decide +kernel))⟩
theorem lw_p61 : lw_okq (⟨"WiringHouse$Book", "isFor", "(LWiringHouse$Wrap;III)Z"⟩, 13) := ⟨⟨by decide +kernel, by decide +kernel⟩, tq9_2 _ (List.mem_of_getElem? (i := 73) (by decide +kernel)), tq9_6 _ (List.mem_of_getElem? (i := 42) (by decide +kernel)), tq9_6 _ (List.mem_of_getElem? (i := 43) (by decide +kernel))⟩
theorem lw_p62 : lw_okq (⟨"WiringHouse$Machine", "workWrap", "(LWiringHouse$Frame;II)LWiringHouse$Frame;"⟩, 15) := ⟨⟨by decide +kernel, by decide +kernel⟩, tq9_3 _ (List.mem_of_getElem? (i := 25) (by decide +kernel)), tq9_6 _ (List.mem_of_getElem? (i := 49) (by decide +kernel)), tq9_6 _ (List.mem_of_getElem? (i := 50) (by decide +kernel))⟩
theorem lw_p63 : lw_okq (⟨"WiringHouse$Machine", "goOnInside", "(LWiringHouse$Frame;)V"⟩, 15) := ⟨⟨by decide +kernel, by decide +kernel⟩, tq9_3 _ (List.mem_of_getElem? (i := 25) (by decide +kernel)), tq9_6 _ (List.mem_of_getElem? (i := 57) (by decide +kernel)), tq9_6 _ (List.mem_of_getElem? (i := 58) (by decide +kernel))⟩
def lw_privs_4 : List (MethodName × Nat) := [(⟨"WiringHouse$Machine", "takesStep", "()Z"⟩, 15), (⟨"WiringHouse$Machine", "answerWith", "(I)V"⟩, 15), (⟨"WiringHouse$Machine", "leave", "()V"⟩, 15), (⟨"WiringHouse$Machine", "holdFailure", "(LWiringHouse$Frame;)V"⟩, 15), (⟨"WiringHouse$Machine", "undoNext", "(LWiringHouse$Frame;)V"⟩, 15), (⟨"WiringHouse$Machine", "goOnMaking", "(LWiringHouse$Frame;)V"⟩, 15), (⟨"WiringHouse$Machine", "abandon", "(LWiringHouse$Frame;)V"⟩, 15), (⟨"WiringHouse$Machine", "finish", "(LWiringHouse$Frame;)V"⟩, 15), (⟨"WiringHouse$Machine", "nextCandidate", "(LWiringHouse$Frame;)I"⟩, 15), (⟨"WiringHouse$Machine", "pushWork", "(LWiringHouse$Frame;II)LWiringHouse$Frame;"⟩, 15), (⟨"WiringHouse$Machine", "goOnCalling", "(LWiringHouse$Frame;)V"⟩, 15), (⟨"WiringHouse$Machine", "beginCalling", "(LWiringHouse$Frame;)V"⟩, 15), (⟨"WiringHouse$Machine", "pushInside", "(LWiringHouse$Frame;II)V"⟩, 15), (⟨"WiringHouse$Book", "isFor", "(LWiringHouse$Wrap;III)Z"⟩, 13), (⟨"WiringHouse$Machine", "workWrap", "(LWiringHouse$Frame;II)LWiringHouse$Frame;"⟩, 15), (⟨"WiringHouse$Machine", "goOnInside", "(LWiringHouse$Frame;)V"⟩, 15)]
theorem lw_r4 : ∀ q ∈ lw_privs_4, lw_okq q := List.forall_mem_cons.mpr ⟨lw_p48, List.forall_mem_cons.mpr ⟨lw_p49, List.forall_mem_cons.mpr ⟨lw_p50, List.forall_mem_cons.mpr ⟨lw_p51, List.forall_mem_cons.mpr ⟨lw_p52, List.forall_mem_cons.mpr ⟨lw_p53, List.forall_mem_cons.mpr ⟨lw_p54, List.forall_mem_cons.mpr ⟨lw_p55, List.forall_mem_cons.mpr ⟨lw_p56, List.forall_mem_cons.mpr ⟨lw_p57, List.forall_mem_cons.mpr ⟨lw_p58, List.forall_mem_cons.mpr ⟨lw_p59, List.forall_mem_cons.mpr ⟨lw_p60, List.forall_mem_cons.mpr ⟨lw_p61, List.forall_mem_cons.mpr ⟨lw_p62, List.forall_mem_cons.mpr ⟨lw_p63, fun _ h => absurd h List.not_mem_nil⟩⟩⟩⟩⟩⟩⟩⟩⟩⟩⟩⟩⟩⟩⟩⟩
theorem lw_p64 : lw_okq (⟨"WiringHouse$Machine", "beginInside", "(LWiringHouse$Frame;)V"⟩, 15) := ⟨⟨by decide +kernel, by decide +kernel⟩, tq9_3 _ (List.mem_of_getElem? (i := 25) (by decide +kernel)), tq9_6 _ (List.mem_of_getElem? (i := 61) (by decide +kernel)), tq9_6 _ (List.mem_of_getElem? (i := 62) (by decide +kernel))⟩
theorem lw_p65 : lw_okq (⟨"WiringHouse$Machine", "nextBefore", "(LWiringHouse$Frame;)V"⟩, 15) := ⟨⟨by decide +kernel, by decide +kernel⟩, tq9_3 _ (List.mem_of_getElem? (i := 25) (by decide +kernel)), tq9_6 _ (List.mem_of_getElem? (i := 69) (by decide +kernel)), tq9_6 _ (List.mem_of_getElem? (i := 70) (by decide +kernel))⟩
theorem lw_p66 : lw_okq (⟨"WiringHouse$Machine", "nextAfter", "(LWiringHouse$Frame;)V"⟩, 15) := ⟨⟨by decide +kernel, by decide +kernel⟩, tq9_3 _ (List.mem_of_getElem? (i := 25) (by decide +kernel)), tq9_6 _ (List.mem_of_getElem? (i := 73) (by decide +kernel)), tq9_6 _ (List.mem_of_getElem? (i := 74) (by decide +kernel))⟩
theorem lw_p67 : lw_okq (⟨"WiringHouse$Machine", "goOnWorking", "(LWiringHouse$Frame;)V"⟩, 15) := ⟨⟨by decide +kernel, by decide +kernel⟩, tq9_3 _ (List.mem_of_getElem? (i := 25) (by decide +kernel)), tq9_6 _ (List.mem_of_getElem? (i := 77) (by decide +kernel)), tq9_6 _ (List.mem_of_getElem? (i := 78) (by decide +kernel))⟩
theorem lw_p68 : lw_okq (⟨"WiringHouse$Machine", "callNeed", "(LWiringHouse$Frame;)V"⟩, 15) := ⟨⟨by decide +kernel, by decide +kernel⟩, tq9_3 _ (List.mem_of_getElem? (i := 25) (by decide +kernel)), tq9_6 _ (List.mem_of_getElem? (i := 81) (by decide +kernel)), tq9_6 _ (List.mem_of_getElem? (i := 82) (by decide +kernel))⟩
theorem lw_p69 : lw_okq (⟨"WiringHouse$Machine", "getLate", "(LWiringHouse$Frame;)V"⟩, 15) := ⟨⟨by decide +kernel, by decide +kernel⟩, tq9_3 _ (List.mem_of_getElem? (i := 25) (by decide +kernel)), tq9_6 _ (List.mem_of_getElem? (i := 89) (by decide +kernel)), tq9_6 _ (List.mem_of_getElem? (i := 90) (by decide +kernel))⟩
theorem lw_p70 : lw_okq (⟨"WiringHouse$Machine", "endWork", "(LWiringHouse$Frame;)V"⟩, 15) := ⟨⟨by decide +kernel, by decide +kernel⟩, tq9_3 _ (List.mem_of_getElem? (i := 25) (by decide +kernel)), tq9_6 _ (List.mem_of_getElem? (i := 104) (by decide +kernel)), tq9_6 _ (List.mem_of_getElem? (i := 105) (by decide +kernel))⟩
theorem lw_p71 : lw_okq (⟨"WiringHouse$Machine", "takesAnswer", "(LWiringHouse$Frame;)Z"⟩, 15) := ⟨⟨by decide +kernel, by decide +kernel⟩, tq9_3 _ (List.mem_of_getElem? (i := 25) (by decide +kernel)), tq9_6 _ (List.mem_of_getElem? (i := 108) (by decide +kernel)), tq9_6 _ (List.mem_of_getElem? (i := 109) (by decide +kernel))⟩
theorem lw_p72 : lw_okq (⟨"WiringHouse$Machine", "put", "(I)V"⟩, 15) := ⟨⟨by decide +kernel, by decide +kernel⟩, tq9_3 _ (List.mem_of_getElem? (i := 25) (by decide +kernel)), tq9_6 _ (List.mem_of_getElem? (i := 112) (by decide +kernel)), tq9_6 _ (List.mem_of_getElem? (i := 113) (by decide +kernel))⟩
theorem lw_p73 : lw_okq (⟨"WiringHouse$Machine", "joinLate", "(LWiringHouse$Frame;I)V"⟩, 15) := ⟨⟨by decide +kernel, by decide +kernel⟩, tq9_3 _ (List.mem_of_getElem? (i := 25) (by decide +kernel)), tq9_6 _ (List.mem_of_getElem? (i := 116) (by decide +kernel)), tq9_6 _ (List.mem_of_getElem? (i := 117) (by decide +kernel))⟩
theorem lw_p74 : lw_okq (⟨"WiringHouse$Machine", "work", "(LWiringHouse$Frame;)V"⟩, 15) := ⟨⟨by decide +kernel, by decide +kernel⟩, tq9_3 _ (List.mem_of_getElem? (i := 25) (by decide +kernel)), tq9_6 _ (List.mem_of_getElem? (i := 120) (by decide +kernel)), tq9_6 _ (List.mem_of_getElem? (i := 121) (by decide +kernel))⟩
theorem lw_p75 : lw_okq (⟨"WiringHouse$Machine", "worksWith", "(LWiringHouse$Frame;I)Z"⟩, 15) := ⟨⟨by decide +kernel, by decide +kernel⟩, tq9_3 _ (List.mem_of_getElem? (i := 25) (by decide +kernel)), tq9_6 _ (List.mem_of_getElem? (i := 124) (by decide +kernel)), tq9_6 _ (List.mem_of_getElem? (i := 125) (by decide +kernel))⟩
theorem lw_p76 : lw_okq (⟨"WiringHouse$Machine", "pull", "()I"⟩, 15) := ⟨⟨by decide +kernel, by decide +kernel⟩, tq9_3 _ (List.mem_of_getElem? (i := 25) (by decide +kernel)), tq9_6 _ (List.mem_of_getElem? (i := 128) (by decide +kernel)), tq9_6 _ (List.mem_of_getElem? (i := 129) (by decide +kernel))⟩
theorem lw_p77 : lw_okq (⟨"WiringHouse$Machine", "worksAlone", "(LWiringHouse$Frame;I)Z"⟩, 15) := ⟨⟨by decide +kernel, by decide +kernel⟩, tq9_3 _ (List.mem_of_getElem? (i := 25) (by decide +kernel)), tq9_6 _ (List.mem_of_getElem? (i := 135) (by decide +kernel)), tq9_6 _ (List.mem_of_getElem? (i := 136) (by decide +kernel))⟩
theorem lw_p78 : lw_okq (⟨"WiringHouse$Machine", "goOnClosing", "(LWiringHouse$Frame;)V"⟩, 15) := ⟨⟨by decide +kernel, by decide +kernel⟩, tq9_3 _ (List.mem_of_getElem? (i := 25) (by decide +kernel)), tq9_6 _ (List.mem_of_getElem? (i := 139) (by decide +kernel)), tq9_6 _ (List.mem_of_getElem? (i := 140) (by decide +kernel))⟩
theorem lw_p79 : lw_okq (⟨"WiringHouse$Stock", "latestOpen", "(II)I"⟩, 16) := ⟨⟨by decide +kernel, by decide +kernel⟩, tq9_1 _ (List.mem_of_getElem? (i := 210) (by decide +kernel)), tq9_6 _ (List.mem_of_getElem? (i := 174) (by decide +kernel)), tq9_6 _ (List.mem_of_getElem? (i := 175) (by decide +kernel))⟩
def lw_privs_5 : List (MethodName × Nat) := [(⟨"WiringHouse$Machine", "beginInside", "(LWiringHouse$Frame;)V"⟩, 15), (⟨"WiringHouse$Machine", "nextBefore", "(LWiringHouse$Frame;)V"⟩, 15), (⟨"WiringHouse$Machine", "nextAfter", "(LWiringHouse$Frame;)V"⟩, 15), (⟨"WiringHouse$Machine", "goOnWorking", "(LWiringHouse$Frame;)V"⟩, 15), (⟨"WiringHouse$Machine", "callNeed", "(LWiringHouse$Frame;)V"⟩, 15), (⟨"WiringHouse$Machine", "getLate", "(LWiringHouse$Frame;)V"⟩, 15), (⟨"WiringHouse$Machine", "endWork", "(LWiringHouse$Frame;)V"⟩, 15), (⟨"WiringHouse$Machine", "takesAnswer", "(LWiringHouse$Frame;)Z"⟩, 15), (⟨"WiringHouse$Machine", "put", "(I)V"⟩, 15), (⟨"WiringHouse$Machine", "joinLate", "(LWiringHouse$Frame;I)V"⟩, 15), (⟨"WiringHouse$Machine", "work", "(LWiringHouse$Frame;)V"⟩, 15), (⟨"WiringHouse$Machine", "worksWith", "(LWiringHouse$Frame;I)Z"⟩, 15), (⟨"WiringHouse$Machine", "pull", "()I"⟩, 15), (⟨"WiringHouse$Machine", "worksAlone", "(LWiringHouse$Frame;I)Z"⟩, 15), (⟨"WiringHouse$Machine", "goOnClosing", "(LWiringHouse$Frame;)V"⟩, 15), (⟨"WiringHouse$Stock", "latestOpen", "(II)I"⟩, 16)]
theorem lw_r5 : ∀ q ∈ lw_privs_5, lw_okq q := List.forall_mem_cons.mpr ⟨lw_p64, List.forall_mem_cons.mpr ⟨lw_p65, List.forall_mem_cons.mpr ⟨lw_p66, List.forall_mem_cons.mpr ⟨lw_p67, List.forall_mem_cons.mpr ⟨lw_p68, List.forall_mem_cons.mpr ⟨lw_p69, List.forall_mem_cons.mpr ⟨lw_p70, List.forall_mem_cons.mpr ⟨lw_p71, List.forall_mem_cons.mpr ⟨lw_p72, List.forall_mem_cons.mpr ⟨lw_p73, List.forall_mem_cons.mpr ⟨lw_p74, List.forall_mem_cons.mpr ⟨lw_p75, List.forall_mem_cons.mpr ⟨lw_p76, List.forall_mem_cons.mpr ⟨lw_p77, List.forall_mem_cons.mpr ⟨lw_p78, List.forall_mem_cons.mpr ⟨lw_p79, fun _ h => absurd h List.not_mem_nil⟩⟩⟩⟩⟩⟩⟩⟩⟩⟩⟩⟩⟩⟩⟩⟩
theorem lw_p80 : lw_okq (⟨"java/lang/Throwable", "fillInStackTrace", "(I)Ljava/lang/Throwable;"⟩, 6) := ⟨⟨by decide +kernel, by decide +kernel⟩, tq9_7 _ (List.mem_of_getElem? (i := 47) (by decide +kernel)), tq9_7 _ (List.mem_of_getElem? (i := 45) (by decide +kernel)), tq9_7 _ (List.mem_of_getElem? (i := 46) (by decide +kernel))⟩
theorem lw_p81 : lw_okq (⟨"WiringHouseModel", "lay", "(J)V"⟩, 100) := ⟨⟨by decide +kernel, by decide +kernel⟩, tq9_7 _ (List.mem_of_getElem? (i := 93) (by decide +kernel)), tq9_7 _ (List.mem_of_getElem? (i := 91) (by decide +kernel)), tq9_7 _ (List.mem_of_getElem? (i := 92) (by decide +kernel))⟩
theorem lw_p82 : lw_okq (⟨"WiringHouseModel", "cutAll", "()V"⟩, 100) := ⟨⟨by decide +kernel, by decide +kernel⟩, tq9_7 _ (List.mem_of_getElem? (i := 93) (by decide +kernel)), tq9_8 _ (List.mem_of_getElem? (i := 177) (by decide +kernel)), tq9_8 _ (List.mem_of_getElem? (i := 178) (by decide +kernel))⟩
theorem lw_p83 : lw_okq (⟨"WiringHouseModel", "isWord", "(I)Z"⟩, 100) := ⟨⟨by decide +kernel, by decide +kernel⟩, tq9_7 _ (List.mem_of_getElem? (i := 93) (by decide +kernel)), tq9_8 _ (List.mem_of_getElem? (i := 189) (by decide +kernel)), tq9_8 _ (List.mem_of_getElem? (i := 190) (by decide +kernel))⟩
theorem lw_p84 : lw_okq (⟨"WiringHouseModel", "toldType", "()V"⟩, 100) := ⟨⟨by decide +kernel, by decide +kernel⟩, tq9_7 _ (List.mem_of_getElem? (i := 93) (by decide +kernel)), tq9_8 _ (List.mem_of_getElem? (i := 193) (by decide +kernel)), tq9_8 _ (List.mem_of_getElem? (i := 194) (by decide +kernel))⟩
theorem lw_p85 : lw_okq (⟨"WiringHouseModel", "begins", "(Z)V"⟩, 100) := ⟨⟨by decide +kernel, by decide +kernel⟩, tq9_7 _ (List.mem_of_getElem? (i := 93) (by decide +kernel)), tq9_8 _ (List.mem_of_getElem? (i := 197) (by decide +kernel)), tq9_8 _ (List.mem_of_getElem? (i := 198) (by decide +kernel))⟩
theorem lw_p86 : lw_okq (⟨"WiringHouseModel", "wrong", "(I)V"⟩, 100) := ⟨⟨by decide +kernel, by decide +kernel⟩, tq9_7 _ (List.mem_of_getElem? (i := 93) (by decide +kernel)), tq9_8 _ (List.mem_of_getElem? (i := 201) (by decide +kernel)), tq9_8 _ (List.mem_of_getElem? (i := 202) (by decide +kernel))⟩
theorem lw_p87 : lw_okq (⟨"WiringHouseModel", "newName", "()J"⟩, 100) := ⟨⟨by decide +kernel, by decide +kernel⟩, tq9_7 _ (List.mem_of_getElem? (i := 93) (by decide +kernel)), tq9_8 _ (List.mem_of_getElem? (i := 205) (by decide +kernel)), tq9_8 _ (List.mem_of_getElem? (i := 206) (by decide +kernel))⟩
theorem lw_p88 : lw_okq (⟨"WiringHouseModel", "isName", "()Z"⟩, 100) := ⟨⟨by decide +kernel, by decide +kernel⟩, tq9_7 _ (List.mem_of_getElem? (i := 93) (by decide +kernel)), tq9_8 _ (List.mem_of_getElem? (i := 209) (by decide +kernel)), tq9_8 _ (List.mem_of_getElem? (i := 210) (by decide +kernel))⟩
theorem lw_p89 : lw_okq (⟨"WiringHouseModel", "find", "([JIIJ)I"⟩, 100) := ⟨⟨by decide +kernel, by decide +kernel⟩, tq9_7 _ (List.mem_of_getElem? (i := 93) (by decide +kernel)), tq9_8 _ (List.mem_of_getElem? (i := 213) (by decide +kernel)), tq9_8 _ (List.mem_of_getElem? (i := 214) (by decide +kernel))⟩
theorem lw_p90 : lw_okq (⟨"WiringHouseModel", "hasWord", "(I)Z"⟩, 100) := ⟨⟨by decide +kernel, by decide +kernel⟩, tq9_7 _ (List.mem_of_getElem? (i := 93) (by decide +kernel)), tq9_8 _ (List.mem_of_getElem? (i := 217) (by decide +kernel)), tq9_8 _ (List.mem_of_getElem? (i := 218) (by decide +kernel))⟩
theorem lw_p91 : lw_okq (⟨"WiringHouseModel", "takeTypes", "([ZI)V"⟩, 100) := ⟨⟨by decide +kernel, by decide +kernel⟩, tq9_7 _ (List.mem_of_getElem? (i := 93) (by decide +kernel)), tq9_8 _ (List.mem_of_getElem? (i := 221) (by decide +kernel)), tq9_8 _ (List.mem_of_getElem? (i := 222) (by decide +kernel))⟩
theorem lw_p92 : lw_okq (⟨"WiringHouseModel", "takeType", "()I"⟩, 100) := ⟨⟨by decide +kernel, by decide +kernel⟩, tq9_7 _ (List.mem_of_getElem? (i := 93) (by decide +kernel)), tq9_8 _ (List.mem_of_getElem? (i := 225) (by decide +kernel)), tq9_8 _ (List.mem_of_getElem? (i := 226) (by decide +kernel))⟩
theorem lw_p93 : lw_okq (⟨"WiringHouseModel", "named", "([JII)I"⟩, 100) := ⟨⟨by decide +kernel, by decide +kernel⟩, tq9_7 _ (List.mem_of_getElem? (i := 93) (by decide +kernel)), tq9_8 _ (List.mem_of_getElem? (i := 229) (by decide +kernel)), tq9_8 _ (List.mem_of_getElem? (i := 230) (by decide +kernel))⟩
theorem lw_p94 : lw_okq (⟨"WiringHouseModel", "hasSign", "(I)Z"⟩, 100) := ⟨⟨by decide +kernel, by decide +kernel⟩, tq9_7 _ (List.mem_of_getElem? (i := 93) (by decide +kernel)), tq9_8 _ (List.mem_of_getElem? (i := 233) (by decide +kernel)), tq9_8 _ (List.mem_of_getElem? (i := 234) (by decide +kernel))⟩
theorem lw_p95 : lw_okq (⟨"WiringHouseModel", "isSign", "(I)Z"⟩, 100) := ⟨⟨by decide +kernel, by decide +kernel⟩, tq9_7 _ (List.mem_of_getElem? (i := 93) (by decide +kernel)), tq9_8 _ (List.mem_of_getElem? (i := 237) (by decide +kernel)), tq9_8 _ (List.mem_of_getElem? (i := 238) (by decide +kernel))⟩
def lw_privs_6 : List (MethodName × Nat) := [(⟨"java/lang/Throwable", "fillInStackTrace", "(I)Ljava/lang/Throwable;"⟩, 6), (⟨"WiringHouseModel", "lay", "(J)V"⟩, 100), (⟨"WiringHouseModel", "cutAll", "()V"⟩, 100), (⟨"WiringHouseModel", "isWord", "(I)Z"⟩, 100), (⟨"WiringHouseModel", "toldType", "()V"⟩, 100), (⟨"WiringHouseModel", "begins", "(Z)V"⟩, 100), (⟨"WiringHouseModel", "wrong", "(I)V"⟩, 100), (⟨"WiringHouseModel", "newName", "()J"⟩, 100), (⟨"WiringHouseModel", "isName", "()Z"⟩, 100), (⟨"WiringHouseModel", "find", "([JIIJ)I"⟩, 100), (⟨"WiringHouseModel", "hasWord", "(I)Z"⟩, 100), (⟨"WiringHouseModel", "takeTypes", "([ZI)V"⟩, 100), (⟨"WiringHouseModel", "takeType", "()I"⟩, 100), (⟨"WiringHouseModel", "named", "([JII)I"⟩, 100), (⟨"WiringHouseModel", "hasSign", "(I)Z"⟩, 100), (⟨"WiringHouseModel", "isSign", "(I)Z"⟩, 100)]
theorem lw_r6 : ∀ q ∈ lw_privs_6, lw_okq q := List.forall_mem_cons.mpr ⟨lw_p80, List.forall_mem_cons.mpr ⟨lw_p81, List.forall_mem_cons.mpr ⟨lw_p82, List.forall_mem_cons.mpr ⟨lw_p83, List.forall_mem_cons.mpr ⟨lw_p84, List.forall_mem_cons.mpr ⟨lw_p85, List.forall_mem_cons.mpr ⟨lw_p86, List.forall_mem_cons.mpr ⟨lw_p87, List.forall_mem_cons.mpr ⟨lw_p88, List.forall_mem_cons.mpr ⟨lw_p89, List.forall_mem_cons.mpr ⟨lw_p90, List.forall_mem_cons.mpr ⟨lw_p91, List.forall_mem_cons.mpr ⟨lw_p92, List.forall_mem_cons.mpr ⟨lw_p93, List.forall_mem_cons.mpr ⟨lw_p94, List.forall_mem_cons.mpr ⟨lw_p95, fun _ h => absurd h List.not_mem_nil⟩⟩⟩⟩⟩⟩⟩⟩⟩⟩⟩⟩⟩⟩⟩⟩
theorem lw_p96 : lw_okq (⟨"WiringHouseModel", "takeSign", "(I)V"⟩, 100) := ⟨⟨by decide +kernel, by decide +kernel⟩, tq9_7 _ (List.mem_of_getElem? (i := 93) (by decide +kernel)), tq9_9 _ (List.mem_of_getElem? (i := 1) (by decide +kernel)), tq9_9 _ (List.mem_of_getElem? (i := 2) (by decide +kernel))⟩
theorem lw_p97 : lw_okq (⟨"WiringHouseModel", "toldSetting", "()V"⟩, 100) := ⟨⟨by decide +kernel, by decide +kernel⟩, tq9_7 _ (List.mem_of_getElem? (i := 93) (by decide +kernel)), tq9_9 _ (List.mem_of_getElem? (i := 5) (by decide +kernel)), tq9_9 _ (List.mem_of_getElem? (i := 6) (by decide +kernel))⟩
theorem lw_p98 : lw_okq (⟨"WiringHouseModel", "takeNumber", "(II)I"⟩, 100) := ⟨⟨by decide +kernel, by decide +kernel⟩, tq9_7 _ (List.mem_of_getElem? (i := 93) (by decide +kernel)), tq9_9 _ (List.mem_of_getElem? (i := 10) (by decide +kernel)), tq9_9 _ (List.mem_of_getElem? (i := 11) (by decide +kernel))⟩
theorem lw_p99 : lw_okq (⟨"WiringHouseModel", "toldComponent", "()V"⟩, 100) := ⟨⟨by decide +kernel, by decide +kernel⟩, tq9_7 _ (List.mem_of_getElem? (i := 93) (by decide +kernel)), tq9_9 _ (List.mem_of_getElem? (i := 14) (by decide +kernel)), tq9_9 _ (List.mem_of_getElem? (i := 15) (by decide +kernel))⟩
theorem lw_p100 : lw_okq (⟨"WiringHouseModel", "takeWord", "(I)V"⟩, 100) := ⟨⟨by decide +kernel, by decide +kernel⟩, tq9_7 _ (List.mem_of_getElem? (i := 93) (by decide +kernel)), tq9_9 _ (List.mem_of_getElem? (i := 18) (by decide +kernel)), tq9_9 _ (List.mem_of_getElem? (i := 19) (by decide +kernel))⟩
theorem lw_p101 : lw_okq (⟨"WiringHouseModel", "oneOf", "(II)I"⟩, 100) := ⟨⟨by decide +kernel, by decide +kernel⟩, tq9_7 _ (List.mem_of_getElem? (i := 93) (by decide +kernel)), tq9_9 _ (List.mem_of_getElem? (i := 22) (by decide +kernel)), tq9_9 _ (List.mem_of_getElem? (i := 23) (by decide +kernel))⟩
theorem lw_p102 : lw_okq (⟨"WiringHouseModel", "takeWordOf", "([J[I)I"⟩, 100) := ⟨⟨by decide +kernel, by decide +kernel⟩, tq9_7 _ (List.mem_of_getElem? (i := 93) (by decide +kernel)), tq9_9 _ (List.mem_of_getElem? (i := 26) (by decide +kernel)), tq9_9 _ (List.mem_of_getElem? (i := 27) (by decide +kernel))⟩
theorem lw_p103 : lw_okq (⟨"WiringHouseModel", "member", "(I)V"⟩, 100) := ⟨⟨by decide +kernel, by decide +kernel⟩, tq9_7 _ (List.mem_of_getElem? (i := 93) (by decide +kernel)), tq9_9 _ (List.mem_of_getElem? (i := 30) (by decide +kernel)), tq9_9 _ (List.mem_of_getElem? (i := 31) (by decide +kernel))⟩
theorem lw_p104 : lw_okq (⟨"WiringHouseModel", "takeNeed", "(I)V"⟩, 100) := ⟨⟨by decide +kernel, by decide +kernel⟩, tq9_7 _ (List.mem_of_getElem? (i := 93) (by decide +kernel)), tq9_9 _ (List.mem_of_getElem? (i := 34) (by decide +kernel)), tq9_9 _ (List.mem_of_getElem? (i := 35) (by decide +kernel))⟩
theorem lw_p105 : lw_okq (⟨"WiringHouseModel", "code", "()I"⟩, 100) := ⟨⟨by decide +kernel, by decide +kernel⟩, tq9_7 _ (List.mem_of_getElem? (i := 93) (by decide +kernel)), tq9_9 _ (List.mem_of_getElem? (i := 38) (by decide +kernel)), tq9_9 _ (List.mem_of_getElem? (i := 39) (by decide +kernel))⟩
theorem lw_p106 : lw_okq (⟨"WiringHouseModel", "expression", "()V"⟩, 100) := ⟨⟨by decide +kernel, by decide +kernel⟩, tq9_7 _ (List.mem_of_getElem? (i := 93) (by decide +kernel)), tq9_9 _ (List.mem_of_getElem? (i := 42) (by decide +kernel)), tq9_9 _ (List.mem_of_getElem? (i := 43) (by decide +kernel))⟩
theorem lw_p107 : lw_okq (⟨"WiringHouseModel", "sum", "()V"⟩, 100) := ⟨⟨by decide +kernel, by decide +kernel⟩, tq9_7 _ (List.mem_of_getElem? (i := 93) (by decide +kernel)), tq9_9 _ (List.mem_of_getElem? (i := 46) (by decide +kernel)), tq9_9 _ (List.mem_of_getElem? (i := 47) (by decide +kernel))⟩
theorem lw_p108 : lw_okq (⟨"WiringHouseModel", "product", "()V"⟩, 100) := ⟨⟨by decide +kernel, by decide +kernel⟩, tq9_7 _ (List.mem_of_getElem? (i := 93) (by decide +kernel)), tq9_9 _ (List.mem_of_getElem? (i := 50) (by decide +kernel)), tq9_9 _ (List.mem_of_getElem? (i := 51) (by decide +kernel))⟩
theorem lw_p109 : lw_okq (⟨"WiringHouseModel", "part", "()V"⟩, 100) := ⟨⟨by decide +kernel, by decide +kernel⟩, tq9_7 _ (List.mem_of_getElem? (i := 93) (by decide +kernel)), tq9_9 _ (List.mem_of_getElem? (i := 54) (by decide +kernel)), tq9_9 _ (List.mem_of_getElem? (i := 55) (by decide +kernel))⟩
theorem lw_p110 : lw_okq (⟨"WiringHouseModel", "isPart", "()Z"⟩, 100) := ⟨⟨by decide +kernel, by decide +kernel⟩, tq9_7 _ (List.mem_of_getElem? (i := 93) (by decide +kernel)), tq9_9 _ (List.mem_of_getElem? (i := 58) (by decide +kernel)), tq9_9 _ (List.mem_of_getElem? (i := 59) (by decide +kernel))⟩
theorem lw_p111 : lw_okq (⟨"WiringHouseModel", "emit", "(III)I"⟩, 100) := ⟨⟨by decide +kernel, by decide +kernel⟩, tq9_7 _ (List.mem_of_getElem? (i := 93) (by decide +kernel)), tq9_9 _ (List.mem_of_getElem? (i := 62) (by decide +kernel)), tq9_9 _ (List.mem_of_getElem? (i := 63) (by decide +kernel))⟩
def lw_privs_7 : List (MethodName × Nat) := [(⟨"WiringHouseModel", "takeSign", "(I)V"⟩, 100), (⟨"WiringHouseModel", "toldSetting", "()V"⟩, 100), (⟨"WiringHouseModel", "takeNumber", "(II)I"⟩, 100), (⟨"WiringHouseModel", "toldComponent", "()V"⟩, 100), (⟨"WiringHouseModel", "takeWord", "(I)V"⟩, 100), (⟨"WiringHouseModel", "oneOf", "(II)I"⟩, 100), (⟨"WiringHouseModel", "takeWordOf", "([J[I)I"⟩, 100), (⟨"WiringHouseModel", "member", "(I)V"⟩, 100), (⟨"WiringHouseModel", "takeNeed", "(I)V"⟩, 100), (⟨"WiringHouseModel", "code", "()I"⟩, 100), (⟨"WiringHouseModel", "expression", "()V"⟩, 100), (⟨"WiringHouseModel", "sum", "()V"⟩, 100), (⟨"WiringHouseModel", "product", "()V"⟩, 100), (⟨"WiringHouseModel", "part", "()V"⟩, 100), (⟨"WiringHouseModel", "isPart", "()Z"⟩, 100), (⟨"WiringHouseModel", "emit", "(III)I"⟩, 100)]
theorem lw_r7 : ∀ q ∈ lw_privs_7, lw_okq q := List.forall_mem_cons.mpr ⟨lw_p96, List.forall_mem_cons.mpr ⟨lw_p97, List.forall_mem_cons.mpr ⟨lw_p98, List.forall_mem_cons.mpr ⟨lw_p99, List.forall_mem_cons.mpr ⟨lw_p100, List.forall_mem_cons.mpr ⟨lw_p101, List.forall_mem_cons.mpr ⟨lw_p102, List.forall_mem_cons.mpr ⟨lw_p103, List.forall_mem_cons.mpr ⟨lw_p104, List.forall_mem_cons.mpr ⟨lw_p105, List.forall_mem_cons.mpr ⟨lw_p106, List.forall_mem_cons.mpr ⟨lw_p107, List.forall_mem_cons.mpr ⟨lw_p108, List.forall_mem_cons.mpr ⟨lw_p109, List.forall_mem_cons.mpr ⟨lw_p110, List.forall_mem_cons.mpr ⟨lw_p111, fun _ h => absurd h List.not_mem_nil⟩⟩⟩⟩⟩⟩⟩⟩⟩⟩⟩⟩⟩⟩⟩⟩
theorem lw_p112 : lw_okq (⟨"WiringHouseModel", "partWithin", "()V"⟩, 100) := ⟨⟨by decide +kernel, by decide +kernel⟩, tq9_7 _ (List.mem_of_getElem? (i := 93) (by decide +kernel)), tq9_9 _ (List.mem_of_getElem? (i := 66) (by decide +kernel)), tq9_9 _ (List.mem_of_getElem? (i := 67) (by decide +kernel))⟩
theorem lw_p113 : lw_okq (⟨"WiringHouseModel", "pick", "()V"⟩, 100) := ⟨⟨by decide +kernel, by decide +kernel⟩, tq9_7 _ (List.mem_of_getElem? (i := 93) (by decide +kernel)), tq9_9 _ (List.mem_of_getElem? (i := 70) (by decide +kernel)), tq9_9 _ (List.mem_of_getElem? (i := 71) (by decide +kernel))⟩
theorem lw_p114 : lw_okq (⟨"WiringHouseModel", "bracketed", "()V"⟩, 100) := ⟨⟨by decide +kernel, by decide +kernel⟩, tq9_7 _ (List.mem_of_getElem? (i := 93) (by decide +kernel)), tq9_9 _ (List.mem_of_getElem? (i := 74) (by decide +kernel)), tq9_9 _ (List.mem_of_getElem? (i := 75) (by decide +kernel))⟩
theorem lw_p115 : lw_okq (⟨"WiringHouseModel", "toldWrap", "()V"⟩, 100) := ⟨⟨by decide +kernel, by decide +kernel⟩, tq9_7 _ (List.mem_of_getElem? (i := 93) (by decide +kernel)), tq9_9 _ (List.mem_of_getElem? (i := 78) (by decide +kernel)), tq9_9 _ (List.mem_of_getElem? (i := 79) (by decide +kernel))⟩
theorem lw_p116 : lw_okq (⟨"WiringHouseModel", "forget", "()V"⟩, 100) := ⟨⟨by decide +kernel, by decide +kernel⟩, tq9_7 _ (List.mem_of_getElem? (i := 93) (by decide +kernel)), tq9_9 _ (List.mem_of_getElem? (i := 82) (by decide +kernel)), tq9_9 _ (List.mem_of_getElem? (i := 83) (by decide +kernel))⟩
theorem lw_p117 : lw_okq (⟨"WiringHouseModel", "isThere", "(I)Z"⟩, 100) := ⟨⟨by decide +kernel, by decide +kernel⟩, tq9_7 _ (List.mem_of_getElem? (i := 93) (by decide +kernel)), tq9_9 _ (List.mem_of_getElem? (i := 90) (by decide +kernel)), tq9_9 _ (List.mem_of_getElem? (i := 91) (by decide +kernel))⟩
theorem lw_p118 : lw_okq (⟨"WiringHouseModel", "checkNeed", "(II)V"⟩, 100) := ⟨⟨by decide +kernel, by decide +kernel⟩, tq9_7 _ (List.mem_of_getElem? (i := 93) (by decide +kernel)), tq9_9 _ (List.mem_of_getElem? (i := 94) (by decide +kernel)), tq9_9 _ (List.mem_of_getElem? (i := 95) (by decide +kernel))⟩
theorem lw_p119 : lw_okq (⟨"WiringHouseModel", "candidatesOf", "(I)I"⟩, 100) := ⟨⟨by decide +kernel, by decide +kernel⟩, tq9_7 _ (List.mem_of_getElem? (i := 93) (by decide +kernel)), tq9_9 _ (List.mem_of_getElem? (i := 98) (by decide +kernel)), tq9_9 _ (List.mem_of_getElem? (i := 99) (by decide +kernel))⟩
theorem lw_p120 : lw_okq (⟨"WiringHouseModel", "suits", "(II)Z"⟩, 100) := ⟨⟨by decide +kernel, by decide +kernel⟩, tq9_7 _ (List.mem_of_getElem? (i := 93) (by decide +kernel)), tq9_9 _ (List.mem_of_getElem? (i := 102) (by decide +kernel)), tq9_9 _ (List.mem_of_getElem? (i := 103) (by decide +kernel))⟩
theorem lw_p121 : lw_okq (⟨"WiringHouseModel", "addFault", "(III)V"⟩, 100) := ⟨⟨by decide +kernel, by decide +kernel⟩, tq9_7 _ (List.mem_of_getElem? (i := 93) (by decide +kernel)), tq9_9 _ (List.mem_of_getElem? (i := 109) (by decide +kernel)), tq9_9 _ (List.mem_of_getElem? (i := 110) (by decide +kernel))⟩
theorem lw_p122 : lw_okq (⟨"WiringHouseModel", "visits", "(I)V"⟩, 100) := ⟨⟨by decide +kernel, by decide +kernel⟩, tq9_7 _ (List.mem_of_getElem? (i := 93) (by decide +kernel)), tq9_9 _ (List.mem_of_getElem? (i := 113) (by decide +kernel)), tq9_9 _ (List.mem_of_getElem? (i := 114) (by decide +kernel))⟩
theorem lw_p123 : lw_okq (⟨"WiringHouseModel", "isCandidate", "(II)Z"⟩, 100) := ⟨⟨by decide +kernel, by decide +kernel⟩, tq9_7 _ (List.mem_of_getElem? (i := 93) (by decide +kernel)), tq9_9 _ (List.mem_of_getElem? (i := 117) (by decide +kernel)), tq9_9 _ (List.mem_of_getElem? (i := 118) (by decide +kernel))⟩
theorem lw_p124 : lw_okq (⟨"WiringHouseModel", "addCycle", "(I)V"⟩, 100) := ⟨⟨by decide +kernel, by decide +kernel⟩, tq9_7 _ (List.mem_of_getElem? (i := 93) (by decide +kernel)), tq9_9 _ (List.mem_of_getElem? (i := 121) (by decide +kernel)), tq9_9 _ (List.mem_of_getElem? (i := 122) (by decide +kernel))⟩
theorem lw_p125 : lw_okq (⟨"WiringHouseModel", "scope", "(II)I"⟩, 100) := ⟨⟨by decide +kernel, by decide +kernel⟩, tq9_7 _ (List.mem_of_getElem? (i := 93) (by decide +kernel)), tq9_9 _ (List.mem_of_getElem? (i := 141) (by decide +kernel)), tq9_9 _ (List.mem_of_getElem? (i := 142) (by decide +kernel))⟩
theorem lw_p126 : lw_okq (⟨"WiringHouseModel", "isScope", "(I)Z"⟩, 100) := ⟨⟨by decide +kernel, by decide +kernel⟩, tq9_7 _ (List.mem_of_getElem? (i := 93) (by decide +kernel)), tq9_9 _ (List.mem_of_getElem? (i := 149) (by decide +kernel)), tq9_9 _ (List.mem_of_getElem? (i := 150) (by decide +kernel))⟩
theorem lw_p127 : lw_okq (⟨"WiringHouseModel", "begins", "()V"⟩, 100) := ⟨⟨by decide +kernel, by decide +kernel⟩, tq9_7 _ (List.mem_of_getElem? (i := 93) (by decide +kernel)), tq9_9 _ (List.mem_of_getElem? (i := 157) (by decide +kernel)), tq9_9 _ (List.mem_of_getElem? (i := 158) (by decide +kernel))⟩
def lw_privs_8 : List (MethodName × Nat) := [(⟨"WiringHouseModel", "partWithin", "()V"⟩, 100), (⟨"WiringHouseModel", "pick", "()V"⟩, 100), (⟨"WiringHouseModel", "bracketed", "()V"⟩, 100), (⟨"WiringHouseModel", "toldWrap", "()V"⟩, 100), (⟨"WiringHouseModel", "forget", "()V"⟩, 100), (⟨"WiringHouseModel", "isThere", "(I)Z"⟩, 100), (⟨"WiringHouseModel", "checkNeed", "(II)V"⟩, 100), (⟨"WiringHouseModel", "candidatesOf", "(I)I"⟩, 100), (⟨"WiringHouseModel", "suits", "(II)Z"⟩, 100), (⟨"WiringHouseModel", "addFault", "(III)V"⟩, 100), (⟨"WiringHouseModel", "visits", "(I)V"⟩, 100), (⟨"WiringHouseModel", "isCandidate", "(II)Z"⟩, 100), (⟨"WiringHouseModel", "addCycle", "(I)V"⟩, 100), (⟨"WiringHouseModel", "scope", "(II)I"⟩, 100), (⟨"WiringHouseModel", "isScope", "(I)Z"⟩, 100), (⟨"WiringHouseModel", "begins", "()V"⟩, 100)]
theorem lw_r8 : ∀ q ∈ lw_privs_8, lw_okq q := List.forall_mem_cons.mpr ⟨lw_p112, List.forall_mem_cons.mpr ⟨lw_p113, List.forall_mem_cons.mpr ⟨lw_p114, List.forall_mem_cons.mpr ⟨lw_p115, List.forall_mem_cons.mpr ⟨lw_p116, List.forall_mem_cons.mpr ⟨lw_p117, List.forall_mem_cons.mpr ⟨lw_p118, List.forall_mem_cons.mpr ⟨lw_p119, List.forall_mem_cons.mpr ⟨lw_p120, List.forall_mem_cons.mpr ⟨lw_p121, List.forall_mem_cons.mpr ⟨lw_p122, List.forall_mem_cons.mpr ⟨lw_p123, List.forall_mem_cons.mpr ⟨lw_p124, List.forall_mem_cons.mpr ⟨lw_p125, List.forall_mem_cons.mpr ⟨lw_p126, List.forall_mem_cons.mpr ⟨lw_p127, fun _ h => absurd h List.not_mem_nil⟩⟩⟩⟩⟩⟩⟩⟩⟩⟩⟩⟩⟩⟩⟩⟩
theorem lw_p128 : lw_okq (⟨"WiringHouseModel", "getsWhole", "(II)I"⟩, 100) := ⟨⟨by decide +kernel, by decide +kernel⟩, tq9_7 _ (List.mem_of_getElem? (i := 93) (by decide +kernel)), tq9_9 _ (List.mem_of_getElem? (i := 161) (by decide +kernel)), tq9_9 _ (List.mem_of_getElem? (i := 162) (by decide +kernel))⟩
theorem lw_p129 : lw_okq (⟨"WiringHouseModel", "gets", "(II)I"⟩, 100) := ⟨⟨by decide +kernel, by decide +kernel⟩, tq9_7 _ (List.mem_of_getElem? (i := 93) (by decide +kernel)), tq9_9 _ (List.mem_of_getElem? (i := 165) (by decide +kernel)), tq9_9 _ (List.mem_of_getElem? (i := 166) (by decide +kernel))⟩
theorem lw_p130 : lw_okq (⟨"WiringHouseModel", "placeOf", "(II)I"⟩, 100) := ⟨⟨by decide +kernel, by decide +kernel⟩, tq9_7 _ (List.mem_of_getElem? (i := 93) (by decide +kernel)), tq9_9 _ (List.mem_of_getElem? (i := 169) (by decide +kernel)), tq9_9 _ (List.mem_of_getElem? (i := 170) (by decide +kernel))⟩
theorem lw_p131 : lw_okq (⟨"WiringHouseModel", "fails", "(I)I"⟩, 100) := ⟨⟨by decide +kernel, by decide +kernel⟩, tq9_7 _ (List.mem_of_getElem? (i := 93) (by decide +kernel)), tq9_9 _ (List.mem_of_getElem? (i := 173) (by decide +kernel)), tq9_9 _ (List.mem_of_getElem? (i := 174) (by decide +kernel))⟩
theorem lw_p132 : lw_okq (⟨"WiringHouseModel", "objectAt", "(II)I"⟩, 100) := ⟨⟨by decide +kernel, by decide +kernel⟩, tq9_7 _ (List.mem_of_getElem? (i := 93) (by decide +kernel)), tq9_9 _ (List.mem_of_getElem? (i := 177) (by decide +kernel)), tq9_9 _ (List.mem_of_getElem? (i := 178) (by decide +kernel))⟩
theorem lw_p133 : lw_okq (⟨"WiringHouseModel", "makes", "(IIZ)I"⟩, 100) := ⟨⟨by decide +kernel, by decide +kernel⟩, tq9_7 _ (List.mem_of_getElem? (i := 93) (by decide +kernel)), tq9_9 _ (List.mem_of_getElem? (i := 181) (by decide +kernel)), tq9_9 _ (List.mem_of_getElem? (i := 182) (by decide +kernel))⟩
theorem lw_p134 : lw_okq (⟨"WiringHouseModel", "step", "()Z"⟩, 100) := ⟨⟨by decide +kernel, by decide +kernel⟩, tq9_7 _ (List.mem_of_getElem? (i := 93) (by decide +kernel)), tq9_9 _ (List.mem_of_getElem? (i := 185) (by decide +kernel)), tq9_9 _ (List.mem_of_getElem? (i := 186) (by decide +kernel))⟩
theorem lw_p135 : lw_okq (⟨"WiringHouseModel", "joinsAll", "(III)I"⟩, 100) := ⟨⟨by decide +kernel, by decide +kernel⟩, tq9_7 _ (List.mem_of_getElem? (i := 93) (by decide +kernel)), tq9_9 _ (List.mem_of_getElem? (i := 190) (by decide +kernel)), tq9_9 _ (List.mem_of_getElem? (i := 191) (by decide +kernel))⟩
theorem lw_p136 : lw_okq (⟨"WiringHouseModel", "works", "(IIIII)I"⟩, 100) := ⟨⟨by decide +kernel, by decide +kernel⟩, tq9_7 _ (List.mem_of_getElem? (i := 93) (by decide +kernel)), tq9_9 _ (List.mem_of_getElem? (i := 194) (by decide +kernel)), tq9_9 _ (List.mem_of_getElem? (i := 195) (by decide +kernel))⟩
theorem lw_p137 : lw_okq (⟨"WiringHouseModel", "worksAround", "(IIIIII)I"⟩, 100) := ⟨⟨by decide +kernel, by decide +kernel⟩, tq9_7 _ (List.mem_of_getElem? (i := 93) (by decide +kernel)), tq9_9 _ (List.mem_of_getElem? (i := 198) (by decide +kernel)), tq9_9 _ (List.mem_of_getElem? (i := 199) (by decide +kernel))⟩
theorem lw_p138 : lw_okq (⟨"WiringHouseModel", "pop", "()I"⟩, 100) := ⟨⟨by decide +kernel, by decide +kernel⟩, tq9_7 _ (List.mem_of_getElem? (i := 93) (by decide +kernel)), tq9_9 _ (List.mem_of_getElem? (i := 202) (by decide +kernel)), tq9_9 _ (List.mem_of_getElem? (i := 203) (by decide +kernel))⟩
theorem lw_p139 : lw_okq (⟨"WiringHouseModel", "arounds", "(IIIII)I"⟩, 100) := ⟨⟨by decide +kernel, by decide +kernel⟩, tq9_7 _ (List.mem_of_getElem? (i := 93) (by decide +kernel)), tq9_9 _ (List.mem_of_getElem? (i := 206) (by decide +kernel)), tq9_9 _ (List.mem_of_getElem? (i := 207) (by decide +kernel))⟩
theorem lw_p140 : lw_okq (⟨"WiringHouseModel", "wrapAt", "(IIII)I"⟩, 100) := ⟨⟨by decide +kernel, by decide +kernel⟩, tq9_7 _ (List.mem_of_getElem? (i := 93) (by decide +kernel)), tq9_9 _ (List.mem_of_getElem? (i := 210) (by decide +kernel)), tq9_9 _ (List.mem_of_getElem? (i := 211) (by decide +kernel))⟩
theorem lw_p141 : lw_okq (⟨"WiringHouseModel", "isWrap", "(IIII)Z"⟩, 100) := ⟨⟨by decide +kernel, by decide +kernel⟩, tq9_7 _ (List.mem_of_getElem? (i := 93) (by decide +kernel)), tq9_9 _ (List.mem_of_getElem? (i := 214) (by decide +kernel)), tq9_9 _ (List.mem_of_getElem? (i := 215) (by decide +kernel))⟩
theorem lw_p142 : lw_okq (⟨"WiringHouseModel", "inside", "(IIII)I"⟩, 100) := ⟨⟨by decide +kernel, by decide +kernel⟩, tq9_7 _ (List.mem_of_getElem? (i := 93) (by decide +kernel)), tq9_9 _ (List.mem_of_getElem? (i := 218) (by decide +kernel)), tq9_9 _ (List.mem_of_getElem? (i := 219) (by decide +kernel))⟩
theorem lw_p143 : lw_okq (⟨"WiringHouseModel", "wrapsOf", "(III)I"⟩, 100) := ⟨⟨by decide +kernel, by decide +kernel⟩, tq9_7 _ (List.mem_of_getElem? (i := 93) (by decide +kernel)), tq9_9 _ (List.mem_of_getElem? (i := 222) (by decide +kernel)), tq9_9 _ (List.mem_of_getElem? (i := 223) (by decide +kernel))⟩
def lw_privs_9 : List (MethodName × Nat) := [(⟨"WiringHouseModel", "getsWhole", "(II)I"⟩, 100), (⟨"WiringHouseModel", "gets", "(II)I"⟩, 100), (⟨"WiringHouseModel", "placeOf", "(II)I"⟩, 100), (⟨"WiringHouseModel", "fails", "(I)I"⟩, 100), (⟨"WiringHouseModel", "objectAt", "(II)I"⟩, 100), (⟨"WiringHouseModel", "makes", "(IIZ)I"⟩, 100), (⟨"WiringHouseModel", "step", "()Z"⟩, 100), (⟨"WiringHouseModel", "joinsAll", "(III)I"⟩, 100), (⟨"WiringHouseModel", "works", "(IIIII)I"⟩, 100), (⟨"WiringHouseModel", "worksAround", "(IIIIII)I"⟩, 100), (⟨"WiringHouseModel", "pop", "()I"⟩, 100), (⟨"WiringHouseModel", "arounds", "(IIIII)I"⟩, 100), (⟨"WiringHouseModel", "wrapAt", "(IIII)I"⟩, 100), (⟨"WiringHouseModel", "isWrap", "(IIII)Z"⟩, 100), (⟨"WiringHouseModel", "inside", "(IIII)I"⟩, 100), (⟨"WiringHouseModel", "wrapsOf", "(III)I"⟩, 100)]
theorem lw_r9 : ∀ q ∈ lw_privs_9, lw_okq q := List.forall_mem_cons.mpr ⟨lw_p128, List.forall_mem_cons.mpr ⟨lw_p129, List.forall_mem_cons.mpr ⟨lw_p130, List.forall_mem_cons.mpr ⟨lw_p131, List.forall_mem_cons.mpr ⟨lw_p132, List.forall_mem_cons.mpr ⟨lw_p133, List.forall_mem_cons.mpr ⟨lw_p134, List.forall_mem_cons.mpr ⟨lw_p135, List.forall_mem_cons.mpr ⟨lw_p136, List.forall_mem_cons.mpr ⟨lw_p137, List.forall_mem_cons.mpr ⟨lw_p138, List.forall_mem_cons.mpr ⟨lw_p139, List.forall_mem_cons.mpr ⟨lw_p140, List.forall_mem_cons.mpr ⟨lw_p141, List.forall_mem_cons.mpr ⟨lw_p142, List.forall_mem_cons.mpr ⟨lw_p143, fun _ h => absurd h List.not_mem_nil⟩⟩⟩⟩⟩⟩⟩⟩⟩⟩⟩⟩⟩⟩⟩⟩
theorem lw_p144 : lw_okq (⟨"WiringHouseModel", "notes", "(III)V"⟩, 100) := ⟨⟨by decide +kernel, by decide +kernel⟩, tq9_7 _ (List.mem_of_getElem? (i := 93) (by decide +kernel)), tq9_9 _ (List.mem_of_getElem? (i := 226) (by decide +kernel)), tq9_9 _ (List.mem_of_getElem? (i := 227) (by decide +kernel))⟩
theorem lw_p145 : lw_okq (⟨"WiringHouseModel", "push", "(I)V"⟩, 100) := ⟨⟨by decide +kernel, by decide +kernel⟩, tq9_7 _ (List.mem_of_getElem? (i := 93) (by decide +kernel)), tq9_9 _ (List.mem_of_getElem? (i := 230) (by decide +kernel)), tq9_9 _ (List.mem_of_getElem? (i := 231) (by decide +kernel))⟩
theorem lw_p146 : lw_okq (⟨"WiringHouseModel", "ofNeed", "(IIIII)I"⟩, 100) := ⟨⟨by decide +kernel, by decide +kernel⟩, tq9_7 _ (List.mem_of_getElem? (i := 93) (by decide +kernel)), tq9_9 _ (List.mem_of_getElem? (i := 234) (by decide +kernel)), tq9_9 _ (List.mem_of_getElem? (i := 235) (by decide +kernel))⟩
theorem lw_p147 : lw_okq (⟨"WiringHouseModel", "ofLate", "(IIIIII)I"⟩, 100) := ⟨⟨by decide +kernel, by decide +kernel⟩, tq9_7 _ (List.mem_of_getElem? (i := 93) (by decide +kernel)), tq9_9 _ (List.mem_of_getElem? (i := 238) (by decide +kernel)), tq9_9 _ (List.mem_of_getElem? (i := 239) (by decide +kernel))⟩
theorem lw_p148 : lw_okq (⟨"WiringHouseModel", "calls", "(IIII)I"⟩, 100) := ⟨⟨by decide +kernel, by decide +kernel⟩, tq9_7 _ (List.mem_of_getElem? (i := 93) (by decide +kernel)), tq9_10 _ (List.mem_of_getElem? (i := 2) (by decide +kernel)), tq9_10 _ (List.mem_of_getElem? (i := 3) (by decide +kernel))⟩
theorem lw_p149 : lw_okq (⟨"WiringHouseModel", "failings", "(III)I"⟩, 100) := ⟨⟨by decide +kernel, by decide +kernel⟩, tq9_7 _ (List.mem_of_getElem? (i := 93) (by decide +kernel)), tq9_10 _ (List.mem_of_getElem? (i := 6) (by decide +kernel)), tq9_10 _ (List.mem_of_getElem? (i := 7) (by decide +kernel))⟩
theorem lw_p150 : lw_okq (⟨"WiringHouseModel", "reckons", "(II)I"⟩, 100) := ⟨⟨by decide +kernel, by decide +kernel⟩, tq9_7 _ (List.mem_of_getElem? (i := 93) (by decide +kernel)), tq9_10 _ (List.mem_of_getElem? (i := 10) (by decide +kernel)), tq9_10 _ (List.mem_of_getElem? (i := 11) (by decide +kernel))⟩
theorem lw_p151 : lw_okq (⟨"WiringHouseModel", "closes", "(I)Z"⟩, 100) := ⟨⟨by decide +kernel, by decide +kernel⟩, tq9_7 _ (List.mem_of_getElem? (i := 93) (by decide +kernel)), tq9_10 _ (List.mem_of_getElem? (i := 14) (by decide +kernel)), tq9_10 _ (List.mem_of_getElem? (i := 15) (by decide +kernel))⟩
theorem lw_p152 : lw_okq (⟨"WiringHouseModel", "ends", "(I)Z"⟩, 100) := ⟨⟨by decide +kernel, by decide +kernel⟩, tq9_7 _ (List.mem_of_getElem? (i := 93) (by decide +kernel)), tq9_10 _ (List.mem_of_getElem? (i := 18) (by decide +kernel)), tq9_10 _ (List.mem_of_getElem? (i := 19) (by decide +kernel))⟩
theorem lw_p153 : lw_okq (⟨"WiringHouseModel", "closeAll", "(I)I"⟩, 100) := ⟨⟨by decide +kernel, by decide +kernel⟩, tq9_7 _ (List.mem_of_getElem? (i := 93) (by decide +kernel)), tq9_10 _ (List.mem_of_getElem? (i := 30) (by decide +kernel)), tq9_10 _ (List.mem_of_getElem? (i := 31) (by decide +kernel))⟩
theorem lw_p154 : lw_okq (⟨"WiringHouseModel", "latestIn", "(I)I"⟩, 100) := ⟨⟨by decide +kernel, by decide +kernel⟩, tq9_7 _ (List.mem_of_getElem? (i := 93) (by decide +kernel)), tq9_10 _ (List.mem_of_getElem? (i := 34) (by decide +kernel)), tq9_10 _ (List.mem_of_getElem? (i := 35) (by decide +kernel))⟩
def lw_privs_10 : List (MethodName × Nat) := [(⟨"WiringHouseModel", "notes", "(III)V"⟩, 100), (⟨"WiringHouseModel", "push", "(I)V"⟩, 100), (⟨"WiringHouseModel", "ofNeed", "(IIIII)I"⟩, 100), (⟨"WiringHouseModel", "ofLate", "(IIIIII)I"⟩, 100), (⟨"WiringHouseModel", "calls", "(IIII)I"⟩, 100), (⟨"WiringHouseModel", "failings", "(III)I"⟩, 100), (⟨"WiringHouseModel", "reckons", "(II)I"⟩, 100), (⟨"WiringHouseModel", "closes", "(I)Z"⟩, 100), (⟨"WiringHouseModel", "ends", "(I)Z"⟩, 100), (⟨"WiringHouseModel", "closeAll", "(I)I"⟩, 100), (⟨"WiringHouseModel", "latestIn", "(I)I"⟩, 100)]
theorem lw_r10 : ∀ q ∈ lw_privs_10, lw_okq q := List.forall_mem_cons.mpr ⟨lw_p144, List.forall_mem_cons.mpr ⟨lw_p145, List.forall_mem_cons.mpr ⟨lw_p146, List.forall_mem_cons.mpr ⟨lw_p147, List.forall_mem_cons.mpr ⟨lw_p148, List.forall_mem_cons.mpr ⟨lw_p149, List.forall_mem_cons.mpr ⟨lw_p150, List.forall_mem_cons.mpr ⟨lw_p151, List.forall_mem_cons.mpr ⟨lw_p152, List.forall_mem_cons.mpr ⟨lw_p153, List.forall_mem_cons.mpr ⟨lw_p154, fun _ h => absurd h List.not_mem_nil⟩⟩⟩⟩⟩⟩⟩⟩⟩⟩⟩
def lw_privs : List (MethodName × Nat) := lw_privs_1 ++ (lw_privs_2 ++ (lw_privs_3 ++ (lw_privs_4 ++ (lw_privs_5 ++ (lw_privs_6 ++ (lw_privs_7 ++ (lw_privs_8 ++ (lw_privs_9 ++ (lw_privs_10)))))))))
def lw_tbl : List Cond := k2_sels lw_privs ++ tables_1
theorem lw_privs_ok : ∀ q ∈ lw_privs, lw_okq q := by
  show ∀ q ∈ lw_privs_1 ++ (lw_privs_2 ++ (lw_privs_3 ++ (lw_privs_4 ++ (lw_privs_5 ++ (lw_privs_6 ++ (lw_privs_7 ++ (lw_privs_8 ++ (lw_privs_9 ++ (lw_privs_10))))))))), lw_okq q
  exact List.forall_mem_append.mpr ⟨lw_r1, List.forall_mem_append.mpr ⟨lw_r2, List.forall_mem_append.mpr ⟨lw_r3, List.forall_mem_append.mpr ⟨lw_r4, List.forall_mem_append.mpr ⟨lw_r5, List.forall_mem_append.mpr ⟨lw_r6, List.forall_mem_append.mpr ⟨lw_r7, List.forall_mem_append.mpr ⟨lw_r8, List.forall_mem_append.mpr ⟨lw_r9, lw_r10⟩⟩⟩⟩⟩⟩⟩⟩⟩
-- ===== end of PART A; then your names; then what follows =====
/-! THE CLAIM OUT OF ONE WALK OF THE LAW'S BODY. Your part is whole_start (and what it stands on); all else here is the same for every law, but numbers. -/
def R_law : String := "WiringHouseLaw"
def lw_P (b : Addr) (xs : List Int32) (args : Array Value) (s : State) : Prop := args = #[.ref b] ∧ s.IntsAt b xs ∧ xs.length ≤ 3584 ∧ (Jvm.Cond.and given_1 narrow_1).before args s = true
def lw_Q (_ : Array Value) (s : State) (o : Outcome) (t : State) : Prop := o = .returned (some (.int 1)) ∧ Framed s o t [] 601024 7293034
def lw_Z (below : List Frame) (a : Array Value) (s : State) : State → Prop := fun t => ∃ o, t.status = .running ∧ Ended t below o ∧ lw_Q a s o t
/-- the law's own end, with 1 on the stack, nothing written that was there before, its room as the claim has it -/
theorem lw_ret {p : Program} {l : Launch} {e : Env} {s : State} {m : MethodId} {below : List Frame} {meth : Method} {c : Code} {b : Nat} (hx : p.tables.exec = Jvm.exec) (hb : c.code = code) (hr : meth.sig.returnType = ret) (hlocks : meth.locks = false) {pc : Nat} {H : Heap} {ls : Array Slot} (hdg : decode code pc = .ok (.ireturn, 1)) : W p l e room_1 s m #[Value.ref b] below meth c H [] 601024 7293034 (lw_Z below #[Value.ref b] s) (F0 m pc ls [.int 1]) := by
  intro T hT X
  obtain ⟨fs, hret, hrun, hended, hW, hframe⟩ := X.leave (v := some (.int 1)) (hlocks := hlocks) (fun h => by rw [hr] at h; cases h)
  have hmeth' : T.vm.method? m = some meth := X.method'
  refine ⟨T.setFrames fs, ?_, .returned (some (.int 1)), hrun, hended, rfl, ⟨_, rfl⟩, hW, hframe⟩
  jvm_step X.here [X.here.top, hx, hb, hdg, hmeth', hr, ret, narrow_b1]
  (try refine ⟨rfl, ?_⟩); (try refine ⟨rfl, ?_⟩)
  first | (intro acts; rw [hret _ acts rfl rfl rfl]) | rw [hret _ _ rfl rfl rfl]
  exact Steps.refl _
/-- what holds at the law's entry: the machine, the code, the tables' words (any of lw_tbl by 'hts w (by decide +kernel)'), the script of L ints xs at the cell b, what the Statement gives of the start (any of its parts by flat_of_before) -/
def lw_At (p : Program) (s : State) (m : MethodId) (meth : Method) (c : Code) (b L : Nat) (xs : Nat → Int32) : Prop :=
  p.tables.exec = Jvm.exec ∧ c.code = code ∧ meth.sig.returnType = ret ∧ c.maxLocals = 7 ∧ s.vm.findClass R_law = some m.cls ∧ (∀ w ∈ lw_tbl, w.before #[Value.ref b] s = true) ∧ va_X b L xs s s.heap ∧ b < s.heap.size ∧ meth.locks = false ∧ (Jvm.Cond.and given_1 narrow_1).before #[Value.ref b] s = true
def RX0 : String := "WiringHouse$Book"
def TX0 : u_T := fun k => match k with
  | 0 => ("WiringHouse$Book", "types", "LWiringHouse$Names;", true)
  | 1 => ("WiringHouse$Book", "settings", "LWiringHouse$Names;", true)
  | 2 => ("WiringHouse$Book", "names", "LWiringHouse$Names;", true)
  | 3 => ("WiringHouse$Book", "methods", "LWiringHouse$Names;", true)
  | 4 => ("WiringHouse$Book", "words", "LWiringHouse$Names;", true)
  | 5 => ("WiringHouse$Book", "typeUnder", "[I", true)
  | 6 => ("WiringHouse$Book", "settingValues", "[I", true)
  | 7 => ("WiringHouse$Book", "components", "[LWiringHouse$Component;", true)
  | 8 => ("WiringHouse$Book", "wraps", "[LWiringHouse$Wrap;", true)
  | 9 => ("WiringHouse$Book", "wrapOrder", "[I", true)
  | 10 => ("WiringHouse$Book", "code", "[I", true)
  | 11 => ("WiringHouse$Book", "wrapCount", "I", false)
  | _ => ("WiringHouse$Book", "codeLength", "I", false)
def tyX0 : Nat → FieldType := fun k => match k with
  | 0 => .object "WiringHouse$Names"
  | 1 => .object "WiringHouse$Names"
  | 2 => .object "WiringHouse$Names"
  | 3 => .object "WiringHouse$Names"
  | 4 => .object "WiringHouse$Names"
  | 5 => .array .int
  | 6 => .array .int
  | 7 => .array (.object "WiringHouse$Component")
  | 8 => .array (.object "WiringHouse$Wrap")
  | 9 => .array .int
  | 10 => .array .int
  | 11 => .int
  | _ => .int
abbrev wsX00 : List Cond := u_ws RX0 TX0 13
theorem nmX0 : ∀ a, a < 13 → ∀ b, b < 13 → a ≠ b → (TX0 a).2.1 ≠ (TX0 b).2.1 := by decide +kernel
theorem tyX0_ok : ∀ k, k < 13 → parseFieldDescriptor (TX0 k).2.2.1 = some (tyX0 k) := by decide +kernel
abbrev cX0_init : ByteArray := prog_2_method_1_code
def yX0_init : MethodName := ⟨RX0, "<init>", "()V"⟩
abbrev cX0_clear : ByteArray := prog_2_method_2_code
def yX0_clear : MethodName := ⟨RX0, "clear", "()V"⟩
abbrev cX0_numberOf : ByteArray := prog_2_method_3_code
def yX0_numberOf : MethodName := ⟨RX0, "numberOf", "(JI)I"⟩
abbrev cX0_isTold : ByteArray := prog_2_method_4_code
def yX0_isTold : MethodName := ⟨RX0, "isTold", "(J)Z"⟩
abbrev cX0_has : ByteArray := prog_2_method_5_code
def yX0_has : MethodName := ⟨RX0, "has", "(I)Z"⟩
abbrev cX0_isThere : ByteArray := prog_2_method_6_code
def yX0_isThere : MethodName := ⟨RX0, "isThere", "(I)Z"⟩
abbrev cX0_candidates : ByteArray := prog_2_method_7_code
def yX0_candidates : MethodName := ⟨RX0, "candidates", "(II)I"⟩
abbrev cX0_firstCandidate : ByteArray := prog_2_method_8_code
def yX0_firstCandidate : MethodName := ⟨RX0, "firstCandidate", "(II)I"⟩
abbrev cX0_addWrap : ByteArray := prog_2_method_9_code
def yX0_addWrap : MethodName := ⟨RX0, "addWrap", "(IIIII)V"⟩
abbrev cX0_aroundsOf : ByteArray := prog_2_method_10_code
def yX0_aroundsOf : MethodName := ⟨RX0, "aroundsOf", "(I)I"⟩
abbrev cX0_wrapFrom : ByteArray := prog_2_method_11_code
def yX0_wrapFrom : MethodName := ⟨RX0, "wrapFrom", "(IIII)I"⟩
abbrev cX0_wrapBackFrom : ByteArray := prog_2_method_12_code
def yX0_wrapBackFrom : MethodName := ⟨RX0, "wrapBackFrom", "(IIII)I"⟩
abbrev cX0_isFor : ByteArray := prog_2_method_13_code
def yX0_isFor : MethodName := ⟨RX0, "isFor", "(LWiringHouse$Wrap;III)Z"⟩
abbrev cX0_emit : ByteArray := prog_2_method_14_code
def yX0_emit : MethodName := ⟨RX0, "emit", "(I)V"⟩
abbrev cX0_patch : ByteArray := prog_2_method_15_code
def yX0_patch : MethodName := ⟨RX0, "patch", "(II)V"⟩
def RX1 : String := "WiringHouse$BookReader"
def TX1 : u_T := fun k => match k with
  | 0 => ("WiringHouse$BookReader", "tape", "LWiringHouse$Tape;", true)
  | 1 => ("WiringHouse$BookReader", "book", "LWiringHouse$Book;", false)
  | 2 => ("WiringHouse$BookReader", "owner", "LWiringHouse$Component;", false)
  | 3 => ("WiringHouse$BookReader", "fault", "I", false)
  | 4 => ("WiringHouse$BookReader", "where", "I", false)
  | 5 => ("WiringHouse$BookReader", "word", "J", false)
  | 6 => ("WiringHouse$BookReader", "found", "I", false)
  | 7 => ("WiringHouse$BookReader", "under", "I", false)
  | _ => ("WiringHouse$BookReader", "number", "I", false)
def tyX1 : Nat → FieldType := fun k => match k with
  | 0 => .object "WiringHouse$Tape"
  | 1 => .object "WiringHouse$Book"
  | 2 => .object "WiringHouse$Component"
  | 3 => .int
  | 4 => .int
  | 5 => .long
  | 6 => .int
  | 7 => .int
  | _ => .int
abbrev wsX10 : List Cond := u_ws RX1 TX1 9
theorem nmX1 : ∀ a, a < 9 → ∀ b, b < 9 → a ≠ b → (TX1 a).2.1 ≠ (TX1 b).2.1 := by decide +kernel
theorem tyX1_ok : ∀ k, k < 9 → parseFieldDescriptor (TX1 k).2.2.1 = some (tyX1 k) := by decide +kernel
abbrev cX1_init : ByteArray := prog_3_method_1_code
def yX1_init : MethodName := ⟨RX1, "<init>", "(LWiringHouse$Tape;)V"⟩
abbrev cX1_read : ByteArray := prog_3_method_2_code
def yX1_read : MethodName := ⟨RX1, "read", "(LWiringHouse$Book;)I"⟩
abbrev cX1_readStatement : ByteArray := prog_3_method_3_code
def yX1_readStatement : MethodName := ⟨RX1, "readStatement", "()Z"⟩
abbrev cX1_readType : ByteArray := prog_3_method_4_code
def yX1_readType : MethodName := ⟨RX1, "readType", "()Z"⟩
abbrev cX1_readSetting : ByteArray := prog_3_method_5_code
def yX1_readSetting : MethodName := ⟨RX1, "readSetting", "()Z"⟩
abbrev cX1_readComponent : ByteArray := prog_3_method_6_code
def yX1_readComponent : MethodName := ⟨RX1, "readComponent", "()Z"⟩
abbrev cX1_readExtras : ByteArray := prog_3_method_7_code
def yX1_readExtras : MethodName := ⟨RX1, "readExtras", "(LWiringHouse$Component;)Z"⟩
abbrev cX1_readWrap : ByteArray := prog_3_method_8_code
def yX1_readWrap : MethodName := ⟨RX1, "readWrap", "()Z"⟩
abbrev cX1_readMember : ByteArray := prog_3_method_9_code
def yX1_readMember : MethodName := ⟨RX1, "readMember", "()Z"⟩
abbrev cX1_readNeed : ByteArray := prog_3_method_10_code
def yX1_readNeed : MethodName := ⟨RX1, "readNeed", "()Z"⟩
abbrev cX1_readMethod : ByteArray := prog_3_method_11_code
def yX1_readMethod : MethodName := ⟨RX1, "readMethod", "()Z"⟩
abbrev cX1_readE : ByteArray := prog_3_method_12_code
def yX1_readE : MethodName := ⟨RX1, "readE", "(I)Z"⟩
abbrev cX1_readExpression : ByteArray := prog_3_method_13_code
def yX1_readExpression : MethodName := ⟨RX1, "readExpression", "(I)Z"⟩
abbrev cX1_readSum : ByteArray := prog_3_method_14_code
def yX1_readSum : MethodName := ⟨RX1, "readSum", "(I)Z"⟩
abbrev cX1_readProduct : ByteArray := prog_3_method_15_code
def yX1_readProduct : MethodName := ⟨RX1, "readProduct", "(I)Z"⟩
abbrev cX1_readPart : ByteArray := prog_3_method_16_code
def yX1_readPart : MethodName := ⟨RX1, "readPart", "(I)Z"⟩
abbrev cX1_beginsPart : ByteArray := prog_3_method_17_code
def yX1_beginsPart : MethodName := ⟨RX1, "beginsPart", "()Z"⟩
abbrev cX1_readWithin : ByteArray := prog_3_method_18_code
def yX1_readWithin : MethodName := ⟨RX1, "readWithin", "(I)Z"⟩
abbrev cX1_readPick : ByteArray := prog_3_method_19_code
def yX1_readPick : MethodName := ⟨RX1, "readPick", "(I)Z"⟩
abbrev cX1_readOf : ByteArray := prog_3_method_20_code
def yX1_readOf : MethodName := ⟨RX1, "readOf", "(I)Z"⟩
abbrev cX1_putAlone : ByteArray := prog_3_method_21_code
def yX1_putAlone : MethodName := ⟨RX1, "putAlone", "(I)Z"⟩
abbrev cX1_put : ByteArray := prog_3_method_22_code
def yX1_put : MethodName := ⟨RX1, "put", "(II)Z"⟩
abbrev cX1_take : ByteArray := prog_3_method_23_code
def yX1_take : MethodName := ⟨RX1, "take", "(I)Z"⟩
abbrev cX1_takeNumber : ByteArray := prog_3_method_24_code
def yX1_takeNumber : MethodName := ⟨RX1, "takeNumber", "(II)Z"⟩
abbrev cX1_takeNewName : ByteArray := prog_3_method_25_code
def yX1_takeNewName : MethodName := ⟨RX1, "takeNewName", "()Z"⟩
abbrev cX1_isToldType : ByteArray := prog_3_method_26_code
def yX1_isToldType : MethodName := ⟨RX1, "isToldType", "()Z"⟩
abbrev cX1_takeTypes : ByteArray := prog_3_method_27_code
def yX1_takeTypes : MethodName := ⟨RX1, "takeTypes", "()Z"⟩
abbrev cX1_takeSetting : ByteArray := prog_3_method_28_code
def yX1_takeSetting : MethodName := ⟨RX1, "takeSetting", "()Z"⟩
abbrev cX1_takeMethod : ByteArray := prog_3_method_29_code
def yX1_takeMethod : MethodName := ⟨RX1, "takeMethod", "(LWiringHouse$Component;)Z"⟩
abbrev cX1_takeCalled : ByteArray := prog_3_method_30_code
def yX1_takeCalled : MethodName := ⟨RX1, "takeCalled", "()Z"⟩
abbrev cX1_takeNumbered : ByteArray := prog_3_method_31_code
def yX1_takeNumbered : MethodName := ⟨RX1, "takeNumbered", "(LWiringHouse$Names;I)Z"⟩
abbrev cX1_wrong : ByteArray := prog_3_method_32_code
def yX1_wrong : MethodName := ⟨RX1, "wrong", "(I)Z"⟩
def RX2 : String := "WiringHouse$Checker"
def TX2 : u_T := fun k => match k with
  | 0 => ("WiringHouse$Checker", "kinds", "[I", true)
  | 1 => ("WiringHouse$Checker", "whose", "[I", true)
  | 2 => ("WiringHouse$Checker", "details", "[I", true)
  | 3 => ("WiringHouse$Checker", "rings", "[I", true)
  | 4 => ("WiringHouse$Checker", "path", "[I", true)
  | 5 => ("WiringHouse$Checker", "onPath", "[I", true)
  | 6 => ("WiringHouse$Checker", "book", "LWiringHouse$Book;", false)
  | _ => ("WiringHouse$Checker", "faults", "I", false)
def tyX2 : Nat → FieldType := fun k => match k with
  | 0 => .array .int
  | 1 => .array .int
  | 2 => .array .int
  | 3 => .array .int
  | 4 => .array .int
  | 5 => .array .int
  | 6 => .object "WiringHouse$Book"
  | _ => .int
abbrev wsX20 : List Cond := u_ws RX2 TX2 8
theorem nmX2 : ∀ a, a < 8 → ∀ b, b < 8 → a ≠ b → (TX2 a).2.1 ≠ (TX2 b).2.1 := by decide +kernel
theorem tyX2_ok : ∀ k, k < 8 → parseFieldDescriptor (TX2 k).2.2.1 = some (tyX2 k) := by decide +kernel
abbrev cX2_init : ByteArray := prog_4_method_1_code
def yX2_init : MethodName := ⟨RX2, "<init>", "()V"⟩
abbrev cX2_clear : ByteArray := prog_4_method_2_code
def yX2_clear : MethodName := ⟨RX2, "clear", "()V"⟩
abbrev cX2_examine : ByteArray := prog_4_method_3_code
def yX2_examine : MethodName := ⟨RX2, "examine", "(LWiringHouse$Book;)I"⟩
abbrev cX2_examineNeeds : ByteArray := prog_4_method_4_code
def yX2_examineNeeds : MethodName := ⟨RX2, "examineNeeds", "(I)V"⟩
abbrev cX2_faultOf : ByteArray := prog_4_method_5_code
def yX2_faultOf : MethodName := ⟨RX2, "faultOf", "(II)I"⟩
abbrev cX2_hasShorter : ByteArray := prog_4_method_6_code
def yX2_hasShorter : MethodName := ⟨RX2, "hasShorter", "(II)Z"⟩
abbrev cX2_follow : ByteArray := prog_4_method_7_code
def yX2_follow : MethodName := ⟨RX2, "follow", "(II)V"⟩
abbrev cX2_followed : ByteArray := prog_4_method_8_code
def yX2_followed : MethodName := ⟨RX2, "followed", "(II)I"⟩
abbrev cX2_noteRing : ByteArray := prog_4_method_9_code
def yX2_noteRing : MethodName := ⟨RX2, "noteRing", "(II)V"⟩
abbrev cX2_note : ByteArray := prog_4_method_10_code
def yX2_note : MethodName := ⟨RX2, "note", "(III)V"⟩
abbrev cX2_tells : ByteArray := prog_4_method_11_code
def yX2_tells : MethodName := ⟨RX2, "tells", "(I)Z"⟩
abbrev cX2_tell : ByteArray := prog_4_method_12_code
def yX2_tell : MethodName := ⟨RX2, "tell", "(II)I"⟩
abbrev cX2_onRing : ByteArray := prog_4_method_13_code
def yX2_onRing : MethodName := ⟨RX2, "onRing", "(II)I"⟩
def RX3 : String := "WiringHouse$Component"
def TX3 : u_T := fun k => match k with
  | 0 => ("WiringHouse$Component", "needTypes", "[I", true)
  | 1 => ("WiringHouse$Component", "needWords", "[I", true)
  | 2 => ("WiringHouse$Component", "needKinds", "[I", true)
  | 3 => ("WiringHouse$Component", "methodStarts", "[I", true)
  | 4 => ("WiringHouse$Component", "needs", "I", false)
  | 5 => ("WiringHouse$Component", "under", "I", false)
  | 6 => ("WiringHouse$Component", "scope", "I", false)
  | 7 => ("WiringHouse$Component", "calledWord", "I", false)
  | 8 => ("WiringHouse$Component", "rank", "I", false)
  | 9 => ("WiringHouse$Component", "whenSetting", "I", false)
  | 10 => ("WiringHouse$Component", "whenValue", "I", false)
  | 11 => ("WiringHouse$Component", "openedStart", "I", false)
  | _ => ("WiringHouse$Component", "closedStart", "I", false)
def tyX3 : Nat → FieldType := fun k => match k with
  | 0 => .array .int
  | 1 => .array .int
  | 2 => .array .int
  | 3 => .array .int
  | 4 => .int
  | 5 => .int
  | 6 => .int
  | 7 => .int
  | 8 => .int
  | 9 => .int
  | 10 => .int
  | 11 => .int
  | _ => .int
abbrev wsX30 : List Cond := u_ws RX3 TX3 13
theorem nmX3 : ∀ a, a < 13 → ∀ b, b < 13 → a ≠ b → (TX3 a).2.1 ≠ (TX3 b).2.1 := by decide +kernel
theorem tyX3_ok : ∀ k, k < 13 → parseFieldDescriptor (TX3 k).2.2.1 = some (tyX3 k) := by decide +kernel
abbrev cX3_init : ByteArray := prog_5_method_1_code
def yX3_init : MethodName := ⟨RX3, "<init>", "()V"⟩
abbrev cX3_clear : ByteArray := prog_5_method_2_code
def yX3_clear : MethodName := ⟨RX3, "clear", "()V"⟩
abbrev cX3_addNeed : ByteArray := prog_5_method_3_code
def yX3_addNeed : MethodName := ⟨RX3, "addNeed", "(III)V"⟩
def RX4 : String := "WiringHouse$Frame"
def TX4 : u_T := fun k => match k with
  | 0 => ("WiringHouse$Frame", "kind", "I", false)
  | 1 => ("WiringHouse$Frame", "phase", "I", false)
  | 2 => ("WiringHouse$Frame", "level", "I", false)
  | 3 => ("WiringHouse$Frame", "object", "I", false)
  | 4 => ("WiringHouse$Frame", "component", "I", false)
  | 5 => ("WiringHouse$Frame", "scope", "I", false)
  | 6 => ("WiringHouse$Frame", "method", "I", false)
  | 7 => ("WiringHouse$Frame", "arg", "I", false)
  | 8 => ("WiringHouse$Frame", "position", "I", false)
  | 9 => ("WiringHouse$Frame", "item", "I", false)
  | 10 => ("WiringHouse$Frame", "target", "I", false)
  | 11 => ("WiringHouse$Frame", "given", "I", false)
  | 12 => ("WiringHouse$Frame", "sum", "I", false)
  | 13 => ("WiringHouse$Frame", "mark", "I", false)
  | 14 => ("WiringHouse$Frame", "needs", "I", false)
  | 15 => ("WiringHouse$Frame", "failure", "I", false)
  | 16 => ("WiringHouse$Frame", "spent", "Z", false)
  | 17 => ("WiringHouse$Frame", "at", "I", false)
  | _ => ("WiringHouse$Frame", "base", "I", false)
def tyX4 : Nat → FieldType := fun k => match k with
  | 0 => .int
  | 1 => .int
  | 2 => .int
  | 3 => .int
  | 4 => .int
  | 5 => .int
  | 6 => .int
  | 7 => .int
  | 8 => .int
  | 9 => .int
  | 10 => .int
  | 11 => .int
  | 12 => .int
  | 13 => .int
  | 14 => .int
  | 15 => .int
  | 16 => .boolean
  | 17 => .int
  | _ => .int
abbrev wsX40 : List Cond := u_ws RX4 TX4 19
theorem nmX4 : ∀ a, a < 19 → ∀ b, b < 19 → a ≠ b → (TX4 a).2.1 ≠ (TX4 b).2.1 := by decide +kernel
theorem tyX4_ok : ∀ k, k < 19 → parseFieldDescriptor (TX4 k).2.2.1 = some (tyX4 k) := by decide +kernel
abbrev cX4_init : ByteArray := prog_6_method_1_code
def yX4_init : MethodName := ⟨RX4, "<init>", "()V"⟩
def RX5 : String := "WiringHouse$Machine"
def TX5 : u_T := fun k => match k with
  | 0 => ("WiringHouse$Machine", "stock", "LWiringHouse$Stock;", true)
  | 1 => ("WiringHouse$Machine", "notes", "LWiringHouse$Notes;", true)
  | 2 => ("WiringHouse$Machine", "frames", "[LWiringHouse$Frame;", true)
  | 3 => ("WiringHouse$Machine", "values", "[I", true)
  | 4 => ("WiringHouse$Machine", "made", "[I", true)
  | 5 => ("WiringHouse$Machine", "book", "LWiringHouse$Book;", false)
  | 6 => ("WiringHouse$Machine", "depth", "I", false)
  | 7 => ("WiringHouse$Machine", "top", "I", false)
  | 8 => ("WiringHouse$Machine", "madeCount", "I", false)
  | 9 => ("WiringHouse$Machine", "signal", "I", false)
  | 10 => ("WiringHouse$Machine", "answer", "I", false)
  | 11 => ("WiringHouse$Machine", "needs", "I", false)
  | 12 => ("WiringHouse$Machine", "failure", "I", false)
  | 13 => ("WiringHouse$Machine", "stepsNow", "I", false)
  | _ => ("WiringHouse$Machine", "stepsInAll", "I", false)
def tyX5 : Nat → FieldType := fun k => match k with
  | 0 => .object "WiringHouse$Stock"
  | 1 => .object "WiringHouse$Notes"
  | 2 => .array (.object "WiringHouse$Frame")
  | 3 => .array .int
  | 4 => .array .int
  | 5 => .object "WiringHouse$Book"
  | 6 => .int
  | 7 => .int
  | 8 => .int
  | 9 => .int
  | 10 => .int
  | 11 => .int
  | 12 => .int
  | 13 => .int
  | _ => .int
abbrev wsX50 : List Cond := u_ws RX5 TX5 15
theorem nmX5 : ∀ a, a < 15 → ∀ b, b < 15 → a ≠ b → (TX5 a).2.1 ≠ (TX5 b).2.1 := by decide +kernel
theorem tyX5_ok : ∀ k, k < 15 → parseFieldDescriptor (TX5 k).2.2.1 = some (tyX5 k) := by decide +kernel
abbrev cX5_init : ByteArray := prog_7_method_1_code
def yX5_init : MethodName := ⟨RX5, "<init>", "(LWiringHouse$Book;LWiringHouse$Stock;LWiringHouse$Notes;)V"⟩
abbrev cX5_takeBook : ByteArray := prog_7_method_2_code
def yX5_takeBook : MethodName := ⟨RX5, "takeBook", "(LWiringHouse$Book;)V"⟩
abbrev cX5_restart : ByteArray := prog_7_method_3_code
def yX5_restart : MethodName := ⟨RX5, "restart", "()V"⟩
abbrev cX5_isSpent : ByteArray := prog_7_method_4_code
def yX5_isSpent : MethodName := ⟨RX5, "isSpent", "()Z"⟩
abbrev cX5_howItEnded : ByteArray := prog_7_method_5_code
def yX5_howItEnded : MethodName := ⟨RX5, "howItEnded", "()I"⟩
abbrev cX5_answerOr : ByteArray := prog_7_method_6_code
def yX5_answerOr : MethodName := ⟨RX5, "answerOr", "(I)I"⟩
abbrev cX5_run : ByteArray := prog_7_method_7_code
def yX5_run : MethodName := ⟨RX5, "run", "()V"⟩
abbrev cX5_push : ByteArray := prog_7_method_8_code
def yX5_push : MethodName := ⟨RX5, "push", "(IIIII)LWiringHouse$Frame;"⟩
abbrev cX5_pushRoot : ByteArray := prog_7_method_9_code
def yX5_pushRoot : MethodName := ⟨RX5, "pushRoot", "(III)V"⟩
abbrev cX5_pushCall : ByteArray := prog_7_method_10_code
def yX5_pushCall : MethodName := ⟨RX5, "pushCall", "(IIIII)V"⟩
abbrev cX5_pushClose : ByteArray := prog_7_method_11_code
def yX5_pushClose : MethodName := ⟨RX5, "pushClose", "(II)V"⟩
abbrev cX5_pushWork : ByteArray := prog_7_method_12_code
def yX5_pushWork : MethodName := ⟨RX5, "pushWork", "(LWiringHouse$Frame;II)LWiringHouse$Frame;"⟩
abbrev cX5_leave : ByteArray := prog_7_method_13_code
def yX5_leave : MethodName := ⟨RX5, "leave", "()V"⟩
abbrev cX5_answerWith : ByteArray := prog_7_method_14_code
def yX5_answerWith : MethodName := ⟨RX5, "answerWith", "(I)V"⟩
abbrev cX5_failWith : ByteArray := prog_7_method_15_code
def yX5_failWith : MethodName := ⟨RX5, "failWith", "(II)V"⟩
abbrev cX5_holdFailure : ByteArray := prog_7_method_16_code
def yX5_holdFailure : MethodName := ⟨RX5, "holdFailure", "(LWiringHouse$Frame;)V"⟩
abbrev cX5_firstKind : ByteArray := prog_7_method_17_code
def yX5_firstKind : MethodName := ⟨RX5, "firstKind", "(II)I"⟩
abbrev cX5_takesStep : ByteArray := prog_7_method_18_code
def yX5_takesStep : MethodName := ⟨RX5, "takesStep", "()Z"⟩
abbrev cX5_goOnGetting : ByteArray := prog_7_method_19_code
def yX5_goOnGetting : MethodName := ⟨RX5, "goOnGetting", "(LWiringHouse$Frame;)V"⟩
abbrev cX5_undoNext : ByteArray := prog_7_method_20_code
def yX5_undoNext : MethodName := ⟨RX5, "undoNext", "(LWiringHouse$Frame;)V"⟩
abbrev cX5_seek : ByteArray := prog_7_method_21_code
def yX5_seek : MethodName := ⟨RX5, "seek", "(III)V"⟩
abbrev cX5_beginMaking : ByteArray := prog_7_method_22_code
def yX5_beginMaking : MethodName := ⟨RX5, "beginMaking", "(IIIZ)V"⟩
abbrev cX5_goOnMaking : ByteArray := prog_7_method_23_code
def yX5_goOnMaking : MethodName := ⟨RX5, "goOnMaking", "(LWiringHouse$Frame;)V"⟩
abbrev cX5_nextCandidate : ByteArray := prog_7_method_24_code
def yX5_nextCandidate : MethodName := ⟨RX5, "nextCandidate", "(LWiringHouse$Frame;)I"⟩
abbrev cX5_finish : ByteArray := prog_7_method_25_code
def yX5_finish : MethodName := ⟨RX5, "finish", "(LWiringHouse$Frame;)V"⟩
abbrev cX5_abandon : ByteArray := prog_7_method_26_code
def yX5_abandon : MethodName := ⟨RX5, "abandon", "(LWiringHouse$Frame;)V"⟩
abbrev cX5_goOnCalling : ByteArray := prog_7_method_27_code
def yX5_goOnCalling : MethodName := ⟨RX5, "goOnCalling", "(LWiringHouse$Frame;)V"⟩
abbrev cX5_beginCalling : ByteArray := prog_7_method_28_code
def yX5_beginCalling : MethodName := ⟨RX5, "beginCalling", "(LWiringHouse$Frame;)V"⟩
abbrev cX5_pushInside : ByteArray := prog_7_method_29_code
def yX5_pushInside : MethodName := ⟨RX5, "pushInside", "(LWiringHouse$Frame;II)V"⟩
abbrev cX5_workWrap : ByteArray := prog_7_method_30_code
def yX5_workWrap : MethodName := ⟨RX5, "workWrap", "(LWiringHouse$Frame;II)LWiringHouse$Frame;"⟩
abbrev cX5_goOnInside : ByteArray := prog_7_method_31_code
def yX5_goOnInside : MethodName := ⟨RX5, "goOnInside", "(LWiringHouse$Frame;)V"⟩
abbrev cX5_beginInside : ByteArray := prog_7_method_32_code
def yX5_beginInside : MethodName := ⟨RX5, "beginInside", "(LWiringHouse$Frame;)V"⟩
abbrev cX5_nextBefore : ByteArray := prog_7_method_33_code
def yX5_nextBefore : MethodName := ⟨RX5, "nextBefore", "(LWiringHouse$Frame;)V"⟩
abbrev cX5_nextAfter : ByteArray := prog_7_method_34_code
def yX5_nextAfter : MethodName := ⟨RX5, "nextAfter", "(LWiringHouse$Frame;)V"⟩
abbrev cX5_goOnWorking : ByteArray := prog_7_method_35_code
def yX5_goOnWorking : MethodName := ⟨RX5, "goOnWorking", "(LWiringHouse$Frame;)V"⟩
abbrev cX5_endWork : ByteArray := prog_7_method_36_code
def yX5_endWork : MethodName := ⟨RX5, "endWork", "(LWiringHouse$Frame;)V"⟩
abbrev cX5_work : ByteArray := prog_7_method_37_code
def yX5_work : MethodName := ⟨RX5, "work", "(LWiringHouse$Frame;)V"⟩
abbrev cX5_worksAlone : ByteArray := prog_7_method_38_code
def yX5_worksAlone : MethodName := ⟨RX5, "worksAlone", "(LWiringHouse$Frame;I)Z"⟩
abbrev cX5_worksWith : ByteArray := prog_7_method_39_code
def yX5_worksWith : MethodName := ⟨RX5, "worksWith", "(LWiringHouse$Frame;I)Z"⟩
abbrev cX5_compute : ByteArray := prog_7_method_40_code
def yX5_compute : MethodName := ⟨RX5, "compute", "(III)I"⟩
abbrev cX5_put : ByteArray := prog_7_method_41_code
def yX5_put : MethodName := ⟨RX5, "put", "(I)V"⟩
abbrev cX5_pull : ByteArray := prog_7_method_42_code
def yX5_pull : MethodName := ⟨RX5, "pull", "()I"⟩
abbrev cX5_callNeed : ByteArray := prog_7_method_43_code
def yX5_callNeed : MethodName := ⟨RX5, "callNeed", "(LWiringHouse$Frame;)V"⟩
abbrev cX5_getLate : ByteArray := prog_7_method_44_code
def yX5_getLate : MethodName := ⟨RX5, "getLate", "(LWiringHouse$Frame;)V"⟩
abbrev cX5_takesAnswer : ByteArray := prog_7_method_45_code
def yX5_takesAnswer : MethodName := ⟨RX5, "takesAnswer", "(LWiringHouse$Frame;)Z"⟩
abbrev cX5_joinLate : ByteArray := prog_7_method_46_code
def yX5_joinLate : MethodName := ⟨RX5, "joinLate", "(LWiringHouse$Frame;I)V"⟩
abbrev cX5_goOnClosing : ByteArray := prog_7_method_47_code
def yX5_goOnClosing : MethodName := ⟨RX5, "goOnClosing", "(LWiringHouse$Frame;)V"⟩
def RX6 : String := "WiringHouse$Names"
def TX6 : u_T := fun k => match k with
  | 0 => ("WiringHouse$Names", "words", "[J", true)
  | _ => ("WiringHouse$Names", "size", "I", false)
def tyX6 : Nat → FieldType := fun k => match k with
  | 0 => .array .long
  | _ => .int
abbrev wsX60 : List Cond := u_ws RX6 TX6 2
theorem nmX6 : ∀ a, a < 2 → ∀ b, b < 2 → a ≠ b → (TX6 a).2.1 ≠ (TX6 b).2.1 := by decide +kernel
theorem tyX6_ok : ∀ k, k < 2 → parseFieldDescriptor (TX6 k).2.2.1 = some (tyX6 k) := by decide +kernel
abbrev cX6_init : ByteArray := prog_8_method_1_code
def yX6_init : MethodName := ⟨RX6, "<init>", "(I)V"⟩
abbrev cX6_find : ByteArray := prog_8_method_2_code
def yX6_find : MethodName := ⟨RX6, "find", "(J)I"⟩
abbrev cX6_isFull : ByteArray := prog_8_method_3_code
def yX6_isFull : MethodName := ⟨RX6, "isFull", "()Z"⟩
abbrev cX6_add : ByteArray := prog_8_method_4_code
def yX6_add : MethodName := ⟨RX6, "add", "(J)I"⟩
def RX7 : String := "WiringHouse$Notes"
def TX7 : u_T := fun k => match k with
  | 0 => ("WiringHouse$Notes", "thingKinds", "[I", true)
  | 1 => ("WiringHouse$Notes", "things", "[I", true)
  | 2 => ("WiringHouse$Notes", "thingArgs", "[I", true)
  | 3 => ("WiringHouse$Notes", "closings", "[I", true)
  | 4 => ("WiringHouse$Notes", "closingKinds", "[I", true)
  | 5 => ("WiringHouse$Notes", "thingCount", "I", false)
  | 6 => ("WiringHouse$Notes", "closingCount", "I", false)
  | 7 => ("WiringHouse$Notes", "causeNeeds", "I", false)
  | 8 => ("WiringHouse$Notes", "causeKind", "I", false)
  | _ => ("WiringHouse$Notes", "listening", "Z", false)
def tyX7 : Nat → FieldType := fun k => match k with
  | 0 => .array .int
  | 1 => .array .int
  | 2 => .array .int
  | 3 => .array .int
  | 4 => .array .int
  | 5 => .int
  | 6 => .int
  | 7 => .int
  | 8 => .int
  | _ => .boolean
abbrev wsX70 : List Cond := u_ws RX7 TX7 10
theorem nmX7 : ∀ a, a < 10 → ∀ b, b < 10 → a ≠ b → (TX7 a).2.1 ≠ (TX7 b).2.1 := by decide +kernel
theorem tyX7_ok : ∀ k, k < 10 → parseFieldDescriptor (TX7 k).2.2.1 = some (tyX7 k) := by decide +kernel
abbrev cX7_init : ByteArray := prog_9_method_1_code
def yX7_init : MethodName := ⟨RX7, "<init>", "()V"⟩
abbrev cX7_clear : ByteArray := prog_9_method_2_code
def yX7_clear : MethodName := ⟨RX7, "clear", "()V"⟩
abbrev cX7_forgetThings : ByteArray := prog_9_method_3_code
def yX7_forgetThings : MethodName := ⟨RX7, "forgetThings", "()V"⟩
abbrev cX7_noteThing : ByteArray := prog_9_method_4_code
def yX7_noteThing : MethodName := ⟨RX7, "noteThing", "(III)V"⟩
abbrev cX7_ofThing : ByteArray := prog_9_method_5_code
def yX7_ofThing : MethodName := ⟨RX7, "ofThing", "(II)I"⟩
abbrev cX7_noteClosing : ByteArray := prog_9_method_6_code
def yX7_noteClosing : MethodName := ⟨RX7, "noteClosing", "(II)V"⟩
abbrev cX7_ofClosing : ByteArray := prog_9_method_7_code
def yX7_ofClosing : MethodName := ⟨RX7, "ofClosing", "(II)I"⟩
abbrev cX7_noteCause : ByteArray := prog_9_method_8_code
def yX7_noteCause : MethodName := ⟨RX7, "noteCause", "(II)V"⟩
abbrev cX7_kindOfCause : ByteArray := prog_9_method_9_code
def yX7_kindOfCause : MethodName := ⟨RX7, "kindOfCause", "(I)I"⟩
def RX8 : String := "WiringHouse$Stock"
def TX8 : u_T := fun k => match k with
  | 0 => ("WiringHouse$Stock", "scopeKinds", "[I", true)
  | 1 => ("WiringHouse$Stock", "days", "[I", true)
  | 2 => ("WiringHouse$Stock", "isOpened", "[Z", true)
  | 3 => ("WiringHouse$Stock", "spoils", "[I", true)
  | 4 => ("WiringHouse$Stock", "present", "[I", true)
  | 5 => ("WiringHouse$Stock", "components", "[I", true)
  | 6 => ("WiringHouse$Stock", "places", "[I", true)
  | 7 => ("WiringHouse$Stock", "states", "[I", true)
  | 8 => ("WiringHouse$Stock", "ends", "[I", true)
  | 9 => ("WiringHouse$Stock", "chains", "[I", true)
  | 10 => ("WiringHouse$Stock", "links", "[I", false)
  | 11 => ("WiringHouse$Stock", "nextLinks", "[I", false)
  | 12 => ("WiringHouse$Stock", "scopeCount", "I", false)
  | 13 => ("WiringHouse$Stock", "objectCount", "I", false)
  | 14 => ("WiringHouse$Stock", "endCount", "I", false)
  | _ => ("WiringHouse$Stock", "linkCount", "I", false)
def tyX8 : Nat → FieldType := fun k => match k with
  | 0 => .array .int
  | 1 => .array .int
  | 2 => .array .boolean
  | 3 => .array .int
  | 4 => .array .int
  | 5 => .array .int
  | 6 => .array .int
  | 7 => .array .int
  | 8 => .array .int
  | 9 => .array .int
  | 10 => .array .int
  | 11 => .array .int
  | 12 => .int
  | 13 => .int
  | 14 => .int
  | _ => .int
abbrev wsX80 : List Cond := u_ws RX8 TX8 16
theorem nmX8 : ∀ a, a < 16 → ∀ b, b < 16 → a ≠ b → (TX8 a).2.1 ≠ (TX8 b).2.1 := by decide +kernel
theorem tyX8_ok : ∀ k, k < 16 → parseFieldDescriptor (TX8 k).2.2.1 = some (tyX8 k) := by decide +kernel
abbrev cX8_init : ByteArray := prog_10_method_1_code
def yX8_init : MethodName := ⟨RX8, "<init>", "()V"⟩
abbrev cX8_clear : ByteArray := prog_10_method_2_code
def yX8_clear : MethodName := ⟨RX8, "clear", "()V"⟩
abbrev cX8_isOpen : ByteArray := prog_10_method_3_code
def yX8_isOpen : MethodName := ⟨RX8, "isOpen", "(I)Z"⟩
abbrev cX8_open : ByteArray := prog_10_method_4_code
def yX8_open : MethodName := ⟨RX8, "open", "(II)I"⟩
abbrev cX8_openScopes : ByteArray := prog_10_method_5_code
def yX8_openScopes : MethodName := ⟨RX8, "openScopes", "()I"⟩
abbrev cX8_innermost : ByteArray := prog_10_method_6_code
def yX8_innermost : MethodName := ⟨RX8, "innermost", "(I)I"⟩
abbrev cX8_latestOpen : ByteArray := prog_10_method_7_code
def yX8_latestOpen : MethodName := ⟨RX8, "latestOpen", "(II)I"⟩
abbrev cX8_shut : ByteArray := prog_10_method_8_code
def yX8_shut : MethodName := ⟨RX8, "shut", "(I)V"⟩
abbrev cX8_reopenHouse : ByteArray := prog_10_method_9_code
def yX8_reopenHouse : MethodName := ⟨RX8, "reopenHouse", "()V"⟩
abbrev cX8_placeOf : ByteArray := prog_10_method_10_code
def yX8_placeOf : MethodName := ⟨RX8, "placeOf", "(II)I"⟩
abbrev cX8_isSpoiled : ByteArray := prog_10_method_11_code
def yX8_isSpoiled : MethodName := ⟨RX8, "isSpoiled", "(II)Z"⟩
abbrev cX8_spoil : ByteArray := prog_10_method_12_code
def yX8_spoil : MethodName := ⟨RX8, "spoil", "(II)V"⟩
abbrev cX8_has : ByteArray := prog_10_method_13_code
def yX8_has : MethodName := ⟨RX8, "has", "(I)Z"⟩
abbrev cX8_isMade : ByteArray := prog_10_method_14_code
def yX8_isMade : MethodName := ⟨RX8, "isMade", "(I)Z"⟩
abbrev cX8_componentOf : ByteArray := prog_10_method_15_code
def yX8_componentOf : MethodName := ⟨RX8, "componentOf", "(I)I"⟩
abbrev cX8_objectAt : ByteArray := prog_10_method_16_code
def yX8_objectAt : MethodName := ⟨RX8, "objectAt", "(II)I"⟩
abbrev cX8_beginObject : ByteArray := prog_10_method_17_code
def yX8_beginObject : MethodName := ⟨RX8, "beginObject", "(IIZ)I"⟩
abbrev cX8_finishObject : ByteArray := prog_10_method_18_code
def yX8_finishObject : MethodName := ⟨RX8, "finishObject", "(I)V"⟩
abbrev cX8_dropObject : ByteArray := prog_10_method_19_code
def yX8_dropObject : MethodName := ⟨RX8, "dropObject", "(I)V"⟩
abbrev cX8_madeObjects : ByteArray := prog_10_method_20_code
def yX8_madeObjects : MethodName := ⟨RX8, "madeObjects", "()I"⟩
abbrev cX8_latestMade : ByteArray := prog_10_method_21_code
def yX8_latestMade : MethodName := ⟨RX8, "latestMade", "(I)I"⟩
abbrev cX8_join : ByteArray := prog_10_method_22_code
def yX8_join : MethodName := ⟨RX8, "join", "(III)V"⟩
abbrev cX8_joinedTo : ByteArray := prog_10_method_23_code
def yX8_joinedTo : MethodName := ⟨RX8, "joinedTo", "(III)I"⟩
def RX9 : String := "WiringHouse$Tape"
def TX9 : u_T := fun k => match k with
  | 0 => ("WiringHouse$Tape", "signs", "[B", true)
  | 1 => ("WiringHouse$Tape", "keywords", "[J", true)
  | 2 => ("WiringHouse$Tape", "kinds", "[I", true)
  | 3 => ("WiringHouse$Tape", "starts", "[I", true)
  | 4 => ("WiringHouse$Tape", "values", "[J", true)
  | 5 => ("WiringHouse$Tape", "length", "I", false)
  | 6 => ("WiringHouse$Tape", "position", "I", false)
  | 7 => ("WiringHouse$Tape", "tokens", "I", false)
  | 8 => ("WiringHouse$Tape", "looking", "I", false)
  | 9 => ("WiringHouse$Tape", "kind", "I", false)
  | 10 => ("WiringHouse$Tape", "start", "I", false)
  | _ => ("WiringHouse$Tape", "value", "J", false)
def tyX9 : Nat → FieldType := fun k => match k with
  | 0 => .array .byte
  | 1 => .array .long
  | 2 => .array .int
  | 3 => .array .int
  | 4 => .array .long
  | 5 => .int
  | 6 => .int
  | 7 => .int
  | 8 => .int
  | 9 => .int
  | 10 => .int
  | _ => .long
abbrev wsX90 : List Cond := u_ws RX9 TX9 12
theorem nmX9 : ∀ a, a < 12 → ∀ b, b < 12 → a ≠ b → (TX9 a).2.1 ≠ (TX9 b).2.1 := by decide +kernel
theorem tyX9_ok : ∀ k, k < 12 → parseFieldDescriptor (TX9 k).2.2.1 = some (tyX9 k) := by decide +kernel
abbrev cX9_init : ByteArray := prog_11_method_1_code
def yX9_init : MethodName := ⟨RX9, "<init>", "()V"⟩
abbrev cX9_append : ByteArray := prog_11_method_2_code
def yX9_append : MethodName := ⟨RX9, "append", "(J)V"⟩
abbrev cX9_empty : ByteArray := prog_11_method_3_code
def yX9_empty : MethodName := ⟨RX9, "empty", "()V"⟩
abbrev cX9_begin : ByteArray := prog_11_method_4_code
def yX9_begin : MethodName := ⟨RX9, "begin", "()V"⟩
abbrev cX9_next : ByteArray := prog_11_method_5_code
def yX9_next : MethodName := ⟨RX9, "next", "()V"⟩
abbrev cX9_cut : ByteArray := prog_11_method_6_code
def yX9_cut : MethodName := ⟨RX9, "cut", "()V"⟩
abbrev cX9_cutNumber : ByteArray := prog_11_method_7_code
def yX9_cutNumber : MethodName := ⟨RX9, "cutNumber", "()V"⟩
abbrev cX9_cutWord : ByteArray := prog_11_method_8_code
def yX9_cutWord : MethodName := ⟨RX9, "cutWord", "()V"⟩
abbrev cX9_kindOf : ByteArray := prog_11_method_9_code
def yX9_kindOf : MethodName := ⟨RX9, "kindOf", "(J)I"⟩
abbrev cX9_codeOf : ByteArray := prog_11_method_10_code
def yX9_codeOf : MethodName := ⟨RX9, "codeOf", "(I)I"⟩
abbrev cX9_isDigit : ByteArray := prog_11_method_11_code
def yX9_isDigit : MethodName := ⟨RX9, "isDigit", "(I)Z"⟩
abbrev cX9_isLetter : ByteArray := prog_11_method_12_code
def yX9_isLetter : MethodName := ⟨RX9, "isLetter", "(I)Z"⟩
def RX10 : String := "WiringHouse$Wrap"
def TX10 : u_T := fun k => match k with
  | 0 => ("WiringHouse$Wrap", "type", "I", false)
  | 1 => ("WiringHouse$Wrap", "method", "I", false)
  | 2 => ("WiringHouse$Wrap", "number", "I", false)
  | 3 => ("WiringHouse$Wrap", "phase", "I", false)
  | _ => ("WiringHouse$Wrap", "start", "I", false)
def tyX10 : Nat → FieldType := fun k => match k with
  | 0 => .int
  | 1 => .int
  | 2 => .int
  | 3 => .int
  | _ => .int
abbrev wsX100 : List Cond := u_ws RX10 TX10 5
theorem nmX10 : ∀ a, a < 5 → ∀ b, b < 5 → a ≠ b → (TX10 a).2.1 ≠ (TX10 b).2.1 := by decide +kernel
theorem tyX10_ok : ∀ k, k < 5 → parseFieldDescriptor (TX10 k).2.2.1 = some (tyX10 k) := by decide +kernel
abbrev cX10_init : ByteArray := prog_12_method_1_code
def yX10_init : MethodName := ⟨RX10, "<init>", "()V"⟩
def RX11 : String := "WiringHouse"
def TX11 : u_T := fun k => match k with
  | 0 => ("WiringHouse", "tape", "LWiringHouse$Tape;", true)
  | 1 => ("WiringHouse", "reader", "LWiringHouse$BookReader;", true)
  | 2 => ("WiringHouse", "checker", "LWiringHouse$Checker;", true)
  | 3 => ("WiringHouse", "stock", "LWiringHouse$Stock;", true)
  | 4 => ("WiringHouse", "notes", "LWiringHouse$Notes;", true)
  | 5 => ("WiringHouse", "machine", "LWiringHouse$Machine;", true)
  | 6 => ("WiringHouse", "shelf", "LWiringHouse$Book;", false)
  | 7 => ("WiringHouse", "spare", "LWiringHouse$Book;", false)
  | 8 => ("WiringHouse", "ready", "Z", false)
  | _ => ("WiringHouse", "ending", "I", false)
def tyX11 : Nat → FieldType := fun k => match k with
  | 0 => .object "WiringHouse$Tape"
  | 1 => .object "WiringHouse$BookReader"
  | 2 => .object "WiringHouse$Checker"
  | 3 => .object "WiringHouse$Stock"
  | 4 => .object "WiringHouse$Notes"
  | 5 => .object "WiringHouse$Machine"
  | 6 => .object "WiringHouse$Book"
  | 7 => .object "WiringHouse$Book"
  | 8 => .boolean
  | _ => .int
abbrev wsX110 : List Cond := u_ws RX11 TX11 10
theorem nmX11 : ∀ a, a < 10 → ∀ b, b < 10 → a ≠ b → (TX11 a).2.1 ≠ (TX11 b).2.1 := by decide +kernel
theorem tyX11_ok : ∀ k, k < 10 → parseFieldDescriptor (TX11 k).2.2.1 = some (tyX11 k) := by decide +kernel
abbrev cX11_init : ByteArray := prog_1_method_1_code
def yX11_init : MethodName := ⟨RX11, "<init>", "()V"⟩
abbrev cX11_feed : ByteArray := prog_1_method_2_code
def yX11_feed : MethodName := ⟨RX11, "feed", "(JJJ)I"⟩
abbrev cX11_book : ByteArray := prog_1_method_3_code
def yX11_book : MethodName := ⟨RX11, "book", "()I"⟩
abbrev cX11_named : ByteArray := prog_1_method_4_code
def yX11_named : MethodName := ⟨RX11, "named", "(I)I"⟩
abbrev cX11_setting : ByteArray := prog_1_method_5_code
def yX11_setting : MethodName := ⟨RX11, "setting", "(II)Z"⟩
abbrev cX11_check : ByteArray := prog_1_method_6_code
def yX11_check : MethodName := ⟨RX11, "check", "()I"⟩
abbrev cX11_fault : ByteArray := prog_1_method_7_code
def yX11_fault : MethodName := ⟨RX11, "fault", "(II)I"⟩
abbrev cX11_cycle : ByteArray := prog_1_method_8_code
def yX11_cycle : MethodName := ⟨RX11, "cycle", "(II)I"⟩
abbrev cX11_component : ByteArray := prog_1_method_9_code
def yX11_component : MethodName := ⟨RX11, "component", "(II)I"⟩
abbrev cX11_candidate : ByteArray := prog_1_method_10_code
def yX11_candidate : MethodName := ⟨RX11, "candidate", "(III)I"⟩
abbrev cX11_day : ByteArray := prog_1_method_11_code
def yX11_day : MethodName := ⟨RX11, "day", "()I"⟩
abbrev cX11_meal : ByteArray := prog_1_method_12_code
def yX11_meal : MethodName := ⟨RX11, "meal", "(I)I"⟩
abbrev cX11_get : ByteArray := prog_1_method_13_code
def yX11_get : MethodName := ⟨RX11, "get", "(II)I"⟩
abbrev cX11_call : ByteArray := prog_1_method_14_code
def yX11_call : MethodName := ⟨RX11, "call", "(IIII)I"⟩
abbrev cX11_close : ByteArray := prog_1_method_15_code
def yX11_close : MethodName := ⟨RX11, "close", "(I)I"⟩
abbrev cX11_outcome : ByteArray := prog_1_method_16_code
def yX11_outcome : MethodName := ⟨RX11, "outcome", "()I"⟩
abbrev cX11_cause : ByteArray := prog_1_method_17_code
def yX11_cause : MethodName := ⟨RX11, "cause", "(I)I"⟩
abbrev cX11_object : ByteArray := prog_1_method_18_code
def yX11_object : MethodName := ⟨RX11, "object", "(II)I"⟩
abbrev cX11_joined : ByteArray := prog_1_method_19_code
def yX11_joined : MethodName := ⟨RX11, "joined", "(III)I"⟩
abbrev cX11_closed : ByteArray := prog_1_method_20_code
def yX11_closed : MethodName := ⟨RX11, "closed", "(II)I"⟩
abbrev cX11_spoiled : ByteArray := prog_1_method_21_code
def yX11_spoiled : MethodName := ⟨RX11, "spoiled", "(II)I"⟩
abbrev cX11_did : ByteArray := prog_1_method_22_code
def yX11_did : MethodName := ⟨RX11, "did", "(II)I"⟩
abbrev cX11_count : ByteArray := prog_1_method_23_code
def yX11_count : MethodName := ⟨RX11, "count", "(I)I"⟩
abbrev cX11_ends : ByteArray := prog_1_method_24_code
def yX11_ends : MethodName := ⟨RX11, "ends", "(II)I"⟩
def RX12 : String := "WiringHouseModel"
def TX12 : u_T := fun k => match k with
  | 0 => ("WiringHouseModel", "thrown", "I", false)
  | 1 => ("WiringHouseModel", "tape", "[I", true)
  | 2 => ("WiringHouseModel", "taped", "I", false)
  | 3 => ("WiringHouseModel", "size", "I", false)
  | 4 => ("WiringHouseModel", "sort", "[I", true)
  | 5 => ("WiringHouseModel", "place", "[I", true)
  | 6 => ("WiringHouseModel", "word", "[J", true)
  | 7 => ("WiringHouseModel", "at", "I", false)
  | 8 => ("WiringHouseModel", "fault", "I", false)
  | 9 => ("WiringHouseModel", "keys", "Ljava/lang/String;", true)
  | 10 => ("WiringHouseModel", "words", "[J", true)
  | 11 => ("WiringHouseModel", "now", "I", false)
  | 12 => ("WiringHouseModel", "next", "I", false)
  | 13 => ("WiringHouseModel", "types", "[I", true)
  | 14 => ("WiringHouseModel", "typeName", "[J", true)
  | 15 => ("WiringHouseModel", "typeIs", "[Z", true)
  | 16 => ("WiringHouseModel", "settings", "[I", true)
  | 17 => ("WiringHouseModel", "settingName", "[J", true)
  | 18 => ("WiringHouseModel", "settingValue", "[I", true)
  | 19 => ("WiringHouseModel", "components", "[I", true)
  | 20 => ("WiringHouseModel", "componentName", "[J", true)
  | 21 => ("WiringHouseModel", "componentIs", "[Z", true)
  | 22 => ("WiringHouseModel", "scopeOf", "[I", true)
  | 23 => ("WiringHouseModel", "calledOf", "[I", true)
  | 24 => ("WiringHouseModel", "rankOf", "[I", true)
  | 25 => ("WiringHouseModel", "whenOf", "[I", true)
  | 26 => ("WiringHouseModel", "whenIs", "[I", true)
  | 27 => ("WiringHouseModel", "needs", "[I", true)
  | 28 => ("WiringHouseModel", "needType", "[I", true)
  | 29 => ("WiringHouseModel", "needLate", "[Z", true)
  | 30 => ("WiringHouseModel", "needAll", "[Z", true)
  | 31 => ("WiringHouseModel", "needCalled", "[I", true)
  | 32 => ("WiringHouseModel", "openedAt", "[I", true)
  | 33 => ("WiringHouseModel", "closedAt", "[I", true)
  | 34 => ("WiringHouseModel", "methodAt", "[I", true)
  | 35 => ("WiringHouseModel", "methods", "[I", true)
  | 36 => ("WiringHouseModel", "methodName", "[J", true)
  | 37 => ("WiringHouseModel", "calls", "[I", true)
  | 38 => ("WiringHouseModel", "callName", "[J", true)
  | 39 => ("WiringHouseModel", "wraps", "[I", true)
  | 40 => ("WiringHouseModel", "wrapType", "[I", true)
  | 41 => ("WiringHouseModel", "wrapMethod", "[I", true)
  | 42 => ("WiringHouseModel", "wrapNumber", "[I", true)
  | 43 => ("WiringHouseModel", "wrapPhase", "[I", true)
  | 44 => ("WiringHouseModel", "wrapAt", "[I", true)
  | 45 => ("WiringHouseModel", "op", "[I", true)
  | 46 => ("WiringHouseModel", "one", "[I", true)
  | 47 => ("WiringHouseModel", "two", "[I", true)
  | 48 => ("WiringHouseModel", "codes", "I", false)
  | 49 => ("WiringHouseModel", "codesFrom", "I", false)
  | 50 => ("WiringHouseModel", "deep", "I", false)
  | 51 => ("WiringHouseModel", "inComponent", "I", false)
  | 52 => ("WiringHouseModel", "inAround", "Z", false)
  | 53 => ("WiringHouseModel", "listed", "[I", true)
  | 54 => ("WiringHouseModel", "isReady", "Z", false)
  | 55 => ("WiringHouseModel", "scopes", "I", false)
  | 56 => ("WiringHouseModel", "isOpen", "[Z", true)
  | 57 => ("WiringHouseModel", "scopeKind", "[I", true)
  | 58 => ("WiringHouseModel", "dayOf", "[I", true)
  | 59 => ("WiringHouseModel", "spoilt", "[Z", true)
  | 60 => ("WiringHouseModel", "objects", "I", false)
  | 61 => ("WiringHouseModel", "objectOf", "[I", true)
  | 62 => ("WiringHouseModel", "objectIn", "[I", true)
  | 63 => ("WiringHouseModel", "state", "[I", true)
  | 64 => ("WiringHouseModel", "madeAt", "[I", true)
  | 65 => ("WiringHouseModel", "makings", "I", false)
  | 66 => ("WiringHouseModel", "joins", "[I", true)
  | 67 => ("WiringHouseModel", "joinedTo", "[I", true)
  | 68 => ("WiringHouseModel", "steps", "I", false)
  | 69 => ("WiringHouseModel", "latest", "I", false)
  | 70 => ("WiringHouseModel", "outcome", "I", false)
  | 71 => ("WiringHouseModel", "causeTwenties", "I", false)
  | 72 => ("WiringHouseModel", "causeKind", "I", false)
  | 73 => ("WiringHouseModel", "closeds", "I", false)
  | 74 => ("WiringHouseModel", "closedWhich", "[I", true)
  | 75 => ("WiringHouseModel", "closedKind", "[I", true)
  | 76 => ("WiringHouseModel", "dids", "I", false)
  | 77 => ("WiringHouseModel", "didWhat", "[I", true)
  | 78 => ("WiringHouseModel", "didWhich", "[I", true)
  | 79 => ("WiringHouseModel", "didArg", "[I", true)
  | 80 => ("WiringHouseModel", "candidates", "[I", true)
  | 81 => ("WiringHouseModel", "faults", "I", false)
  | 82 => ("WiringHouseModel", "faultKind", "[I", true)
  | 83 => ("WiringHouseModel", "faultOf", "[I", true)
  | 84 => ("WiringHouseModel", "faultNeed", "[I", true)
  | 85 => ("WiringHouseModel", "cycles", "[I", true)
  | 86 => ("WiringHouseModel", "isWrong", "[Z", true)
  | 87 => ("WiringHouseModel", "visit", "[I", true)
  | 88 => ("WiringHouseModel", "way", "[I", true)
  | 89 => ("WiringHouseModel", "wayMany", "I", false)
  | 90 => ("WiringHouseModel", "twenties", "I", false)
  | 91 => ("WiringHouseModel", "kind", "I", false)
  | 92 => ("WiringHouseModel", "got", "I", false)
  | 93 => ("WiringHouseModel", "within", "I", false)
  | 94 => ("WiringHouseModel", "fresh", "[I", true)
  | 95 => ("WiringHouseModel", "freshMany", "I", false)
  | 96 => ("WiringHouseModel", "value", "I", false)
  | 97 => ("WiringHouseModel", "pile", "[I", true)
  | 98 => ("WiringHouseModel", "top", "I", false)
  | _ => ("WiringHouseModel", "isSpent", "Z", false)
def tyX12 : Nat → FieldType := fun k => match k with
  | 0 => .int
  | 1 => .array .int
  | 2 => .int
  | 3 => .int
  | 4 => .array .int
  | 5 => .array .int
  | 6 => .array .long
  | 7 => .int
  | 8 => .int
  | 9 => .object "java/lang/String"
  | 10 => .array .long
  | 11 => .int
  | 12 => .int
  | 13 => .array .int
  | 14 => .array .long
  | 15 => .array .boolean
  | 16 => .array .int
  | 17 => .array .long
  | 18 => .array .int
  | 19 => .array .int
  | 20 => .array .long
  | 21 => .array .boolean
  | 22 => .array .int
  | 23 => .array .int
  | 24 => .array .int
  | 25 => .array .int
  | 26 => .array .int
  | 27 => .array .int
  | 28 => .array .int
  | 29 => .array .boolean
  | 30 => .array .boolean
  | 31 => .array .int
  | 32 => .array .int
  | 33 => .array .int
  | 34 => .array .int
  | 35 => .array .int
  | 36 => .array .long
  | 37 => .array .int
  | 38 => .array .long
  | 39 => .array .int
  | 40 => .array .int
  | 41 => .array .int
  | 42 => .array .int
  | 43 => .array .int
  | 44 => .array .int
  | 45 => .array .int
  | 46 => .array .int
  | 47 => .array .int
  | 48 => .int
  | 49 => .int
  | 50 => .int
  | 51 => .int
  | 52 => .boolean
  | 53 => .array .int
  | 54 => .boolean
  | 55 => .int
  | 56 => .array .boolean
  | 57 => .array .int
  | 58 => .array .int
  | 59 => .array .boolean
  | 60 => .int
  | 61 => .array .int
  | 62 => .array .int
  | 63 => .array .int
  | 64 => .array .int
  | 65 => .int
  | 66 => .array .int
  | 67 => .array .int
  | 68 => .int
  | 69 => .int
  | 70 => .int
  | 71 => .int
  | 72 => .int
  | 73 => .int
  | 74 => .array .int
  | 75 => .array .int
  | 76 => .int
  | 77 => .array .int
  | 78 => .array .int
  | 79 => .array .int
  | 80 => .array .int
  | 81 => .int
  | 82 => .array .int
  | 83 => .array .int
  | 84 => .array .int
  | 85 => .array .int
  | 86 => .array .boolean
  | 87 => .array .int
  | 88 => .array .int
  | 89 => .int
  | 90 => .int
  | 91 => .int
  | 92 => .int
  | 93 => .int
  | 94 => .array .int
  | 95 => .int
  | 96 => .int
  | 97 => .array .int
  | 98 => .int
  | _ => .boolean
abbrev wsX120 : List Cond := u_ws RX12 TX12 100
theorem nmX12 : ∀ a, a < 100 → ∀ b, b < 100 → a ≠ b → (TX12 a).2.1 ≠ (TX12 b).2.1 := by decide +kernel
theorem tyX12_ok : ∀ k, k < 100 → parseFieldDescriptor (TX12 k).2.2.1 = some (tyX12 k) := by decide +kernel
abbrev cX12_feed : ByteArray := prog_14_method_2_code
def yX12_feed : MethodName := ⟨RX12, "feed", "(JJJ)I"⟩
abbrev cX12_lay : ByteArray := prog_14_method_3_code
def yX12_lay : MethodName := ⟨RX12, "lay", "(J)V"⟩
abbrev cX12_init : ByteArray := prog_14_method_4_code
def yX12_init : MethodName := ⟨RX12, "<init>", "()V"⟩
abbrev cX12_isLetter : ByteArray := prog_14_method_5_code
def yX12_isLetter : MethodName := ⟨RX12, "isLetter", "(I)Z"⟩
abbrev cX12_isDigit : ByteArray := prog_14_method_6_code
def yX12_isDigit : MethodName := ⟨RX12, "isDigit", "(I)Z"⟩
abbrev cX12_rank : ByteArray := prog_14_method_7_code
def yX12_rank : MethodName := ⟨RX12, "rank", "(I)I"⟩
abbrev cX12_isSignOf : ByteArray := prog_14_method_8_code
def yX12_isSignOf : MethodName := ⟨RX12, "isSignOf", "(I)Z"⟩
abbrev cX12_cutAll : ByteArray := prog_14_method_9_code
def yX12_cutAll : MethodName := ⟨RX12, "cutAll", "()V"⟩
abbrev cX12_wrong : ByteArray := prog_14_method_10_code
def yX12_wrong : MethodName := ⟨RX12, "wrong", "(I)V"⟩
abbrev cX12_isSign : ByteArray := prog_14_method_11_code
def yX12_isSign : MethodName := ⟨RX12, "isSign", "(I)Z"⟩
abbrev cX12_isWord : ByteArray := prog_14_method_12_code
def yX12_isWord : MethodName := ⟨RX12, "isWord", "(I)Z"⟩
abbrev cX12_takeSign : ByteArray := prog_14_method_13_code
def yX12_takeSign : MethodName := ⟨RX12, "takeSign", "(I)V"⟩
abbrev cX12_hasSign : ByteArray := prog_14_method_14_code
def yX12_hasSign : MethodName := ⟨RX12, "hasSign", "(I)Z"⟩
abbrev cX12_hasWord : ByteArray := prog_14_method_15_code
def yX12_hasWord : MethodName := ⟨RX12, "hasWord", "(I)Z"⟩
abbrev cX12_takeWord : ByteArray := prog_14_method_16_code
def yX12_takeWord : MethodName := ⟨RX12, "takeWord", "(I)V"⟩
abbrev cX12_isName : ByteArray := prog_14_method_17_code
def yX12_isName : MethodName := ⟨RX12, "isName", "()Z"⟩
abbrev cX12_takeNumber : ByteArray := prog_14_method_18_code
def yX12_takeNumber : MethodName := ⟨RX12, "takeNumber", "(II)I"⟩
abbrev cX12_oneOf : ByteArray := prog_14_method_19_code
def yX12_oneOf : MethodName := ⟨RX12, "oneOf", "(II)I"⟩
abbrev cX12_find : ByteArray := prog_14_method_20_code
def yX12_find : MethodName := ⟨RX12, "find", "([JIIJ)I"⟩
abbrev cX12_book : ByteArray := prog_14_method_21_code
def yX12_book : MethodName := ⟨RX12, "book", "()I"⟩
abbrev cX12_begins : ByteArray := prog_14_method_22_code
def yX12_begins : MethodName := ⟨RX12, "begins", "(Z)V"⟩
abbrev cX12_newName : ByteArray := prog_14_method_23_code
def yX12_newName : MethodName := ⟨RX12, "newName", "()J"⟩
abbrev cX12_named : ByteArray := prog_14_method_24_code
def yX12_named : MethodName := ⟨RX12, "named", "([JII)I"⟩
abbrev cX12_takeType : ByteArray := prog_14_method_25_code
def yX12_takeType : MethodName := ⟨RX12, "takeType", "()I"⟩
abbrev cX12_takeWordOf : ByteArray := prog_14_method_26_code
def yX12_takeWordOf : MethodName := ⟨RX12, "takeWordOf", "([J[I)I"⟩
abbrev cX12_takeTypes : ByteArray := prog_14_method_27_code
def yX12_takeTypes : MethodName := ⟨RX12, "takeTypes", "([ZI)V"⟩
abbrev cX12_toldType : ByteArray := prog_14_method_28_code
def yX12_toldType : MethodName := ⟨RX12, "toldType", "()V"⟩
abbrev cX12_toldSetting : ByteArray := prog_14_method_29_code
def yX12_toldSetting : MethodName := ⟨RX12, "toldSetting", "()V"⟩
abbrev cX12_toldComponent : ByteArray := prog_14_method_30_code
def yX12_toldComponent : MethodName := ⟨RX12, "toldComponent", "()V"⟩
abbrev cX12_member : ByteArray := prog_14_method_31_code
def yX12_member : MethodName := ⟨RX12, "member", "(I)V"⟩
abbrev cX12_takeNeed : ByteArray := prog_14_method_32_code
def yX12_takeNeed : MethodName := ⟨RX12, "takeNeed", "(I)V"⟩
abbrev cX12_toldWrap : ByteArray := prog_14_method_33_code
def yX12_toldWrap : MethodName := ⟨RX12, "toldWrap", "()V"⟩
abbrev cX12_emit : ByteArray := prog_14_method_34_code
def yX12_emit : MethodName := ⟨RX12, "emit", "(III)I"⟩
abbrev cX12_code : ByteArray := prog_14_method_35_code
def yX12_code : MethodName := ⟨RX12, "code", "()I"⟩
abbrev cX12_expression : ByteArray := prog_14_method_36_code
def yX12_expression : MethodName := ⟨RX12, "expression", "()V"⟩
abbrev cX12_sum : ByteArray := prog_14_method_37_code
def yX12_sum : MethodName := ⟨RX12, "sum", "()V"⟩
abbrev cX12_product : ByteArray := prog_14_method_38_code
def yX12_product : MethodName := ⟨RX12, "product", "()V"⟩
abbrev cX12_isPart : ByteArray := prog_14_method_39_code
def yX12_isPart : MethodName := ⟨RX12, "isPart", "()Z"⟩
abbrev cX12_part : ByteArray := prog_14_method_40_code
def yX12_part : MethodName := ⟨RX12, "part", "()V"⟩
abbrev cX12_partWithin : ByteArray := prog_14_method_41_code
def yX12_partWithin : MethodName := ⟨RX12, "partWithin", "()V"⟩
abbrev cX12_bracketed : ByteArray := prog_14_method_42_code
def yX12_bracketed : MethodName := ⟨RX12, "bracketed", "()V"⟩
abbrev cX12_pick : ByteArray := prog_14_method_43_code
def yX12_pick : MethodName := ⟨RX12, "pick", "()V"⟩
abbrev cX12_forget : ByteArray := prog_14_method_44_code
def yX12_forget : MethodName := ⟨RX12, "forget", "()V"⟩
abbrev cX12_isThere : ByteArray := prog_14_method_45_code
def yX12_isThere : MethodName := ⟨RX12, "isThere", "(I)Z"⟩
abbrev cX12_suits : ByteArray := prog_14_method_46_code
def yX12_suits : MethodName := ⟨RX12, "suits", "(II)Z"⟩
abbrev cX12_candidatesOf : ByteArray := prog_14_method_47_code
def yX12_candidatesOf : MethodName := ⟨RX12, "candidatesOf", "(I)I"⟩
abbrev cX12_addFault : ByteArray := prog_14_method_48_code
def yX12_addFault : MethodName := ⟨RX12, "addFault", "(III)V"⟩
abbrev cX12_longness : ByteArray := prog_14_method_49_code
def yX12_longness : MethodName := ⟨RX12, "longness", "(I)I"⟩
abbrev cX12_check : ByteArray := prog_14_method_50_code
def yX12_check : MethodName := ⟨RX12, "check", "()I"⟩
abbrev cX12_checkNeed : ByteArray := prog_14_method_51_code
def yX12_checkNeed : MethodName := ⟨RX12, "checkNeed", "(II)V"⟩
abbrev cX12_visits : ByteArray := prog_14_method_52_code
def yX12_visits : MethodName := ⟨RX12, "visits", "(I)V"⟩
abbrev cX12_isCandidate : ByteArray := prog_14_method_53_code
def yX12_isCandidate : MethodName := ⟨RX12, "isCandidate", "(II)Z"⟩
abbrev cX12_addCycle : ByteArray := prog_14_method_54_code
def yX12_addCycle : MethodName := ⟨RX12, "addCycle", "(I)V"⟩
abbrev cX12_fault : ByteArray := prog_14_method_55_code
def yX12_fault : MethodName := ⟨RX12, "fault", "(II)I"⟩
abbrev cX12_cycle : ByteArray := prog_14_method_56_code
def yX12_cycle : MethodName := ⟨RX12, "cycle", "(II)I"⟩
abbrev cX12_fails : ByteArray := prog_14_method_57_code
def yX12_fails : MethodName := ⟨RX12, "fails", "(I)I"⟩
abbrev cX12_step : ByteArray := prog_14_method_58_code
def yX12_step : MethodName := ⟨RX12, "step", "()Z"⟩
abbrev cX12_placeOf : ByteArray := prog_14_method_59_code
def yX12_placeOf : MethodName := ⟨RX12, "placeOf", "(II)I"⟩
abbrev cX12_objectAt : ByteArray := prog_14_method_60_code
def yX12_objectAt : MethodName := ⟨RX12, "objectAt", "(II)I"⟩
abbrev cX12_gets : ByteArray := prog_14_method_61_code
def yX12_gets : MethodName := ⟨RX12, "gets", "(II)I"⟩
abbrev cX12_makes : ByteArray := prog_14_method_62_code
def yX12_makes : MethodName := ⟨RX12, "makes", "(IIZ)I"⟩
abbrev cX12_joinsAll : ByteArray := prog_14_method_63_code
def yX12_joinsAll : MethodName := ⟨RX12, "joinsAll", "(III)I"⟩
abbrev cX12_getsWhole : ByteArray := prog_14_method_64_code
def yX12_getsWhole : MethodName := ⟨RX12, "getsWhole", "(II)I"⟩
abbrev cX12_closes : ByteArray := prog_14_method_65_code
def yX12_closes : MethodName := ⟨RX12, "closes", "(I)Z"⟩
abbrev cX12_notes : ByteArray := prog_14_method_66_code
def yX12_notes : MethodName := ⟨RX12, "notes", "(III)V"⟩
abbrev cX12_isWrap : ByteArray := prog_14_method_67_code
def yX12_isWrap : MethodName := ⟨RX12, "isWrap", "(IIII)Z"⟩
abbrev cX12_wrapAt : ByteArray := prog_14_method_68_code
def yX12_wrapAt : MethodName := ⟨RX12, "wrapAt", "(IIII)I"⟩
abbrev cX12_wrapsOf : ByteArray := prog_14_method_69_code
def yX12_wrapsOf : MethodName := ⟨RX12, "wrapsOf", "(III)I"⟩
abbrev cX12_calls : ByteArray := prog_14_method_70_code
def yX12_calls : MethodName := ⟨RX12, "calls", "(IIII)I"⟩
abbrev cX12_arounds : ByteArray := prog_14_method_71_code
def yX12_arounds : MethodName := ⟨RX12, "arounds", "(IIIII)I"⟩
abbrev cX12_inside : ByteArray := prog_14_method_72_code
def yX12_inside : MethodName := ⟨RX12, "inside", "(IIII)I"⟩
abbrev cX12_failings : ByteArray := prog_14_method_73_code
def yX12_failings : MethodName := ⟨RX12, "failings", "(III)I"⟩
abbrev cX12_works : ByteArray := prog_14_method_74_code
def yX12_works : MethodName := ⟨RX12, "works", "(IIIII)I"⟩
abbrev cX12_worksAround : ByteArray := prog_14_method_75_code
def yX12_worksAround : MethodName := ⟨RX12, "worksAround", "(IIIIII)I"⟩
abbrev cX12_push : ByteArray := prog_14_method_76_code
def yX12_push : MethodName := ⟨RX12, "push", "(I)V"⟩
abbrev cX12_pop : ByteArray := prog_14_method_77_code
def yX12_pop : MethodName := ⟨RX12, "pop", "()I"⟩
abbrev cX12_reckons : ByteArray := prog_14_method_78_code
def yX12_reckons : MethodName := ⟨RX12, "reckons", "(II)I"⟩
abbrev cX12_ofNeed : ByteArray := prog_14_method_79_code
def yX12_ofNeed : MethodName := ⟨RX12, "ofNeed", "(IIIII)I"⟩
abbrev cX12_ofLate : ByteArray := prog_14_method_80_code
def yX12_ofLate : MethodName := ⟨RX12, "ofLate", "(IIIIII)I"⟩
abbrev cX12_isScope : ByteArray := prog_14_method_81_code
def yX12_isScope : MethodName := ⟨RX12, "isScope", "(I)Z"⟩
abbrev cX12_setting : ByteArray := prog_14_method_82_code
def yX12_setting : MethodName := ⟨RX12, "setting", "(II)Z"⟩
abbrev cX12_scope : ByteArray := prog_14_method_83_code
def yX12_scope : MethodName := ⟨RX12, "scope", "(II)I"⟩
abbrev cX12_day : ByteArray := prog_14_method_84_code
def yX12_day : MethodName := ⟨RX12, "day", "()I"⟩
abbrev cX12_meal : ByteArray := prog_14_method_85_code
def yX12_meal : MethodName := ⟨RX12, "meal", "(I)I"⟩
abbrev cX12_begins_ : ByteArray := prog_14_method_86_code
def yX12_begins_ : MethodName := ⟨RX12, "begins", "()V"⟩
abbrev cX12_ends : ByteArray := prog_14_method_87_code
def yX12_ends : MethodName := ⟨RX12, "ends", "(I)Z"⟩
abbrev cX12_get : ByteArray := prog_14_method_88_code
def yX12_get : MethodName := ⟨RX12, "get", "(II)I"⟩
abbrev cX12_call : ByteArray := prog_14_method_89_code
def yX12_call : MethodName := ⟨RX12, "call", "(IIII)I"⟩
abbrev cX12_closeAll : ByteArray := prog_14_method_90_code
def yX12_closeAll : MethodName := ⟨RX12, "closeAll", "(I)I"⟩
abbrev cX12_latestIn : ByteArray := prog_14_method_91_code
def yX12_latestIn : MethodName := ⟨RX12, "latestIn", "(I)I"⟩
abbrev cX12_close : ByteArray := prog_14_method_92_code
def yX12_close : MethodName := ⟨RX12, "close", "(I)I"⟩
abbrev cX12_outcome : ByteArray := prog_14_method_93_code
def yX12_outcome : MethodName := ⟨RX12, "outcome", "()I"⟩
abbrev cX12_cause : ByteArray := prog_14_method_94_code
def yX12_cause : MethodName := ⟨RX12, "cause", "(I)I"⟩
abbrev cX12_named_ : ByteArray := prog_14_method_95_code
def yX12_named_ : MethodName := ⟨RX12, "named", "(I)I"⟩
abbrev cX12_component : ByteArray := prog_14_method_96_code
def yX12_component : MethodName := ⟨RX12, "component", "(II)I"⟩
abbrev cX12_candidate : ByteArray := prog_14_method_97_code
def yX12_candidate : MethodName := ⟨RX12, "candidate", "(III)I"⟩
abbrev cX12_object : ByteArray := prog_14_method_98_code
def yX12_object : MethodName := ⟨RX12, "object", "(II)I"⟩
abbrev cX12_joined : ByteArray := prog_14_method_99_code
def yX12_joined : MethodName := ⟨RX12, "joined", "(III)I"⟩
abbrev cX12_closed : ByteArray := prog_14_method_100_code
def yX12_closed : MethodName := ⟨RX12, "closed", "(II)I"⟩
abbrev cX12_spoiled : ByteArray := prog_14_method_101_code
def yX12_spoiled : MethodName := ⟨RX12, "spoiled", "(II)I"⟩
abbrev cX12_did : ByteArray := prog_14_method_102_code
def yX12_did : MethodName := ⟨RX12, "did", "(II)I"⟩
abbrev cX12_count : ByteArray := prog_14_method_103_code
def yX12_count : MethodName := ⟨RX12, "count", "(I)I"⟩
def RJ11 : String := "java/lang/Character"
def TJ11 : u_T := fun k => match k with
  | _ => ("", "", "", false)
def tyJ11 : Nat → FieldType := fun k => match k with
  | _ => .int
abbrev wsJ110 : List Cond := u_ws RJ11 TJ11 0
theorem nmJ11 : ∀ a, a < 0 → ∀ b, b < 0 → a ≠ b → (TJ11 a).2.1 ≠ (TJ11 b).2.1 := by decide +kernel
theorem tyJ11_ok : ∀ k, k < 0 → parseFieldDescriptor (TJ11 k).2.2.1 = some (tyJ11 k) := by decide +kernel
abbrev cJ11_isValidCodePoint_9a6ad : ByteArray := prog_15_method_11_code
def yJ11_isValidCodePoint_9a6ad : MethodName := ⟨RJ11, "isValidCodePoint", "(I)Z"⟩
abbrev cJ11_highSurrogate_5068e : ByteArray := prog_15_method_28_code
def yJ11_highSurrogate_5068e : MethodName := ⟨RJ11, "highSurrogate", "(I)C"⟩
abbrev cJ11_lowSurrogate_5068e : ByteArray := prog_15_method_29_code
def yJ11_lowSurrogate_5068e : MethodName := ⟨RJ11, "lowSurrogate", "(I)C"⟩
def RJx8e188 : String := "java/lang/Cloneable"
def TJx8e188 : u_T := fun k => match k with
  | _ => ("", "", "", false)
def tyJx8e188 : Nat → FieldType := fun k => match k with
  | _ => .int
abbrev wsJx8e1880 : List Cond := u_ws RJx8e188 TJx8e188 0
theorem nmJx8e188 : ∀ a, a < 0 → ∀ b, b < 0 → a ≠ b → (TJx8e188 a).2.1 ≠ (TJx8e188 b).2.1 := by decide +kernel
theorem tyJx8e188_ok : ∀ k, k < 0 → parseFieldDescriptor (TJx8e188 k).2.2.1 = some (tyJx8e188 k) := by decide +kernel
def RJ6 : String := "java/lang/Integer"
def TJ6 : u_T := fun k => match k with
  | _ => ("", "", "", false)
def tyJ6 : Nat → FieldType := fun k => match k with
  | _ => .int
abbrev wsJ60 : List Cond := u_ws RJ6 TJ6 0
theorem nmJ6 : ∀ a, a < 0 → ∀ b, b < 0 → a ≠ b → (TJ6 a).2.1 ≠ (TJ6 b).2.1 := by decide +kernel
theorem tyJ6_ok : ∀ k, k < 0 → parseFieldDescriptor (TJ6 k).2.2.1 = some (tyJ6 k) := by decide +kernel
abbrev cJ6_numberOfTrailingZeros_0f7a4 : ByteArray := prog_18_method_48_code
def yJ6_numberOfTrailingZeros_0f7a4 : MethodName := ⟨RJ6, "numberOfTrailingZeros", "(I)I"⟩
abbrev cJ6_bitCount_0f7a4 : ByteArray := prog_18_method_49_code
def yJ6_bitCount_0f7a4 : MethodName := ⟨RJ6, "bitCount", "(I)I"⟩
def RJ9 : String := "java/lang/Math"
def TJ9 : u_T := fun k => match k with
  | _ => ("", "", "", false)
def tyJ9 : Nat → FieldType := fun k => match k with
  | _ => .int
abbrev wsJ90 : List Cond := u_ws RJ9 TJ9 0
theorem nmJ9 : ∀ a, a < 0 → ∀ b, b < 0 → a ≠ b → (TJ9 a).2.1 ≠ (TJ9 b).2.1 := by decide +kernel
theorem tyJ9_ok : ∀ k, k < 0 → parseFieldDescriptor (TJ9 k).2.2.1 = some (tyJ9 k) := by decide +kernel
abbrev cJ9_max_7cf53 : ByteArray := prog_19_method_65_code
def yJ9_max_7cf53 : MethodName := ⟨RJ9, "max", "(II)I"⟩
abbrev cJ9_min_7cf53 : ByteArray := prog_19_method_69_code
def yJ9_min_7cf53 : MethodName := ⟨RJ9, "min", "(II)I"⟩
def RJ0 : String := "java/lang/String"
def TJ0 : u_T := fun k => match k with
  | _ => ("", "", "", false)
def tyJ0 : Nat → FieldType := fun k => match k with
  | _ => .int
abbrev wsJ00 : List Cond := u_ws RJ0 TJ0 0
theorem nmJ0 : ∀ a, a < 0 → ∀ b, b < 0 → a ≠ b → (TJ0 a).2.1 ≠ (TJ0 b).2.1 := by decide +kernel
theorem tyJ0_ok : ∀ k, k < 0 → parseFieldDescriptor (TJ0 k).2.2.1 = some (tyJ0 k) := by decide +kernel
abbrev cJ0_length_8abf5 : ByteArray := prog_21_method_54_code
def yJ0_length_8abf5 : MethodName := ⟨RJ0, "length", "()I"⟩
abbrev cJ0_charAt_5068e : ByteArray := prog_21_method_56_code
def yJ0_charAt_5068e : MethodName := ⟨RJ0, "charAt", "(I)C"⟩
abbrev cJ0_indexOf_0f7a4 : ByteArray := prog_21_method_79_code
def yJ0_indexOf_0f7a4 : MethodName := ⟨RJ0, "indexOf", "(I)I"⟩
abbrev cJ0_indexOf_7cf53 : ByteArray := prog_21_method_80_code
def yJ0_indexOf_7cf53 : MethodName := ⟨RJ0, "indexOf", "(II)I"⟩
abbrev cJ0_coder_7d493 : ByteArray := prog_21_method_152_code
def yJ0_coder_7d493 : MethodName := ⟨RJ0, "coder", "()B"⟩
abbrev cJ0_isLatin1_aae02 : ByteArray := prog_21_method_154_code
def yJ0_isLatin1_aae02 : MethodName := ⟨RJ0, "isLatin1", "()Z"⟩
abbrev cJ0_checkIndex_df160 : ByteArray := prog_21_method_155_code
def yJ0_checkIndex_df160 : MethodName := ⟨RJ0, "checkIndex", "(II)V"⟩
abbrev cJ0_checkBoundsBeginEnd_23922 : ByteArray := prog_21_method_158_code
def yJ0_checkBoundsBeginEnd_23922 : MethodName := ⟨RJ0, "checkBoundsBeginEnd", "(III)V"⟩
def RJ1 : String := "java/lang/StringLatin1"
def TJ1 : u_T := fun k => match k with
  | _ => ("", "", "", false)
def tyJ1 : Nat → FieldType := fun k => match k with
  | _ => .int
abbrev wsJ10 : List Cond := u_ws RJ1 TJ1 0
theorem nmJ1 : ∀ a, a < 0 → ∀ b, b < 0 → a ≠ b → (TJ1 a).2.1 ≠ (TJ1 b).2.1 := by decide +kernel
theorem tyJ1_ok : ∀ k, k < 0 → parseFieldDescriptor (TJ1 k).2.2.1 = some (tyJ1 k) := by decide +kernel
abbrev cJ1_charAt_3b067 : ByteArray := prog_22_method_2_code
def yJ1_charAt_3b067 : MethodName := ⟨RJ1, "charAt", "([BI)C"⟩
abbrev cJ1_canEncode_9a6ad : ByteArray := prog_22_method_4_code
def yJ1_canEncode_9a6ad : MethodName := ⟨RJ1, "canEncode", "(I)Z"⟩
abbrev cJ1_indexOf_4cfef : ByteArray := prog_22_method_22_code
def yJ1_indexOf_4cfef : MethodName := ⟨RJ1, "indexOf", "([BIII)I"⟩
abbrev cJ1_indexOfChar_4cfef : ByteArray := prog_22_method_23_code
def yJ1_indexOfChar_4cfef : MethodName := ⟨RJ1, "indexOfChar", "([BIII)I"⟩
def RJ2 : String := "java/lang/StringUTF16"
def TJ2 : u_T := fun k => match k with
  | _ => ("", "", "", false)
def tyJ2 : Nat → FieldType := fun k => match k with
  | _ => .int
abbrev wsJ20 : List Cond := u_ws RJ2 TJ2 0
theorem nmJ2 : ∀ a, a < 0 → ∀ b, b < 0 → a ≠ b → (TJ2 a).2.1 ≠ (TJ2 b).2.1 := by decide +kernel
theorem tyJ2_ok : ∀ k, k < 0 → parseFieldDescriptor (TJ2 k).2.2.1 = some (tyJ2 k) := by decide +kernel
abbrev cJ2_getChar_3b067 : ByteArray := prog_23_method_5_code
def yJ2_getChar_3b067 : MethodName := ⟨RJ2, "getChar", "([BI)C"⟩
abbrev cJ2_length_9d52b : ByteArray := prog_23_method_6_code
def yJ2_length_9d52b : MethodName := ⟨RJ2, "length", "([B)I"⟩
abbrev cJ2_indexOf_4cfef : ByteArray := prog_23_method_40_code
def yJ2_indexOf_4cfef : MethodName := ⟨RJ2, "indexOf", "([BIII)I"⟩
abbrev cJ2_indexOfChar_4cfef : ByteArray := prog_23_method_47_code
def yJ2_indexOfChar_4cfef : MethodName := ⟨RJ2, "indexOfChar", "([BIII)I"⟩
abbrev cJ2_indexOfCharUnsafe_4cfef : ByteArray := prog_23_method_48_code
def yJ2_indexOfCharUnsafe_4cfef : MethodName := ⟨RJ2, "indexOfCharUnsafe", "([BIII)I"⟩
abbrev cJ2_indexOfSupplementary_4cfef : ByteArray := prog_23_method_49_code
def yJ2_indexOfSupplementary_4cfef : MethodName := ⟨RJ2, "indexOfSupplementary", "([BIII)I"⟩
abbrev cJ2_charAt_3b067 : ByteArray := prog_23_method_83_code
def yJ2_charAt_3b067 : MethodName := ⟨RJ2, "charAt", "([BI)C"⟩
abbrev cJ2_checkIndex_2214a : ByteArray := prog_23_method_91_code
def yJ2_checkIndex_2214a : MethodName := ⟨RJ2, "checkIndex", "(I[B)V"⟩
abbrev cJ2_checkBoundsBeginEnd_d044e : ByteArray := prog_23_method_93_code
def yJ2_checkBoundsBeginEnd_d044e : MethodName := ⟨RJ2, "checkBoundsBeginEnd", "(II[B)V"⟩
def RJ10 : String := "java/lang/System"
def TJ10 : u_T := fun k => match k with
  | _ => ("", "", "", false)
def tyJ10 : Nat → FieldType := fun k => match k with
  | _ => .int
abbrev wsJ100 : List Cond := u_ws RJ10 TJ10 0
theorem nmJ10 : ∀ a, a < 0 → ∀ b, b < 0 → a ≠ b → (TJ10 a).2.1 ≠ (TJ10 b).2.1 := by decide +kernel
theorem tyJ10_ok : ∀ k, k < 0 → parseFieldDescriptor (TJ10 k).2.2.1 = some (tyJ10 k) := by decide +kernel
def RJ7 : String := "java/util/Arrays"
def TJ7 : u_T := fun k => match k with
  | _ => ("", "", "", false)
def tyJ7 : Nat → FieldType := fun k => match k with
  | _ => .int
abbrev wsJ70 : List Cond := u_ws RJ7 TJ7 0
theorem nmJ7 : ∀ a, a < 0 → ∀ b, b < 0 → a ≠ b → (TJ7 a).2.1 ≠ (TJ7 b).2.1 := by decide +kernel
theorem tyJ7_ok : ∀ k, k < 0 → parseFieldDescriptor (TJ7 k).2.2.1 = some (tyJ7 k) := by decide +kernel
abbrev cJ7_rangeCheck_23922 : ByteArray := prog_26_method_30_code
def yJ7_rangeCheck_23922 : MethodName := ⟨RJ7, "rangeCheck", "(III)V"⟩
abbrev cJ7_fill_53178 : ByteArray := prog_26_method_103_code
def yJ7_fill_53178 : MethodName := ⟨RJ7, "fill", "([II)V"⟩
abbrev cJ7_fill_fda19 : ByteArray := prog_26_method_104_code
def yJ7_fill_fda19 : MethodName := ⟨RJ7, "fill", "([IIII)V"⟩
abbrev cJ7_copyOf_59c91 : ByteArray := prog_26_method_123_code
def yJ7_copyOf_59c91 : MethodName := ⟨RJ7, "copyOf", "([II)[I"⟩
def RJ3 : String := "jdk/internal/util/Preconditions"
def TJ3 : u_T := fun k => match k with
  | _ => ("", "", "", false)
def tyJ3 : Nat → FieldType := fun k => match k with
  | _ => .int
abbrev wsJ30 : List Cond := u_ws RJ3 TJ3 0
theorem nmJ3 : ∀ a, a < 0 → ∀ b, b < 0 → a ≠ b → (TJ3 a).2.1 ≠ (TJ3 b).2.1 := by decide +kernel
theorem tyJ3_ok : ∀ k, k < 0 → parseFieldDescriptor (TJ3 k).2.2.1 = some (tyJ3 k) := by decide +kernel
abbrev cJ3_checkIndex_8e157 : ByteArray := prog_28_method_11_code
def yJ3_checkIndex_8e157 : MethodName := ⟨RJ3, "checkIndex", "(IILjava/util/function/BiFunction;)I"⟩
abbrev cJ3_checkFromToIndex_8c36e : ByteArray := prog_28_method_12_code
def yJ3_checkFromToIndex_8c36e : MethodName := ⟨RJ3, "checkFromToIndex", "(IIILjava/util/function/BiFunction;)I"⟩
def RL : String := "WiringHouseLaw"
abbrev cL_component : ByteArray := method_3_code
def yL_component : MethodName := ⟨RL, "component", "(LWiringHouse;II[J)I"⟩
abbrev cL_object : ByteArray := method_4_code
def yL_object : MethodName := ⟨RL, "object", "(LWiringHouse;II[J)I"⟩
abbrev cL_law : ByteArray := code
def yL_law : MethodName := ⟨RL, "law", "([I)Z"⟩
abbrev vwCl : List vw_C := [(RX0, TX0, 13), (RX1, TX1, 9), (RX2, TX2, 8), (RX3, TX3, 13), (RX4, TX4, 19), (RX5, TX5, 15), (RX6, TX6, 2), (RX7, TX7, 10), (RX8, TX8, 16), (RX9, TX9, 12), (RX10, TX10, 5), (RX11, TX11, 10), (RX12, TX12, 100)]
end
section
/-! ONE list of words for all contracts: the good words of the tables; and the words of nest mates, taken along in every contract's start. -/
def GW : List Cond := lw_tbl.filter goodWord
theorem gw_mem {w : Cond} (i : Nat) (h : lw_tbl[i]? = some w) (hg : goodWord w = true) : w ∈ GW := List.mem_filter.mpr ⟨List.mem_of_getElem? h, hg⟩
theorem gw_k {w : Cond} {t : List Cond} (ht : ∀ w ∈ t, w ∈ lw_tbl) (i : Nat) (h : t[i]? = some w) (hg : goodWord w = true) : w ∈ GW := List.mem_filter.mpr ⟨ht w (List.mem_of_getElem? h), hg⟩
theorem tk9_1 : ∀ w ∈ tables_1_1, w ∈ lw_tbl := fun w h => List.mem_append_right _ (List.mem_append_left _ (h))
theorem tk9_2 : ∀ w ∈ tables_1_2, w ∈ lw_tbl := fun w h => List.mem_append_right _ (List.mem_append_right _ (List.mem_append_left _ (h)))
theorem tk9_3 : ∀ w ∈ tables_1_3, w ∈ lw_tbl := fun w h => List.mem_append_right _ (List.mem_append_right _ (List.mem_append_right _ (List.mem_append_left _ (h))))
theorem tk9_4 : ∀ w ∈ tables_1_4, w ∈ lw_tbl := fun w h => List.mem_append_right _ (List.mem_append_right _ (List.mem_append_right _ (List.mem_append_right _ (List.mem_append_left _ (h)))))
theorem tk9_5 : ∀ w ∈ tables_1_5, w ∈ lw_tbl := fun w h => List.mem_append_right _ (List.mem_append_right _ (List.mem_append_right _ (List.mem_append_right _ (List.mem_append_right _ (List.mem_append_left _ (h))))))
theorem tk9_6 : ∀ w ∈ tables_1_6, w ∈ lw_tbl := fun w h => List.mem_append_right _ (List.mem_append_right _ (List.mem_append_right _ (List.mem_append_right _ (List.mem_append_right _ (List.mem_append_right _ (List.mem_append_left _ (h)))))))
theorem tk9_7 : ∀ w ∈ tables_1_7, w ∈ lw_tbl := fun w h => List.mem_append_right _ (List.mem_append_right _ (List.mem_append_right _ (List.mem_append_right _ (List.mem_append_right _ (List.mem_append_right _ (List.mem_append_right _ (List.mem_append_left _ (h))))))))
theorem tk9_8 : ∀ w ∈ tables_1_8, w ∈ lw_tbl := fun w h => List.mem_append_right _ (List.mem_append_right _ (List.mem_append_right _ (List.mem_append_right _ (List.mem_append_right _ (List.mem_append_right _ (List.mem_append_right _ (List.mem_append_right _ (List.mem_append_left _ (h)))))))))
theorem tk9_9 : ∀ w ∈ tables_1_9, w ∈ lw_tbl := fun w h => List.mem_append_right _ (List.mem_append_right _ (List.mem_append_right _ (List.mem_append_right _ (List.mem_append_right _ (List.mem_append_right _ (List.mem_append_right _ (List.mem_append_right _ (List.mem_append_right _ (List.mem_append_left _ (h))))))))))
theorem tk9_10 : ∀ w ∈ tables_1_10, w ∈ lw_tbl := fun w h => List.mem_append_right _ (List.mem_append_right _ (List.mem_append_right _ (List.mem_append_right _ (List.mem_append_right _ (List.mem_append_right _ (List.mem_append_right _ (List.mem_append_right _ (List.mem_append_right _ (List.mem_append_right _ (h))))))))))
theorem lz9 : (k2_sels lw_privs).length = 155 := by decide +kernel
theorem la9 {a b : List Cond} {n i : Nat} {w : Cond} (hn : a.length = n) (h : b[i]? = some w) : (a ++ b)[n + i]? = some w := by
  subst hn; rw [List.getElem?_append_right (Nat.le_add_right _ _), Nat.add_sub_cancel_left]; exact h
theorem lb9 {a b : List Cond} {i : Nat} {w : Cond} (h : a[i]? = some w) : (a ++ b)[i]? = some w := by
  have hi := (List.getElem?_eq_some_iff.mp h).1; rw [List.getElem?_append_left hi]; exact h
theorem ln9_1 : tables_1_1.length = 240 := by decide +kernel
theorem ln9_2 : tables_1_2.length = 240 := by decide +kernel
theorem ln9_3 : tables_1_3.length = 240 := by decide +kernel
theorem ln9_4 : tables_1_4.length = 240 := by decide +kernel
theorem ln9_5 : tables_1_5.length = 240 := by decide +kernel
theorem ln9_6 : tables_1_6.length = 240 := by decide +kernel
theorem ln9_7 : tables_1_7.length = 240 := by decide +kernel
theorem ln9_8 : tables_1_8.length = 240 := by decide +kernel
theorem ln9_9 : tables_1_9.length = 240 := by decide +kernel
theorem gw_tbl {w : Cond} (h : w ∈ GW) : w ∈ lw_tbl := (List.mem_filter.mp h).1
theorem gw_sub {ws : List Cond} (ps : List Nat) (hp : ws = ps.filterMap (fun i => lw_tbl[i]?)) (hg : ws.all goodWord = true) : ∀ w ∈ ws, w ∈ GW := by
  intro w hw
  refine List.mem_filter.mpr ⟨?_, List.all_eq_true.mp hg w hw⟩
  rw [hp] at hw
  obtain ⟨i, -, hi⟩ := List.mem_filterMap.mp hw
  exact List.mem_of_getElem? hi
theorem gw_good {big : List Cond} (hb : ∀ w ∈ GW, w ∈ big) {ws : List Cond} (h : ∀ w ∈ ws, w ∈ GW) : GoodIn big ws := fun w hw => ⟨hb w (h w hw), good_of_word (List.mem_filter.mp (h w hw)).2⟩
theorem gw_cons {w : Cond} {ws : List Cond} (h : w ∈ GW) (t : ∀ w ∈ ws, w ∈ GW) : ∀ v ∈ w :: ws, v ∈ GW := fun v hv => (List.mem_cons.mp hv).elim (fun e => by rw [e]; exact h) (t v)
theorem gw_self : ∀ w ∈ GW, w ∈ GW := fun _ h => h
theorem gw_own {w : Cond} : ∀ v ∈ GW, v ∈ w :: GW := fun _ h => List.mem_cons_of_mem _ h
def gnest : Cond → Bool
  | .fieldLinkNest _ _ _ _ _ _ => true
  | .methodLinkNest _ _ _ _ => true
  | _ => false
/-- the nest mates' words -/
def nw (U : State) : Prop := ∀ w ∈ lw_tbl, gnest w = true → va_Nw w U
theorem nw.same {u U : State} (h : u.vm = U.vm) (hn : nw u) : nw U := by
  intro w hw hg
  have h1 := hn w hw hg
  cases w <;> first | exact va_Nw.same rfl h h1 | cases hg
theorem nw.warm {s U : State} (hW : s.WarmedH U.vm) (hn : nw s) : nw U := by
  intro w hw hg
  have h1 := hn w hw hg
  cases w <;> first | exact va_Nw.warmF hW h1 | exact va_Nw.warmM hW h1 | cases hg
theorem nw.of {A : Array Value} {U : State} (h : ∀ w ∈ lw_tbl, w.before A U = true) : nw U := by
  intro w hw hg
  have h1 := h w hw
  cases w <;> first | exact va_Nw.of rfl h1 | cases hg
theorem nw.use {A : Array Value} {U : State} {w : Cond} (h : nw U) (i : Nat) (hi : lw_tbl[i]? = some w) (hg : gnest w = true) : w.before A U = true := by
  have h1 := h w (List.mem_of_getElem? hi) hg
  cases w <;> first | exact va_Nw.use rfl h1 | cases hg
/-- the text of the keywords, a String constant of two classes -/
def kw_byt : List Int32 := [116, 121, 112, 101, 32, 108, 105, 107, 101, 32, 115, 101, 116, 116, 105, 110, 103, 32, 99, 111, 109, 112, 111, 110, 101, 110, 116, 32, 105, 115, 32, 99, 97, 108, 108, 101, 100, 32, 114, 97, 110, 107, 32, 119, 104, 101, 110, 32, 119, 114, 97, 112, 32, 110, 101, 101, 100, 32, 108, 97, 116, 101, 32, 97, 108, 108, 32, 111, 112, 101, 110, 101, 100, 32, 99, 108, 111, 115, 101, 100, 32, 109, 101, 116, 104, 111, 100, 32, 97, 114, 103, 32, 102, 97, 105, 108, 32, 112, 105, 99, 107, 32, 111, 102, 32, 103, 111, 32, 104, 111, 117, 115, 101, 32, 100, 97, 121, 32, 109, 101, 97, 108, 32, 110, 101, 119, 32, 98, 101, 102, 111, 114, 101, 32, 97, 114, 111, 117, 110, 100, 32, 97, 102, 116, 101, 114, 32, 102, 97, 105, 108, 105, 110, 103, 32]
def kw_txt : String := "type like setting component is called rank when wrap need late all opened closed method arg fail pick of go house day meal new before around after failing "
/-- the signs, another one -/
def sg_byt : List Int32 := [123, 125, 40, 41, 44, 59, 61, 60, 43, 45, 42, 46]
def sg_txt : String := "{}(),;=<+-*."
/-- the places of the constants: a text, its bytes, a static, the signs, their bytes -/
abbrev KS : Type := Nat × Nat × Option Nat × Nat × Nat
/-- what is known of constants: the text at ks.1, its bytes at ks.2.1; that Strings are compact; a static of the JDK's that is null or not; the classes of arrays -/
def gk (ks : KS) (A : Nat → Prop) (U : State) (H : Heap) : Prop := (vk_S 1 [155] [kw_byt] (fun _ => ks.1) (fun _ => ks.2.1) A U H ∧ vk_R "WiringHouse$Tape" 29 kw_txt ks.1 U ∧ vk_R "WiringHouseModel" 34 kw_txt ks.1 U) ∧ (va_Z "java/lang/String" "COMPACT_STRINGS" "Z" (.int 1) A U H ∧ va_Z "jdk/internal/util/Preconditions" "SIOOBE_FORMATTER" "Ljava/util/function/BiFunction;" (va_rf ks.2.2.1) A U H) ∧ va_AO RX3 U ∧ va_AO RX10 U ∧ va_AO RX4 U ∧ vk_S 1 [12] [sg_byt] (fun _ => ks.2.2.2.1) (fun _ => ks.2.2.2.2) A U H ∧ vk_R "WiringHouse$Tape" 88 sg_txt ks.2.2.2.1 U
theorem gk.warm {ks : KS} {A : Nat → Prop} {s U : State} {H : Heap} (hW : s.WarmedH U.vm) (h : gk ks A s H) : gk ks A U H := by
  obtain ⟨⟨h1, h2, h3⟩, ⟨h4, h8⟩, h5, h6, h7, h9, h10⟩ := h
  exact ⟨⟨h1.moved hW.alike, h2.warm hW, h3.warm hW⟩, ⟨h4.moved hW.alike, h8.moved hW.alike⟩, h5.moved hW.alike, h6.moved hW.alike, h7.moved hW.alike, h9.moved hW.alike, h10.warm hW⟩
theorem gk.same {ks : KS} {A : Nat → Prop} {s U : State} {H : Heap} (h0 : U.vm = s.vm) (h : gk ks A s H) : gk ks A U H := by
  obtain ⟨⟨h1, h2, h3⟩, ⟨h4, h8⟩, h5, h6, h7, h9, h10⟩ := h
  have hv : s.vm.Alike U.vm := by rw [h0]; exact Vm.Alike.refl s.vm
  exact ⟨⟨h1.moved hv, h2.same h0, h3.same h0⟩, ⟨h4.moved hv, h8.moved hv⟩, h5.moved hv, h6.moved hv, h7.moved hv, h9.moved hv, h10.same h0⟩
theorem gk.kept {ks : KS} {A : Nat → Prop} {U : State} {H H1 : Heap} (h : gk ks A U H) (hq : ∀ a : Nat, a < H.size → ¬ A a → H1[a]? = H[a]?) : gk ks A U H1 := by
  obtain ⟨⟨h1, h2, h3⟩, ⟨h4, h8⟩, h5, h6, h7, h9, h10⟩ := h
  exact ⟨⟨h1.kept hq, h2, h3⟩, ⟨h4.kept hq, h8.kept hq⟩, h5, h6, h7, h9.kept hq, h10⟩
theorem gk.narrow {ks : KS} {A B : Nat → Prop} {U : State} {H : Heap} (h : gk ks A U H) (hAB : ∀ q, B q → A q) : gk ks B U H := by
  obtain ⟨⟨h1, h2, h3⟩, ⟨h4, h8⟩, h5, h6, h7, h9, h10⟩ := h
  exact ⟨⟨h1.narrow hAB, h2, h3⟩, ⟨h4.narrow hAB, h8.narrow hAB⟩, h5, h6, h7, h9.narrow hAB, h10⟩
/-- a contract's start: the cells, apart; the nest's words; the constants -/
def gp (D : va_G) (ks : KS) (ws : va_W) (tys : List (ClassId × FieldType)) (sz : Nat) (U : State) : Prop := U.heap.size = sz ∧ nw U ∧ gk ks (va_A ws sz) U U.heap ∧ va_P D vwCl ws U.heap ∧ va_K D vwCl tys U ∧ va_D (fun _ => True) ws
/-- .. its end -/
def gq (D : va_G) (A : Nat → Prop) (ws : va_W) (tys : List (ClassId × FieldType)) (t : State) : Prop := va_P D vwCl ws t.heap ∧ va_K D vwCl tys t ∧ va_D A ws
theorem gp_blind {av : List Value} {D : va_G} {ks : KS} {ws : va_W} {tys : List (ClassId × FieldType)} {sz : Nat} : FrameBlind (va_Pc av (gp D ks ws tys sz)) := by
  intro a U g mk h
  obtain ⟨h0, h1, h2, h3, h4, h5, h6⟩ := h
  exact ⟨h0, h1, nw.same (u := U) (U := U.calling g mk a) rfl h2, gk.same (s := U) (U := U.calling g mk a) rfl h3, h4, va_K.moved (u := U) (U := U.calling g mk a) (Vm.Alike.refl U.vm) h5, h6⟩
section GB
variable {p : Program} {l : Launch} {e : Env} {R : Room} {s : State} {m : MethodId} {args : Array Value} {below : List Frame} {meth : Method} {c : Code} {H : Heap} {locs : List Loc} {cells slots : Nat} {Q : State → Prop}
variable {cc : ByteArray} {pc : Nat} {ls : Array Slot} {st0 rest : List Value} {D : va_G} {ks : KS} {A : Nat → Prop} {tys tc tr : List (ClassId × FieldType)} {ws wc wr : va_W}
/-- the cells of a callee, cut out of the caller's -/
theorem gp_cut (hP : va_P D vwCl ws H) (hD : va_D A ws) (hK : va_K D vwCl tys s) (hS : va_S A s.heap H locs) (hA : ∀ q, s.heap.size ≤ q → A q) (hnw : nw s) (hgk : gk ks A s s.heap) (isC isT : List Nat) (hn : va_nd isC = true) (hC : isC.map (fun i => ws[i]?) = wc.map some) (hT : isT.filterMap (fun i => tys[i]?) = tc) {av : List Value} : ∀ U : State, U.heap = H → s.WarmedH U.vm → va_Pc av (gp D ks wc tc H.size) av.toArray U := by
  intro U hU hW
  have hF := va_free (wc := wc) hD hS hA isC hC
  have hDc : va_D A wc := hD.sub isC hn hC
  have hPc : va_P D vwCl wc H := by
    intro k q hk
    have h1 : (isC.map (fun i => ws[i]?))[k]? = some (some q) := by rw [hC, List.getElem?_map, hk]; rfl
    rw [List.getElem?_map] at h1
    cases hi : isC[k]? with
    | none => rw [hi] at h1; cases h1
    | some i => rw [hi] at h1; exact hP i q (Option.some.inj h1)
  refine ⟨rfl, by rw [hU], hnw.warm hW, ?_, by rw [hU]; exact hPc, va_K.moved hW.alike (hK.sub isT hT), hDc.weaken (fun _ _ _ _ => trivial)⟩
  rw [hU]
  exact ((hgk.kept hS.2.1).narrow hF).warm hW
/-- behind a void call -/
theorem g_void {S : Type} {post : S → Prop} {wq : S → va_W} {tq : S → List (ClassId × FieldType)} {mc ms : Nat} {av : Array Value} (hr : va_Run p l e R s m args below meth c H locs cells slots mc ms (F0 m pc ls st0) rest (va_Qv post (fun u t => gq D (va_A wc H.size) (wq u) (tq u) t) (va_A wc H.size) av) (va_A wc H.size))
    (hP : va_P D vwCl ws H) (hD : va_D A ws) (hK : va_K D vwCl tys s) (hS : va_S A s.heap H locs) (hA : ∀ q, s.heap.size ≤ q → A q) (isC isR isU : List Nat) (hC : isC.map (fun i => ws[i]?) = wc.map some) (hR : isR.map (fun i => ws[i]?) = wr.map some) (hn : va_nd isR = true) (hdis : ∀ i ∈ isR, i ∉ isC) (hU : isU.filterMap (fun i => tys[i]?) = tr)
    (kk : ∀ (u : S) (H1 : Heap) (locs1 : List Loc), post u → va_P D vwCl (wr ++ wq u) H1 → va_D A (wr ++ wq u) → va_K D vwCl (tr ++ tq u) s → va_S A s.heap H1 locs1 → W p l e R s m args below meth c H1 locs1 (cells + mc) (slots + ms) Q (F0 m (pc + 3) ls rest)) : W p l e R s m args below meth c H locs cells slots Q (F0 m pc ls st0) := by
  have hF := va_free (wc := wc) hD hS hA isC hC
  refine va_callv hr hS (fun q _ h => hF q h) hF (fun u t H1 locs ht hvm hw hB hz1 hk1 hS => ?_)
  obtain ⟨hP1, hK1, hD1⟩ := hB
  rw [ht] at hP1
  obtain ⟨hP2, hD2⟩ := va_join hP hD isC isR hC hR hn hdis hk1 hF hP1 hD1
  exact kk u H1 locs hw hP2 hD2 ((hK.sub isU hU).app (va_K.moved hvm.symm hK1)) hS
/-- behind a call that answers an int -/
theorem g_int {S : Type} {post : Int32 → S → Prop} {wq : S → va_W} {tq : S → List (ClassId × FieldType)} {mc ms : Nat} {av : Array Value} (hr : va_Run p l e R s m args below meth c H locs cells slots mc ms (F0 m pc ls st0) rest (va_Qi post (fun u t => gq D (va_A wc H.size) (wq u) (tq u) t) (va_A wc H.size) av) (va_A wc H.size))
    (hP : va_P D vwCl ws H) (hD : va_D A ws) (hK : va_K D vwCl tys s) (hS : va_S A s.heap H locs) (hA : ∀ q, s.heap.size ≤ q → A q) (isC isR isU : List Nat) (hC : isC.map (fun i => ws[i]?) = wc.map some) (hR : isR.map (fun i => ws[i]?) = wr.map some) (hn : va_nd isR = true) (hdis : ∀ i ∈ isR, i ∉ isC) (hU : isU.filterMap (fun i => tys[i]?) = tr)
    (kk : ∀ (r : Int32) (u : S) (H1 : Heap) (locs1 : List Loc), post r u → va_P D vwCl (wr ++ wq u) H1 → va_D A (wr ++ wq u) → va_K D vwCl (tr ++ tq u) s → va_S A s.heap H1 locs1 → W p l e R s m args below meth c H1 locs1 (cells + mc) (slots + ms) Q (F0 m (pc + 3) ls (.int r :: rest))) : W p l e R s m args below meth c H locs cells slots Q (F0 m pc ls st0) := by
  have hF := va_free (wc := wc) hD hS hA isC hC
  refine va_calli hr hS (fun q _ h => hF q h) hF (fun r u t H1 locs ht hvm hw hB hz1 hk1 hS => ?_)
  obtain ⟨hP1, hK1, hD1⟩ := hB
  rw [ht] at hP1
  obtain ⟨hP2, hD2⟩ := va_join hP hD isC isR hC hR hn hdis hk1 hF hP1 hD1
  exact kk r u H1 locs hw hP2 hD2 ((hK.sub isU hU).app (va_K.moved hvm.symm hK1)) hS
/-- the run of a virtual call (its receiver is an object of the world) -/
theorem g_runV {y : MethodName} {bytes : ByteArray} {maxL nL n index : Nat} {ret : Option FieldType} {rm : Room} {Qc : Array Value → State → Outcome → State → Prop} {Ts : List Cond} {own C : String} {b : Addr} {As : List Value} {Tf : u_T} {Nf ci q0 : Nat} {fs : List Value}
    (hx : p.tables.exec = Jvm.exec) (hb : c.code = cc) (hml : c.maxLocals = nL) (hown : s.vm.findClass own = some m.cls) (hts : ∀ w ∈ Ts, w.before args s = true) (hgw : ∀ w ∈ GW, w ∈ Ts) (hP : va_P D vwCl ws H) (hD : va_D A ws) (hK : va_K D vwCl tys s) (hS : va_S A s.heap H locs) (hA : ∀ q, s.heap.size ≤ q → A q) (hnw : nw s) (hgk : gk ks A s s.heap)
    (isC isT : List Nat) (hn : va_nd isC = true) (hC : isC.map (fun i => ws[i]?) = wc.map some) (hT : isT.filterMap (fun i => tys[i]?) = tc)
    (hM : Met l y (Cond.code y bytes maxL ret :: GW) rm (va_Pc (.ref b :: As) (gp D ks wc tc H.size)) Qc rm.cells rm.slots (va_A wc H.size))
    (w1 : Cond.methodLink own index y ∈ GW) (w2 : Cond.instanceMethod y ∈ GW) (w3 : Cond.selects C y y ∈ GW) (w4 : Cond.initialized C ∈ GW) (w5 : Cond.code y bytes maxL ret ∈ GW) (hc : vwCl[ci]? = some (C, Tf, Nf)) (he : ws[q0]? = some (b, .inr (ci, fs)))
    (hd : y.cls = C ∧ y.cls ≠ "java/lang/invoke/MethodHandle" ∧ y.cls ≠ "java/lang/invoke/VarHandle" ∧ (parseMethodDescriptor y.desc).map (fun d => d.parameters.length) = some n) (hR : rm.frames + 1 ≤ R.frames ∧ 8 + (maxL + 11) + rm.locals ≤ R.locals)
    (hn2 : As.length = n) (hsize : ls.size = nL) (hst : st0 = As.reverse ++ .ref b :: rest) (hW : (rest.map fun v => v.category).sum ≤ 8) (hdg : decode cc pc = .ok (.invokevirtual index, 3)) (hf : cells + rm.cells ≤ R.cells ∧ slots + rm.slots ≤ R.slots) :
    va_Run p l e R s m args below meth c H locs cells slots rm.cells rm.slots (F0 m pc ls st0) rest (Qc (Value.ref b :: As).toArray) (va_A wc H.size) :=
  va_runV (As := As) (rest := rest) ⟨hx, hb, hml, hown, hts⟩ hM (cwV n hts (gw_good hgw (gw_cons w1 (gw_cons w2 (gw_cons w3 (gw_cons w4 (gw_cons w5 gw_self)))))) rfl rfl rfl hd hR) ⟨gp_blind, va_recv hK hP hc he, gp_cut hP hD hK hS hA hnw hgk isC isT hn hC hT⟩ rfl hn2 hsize hst (lv_room hW) hdg hf
/-- the run of a virtual call, its receiver by its class -/
theorem g_runW {y : MethodName} {bytes : ByteArray} {maxL nL n index : Nat} {ret : Option FieldType} {rm : Room} {Qc : Array Value → State → Outcome → State → Prop} {Ts : List Cond} {own C : String} {b : Addr} {As : List Value}
    (hx : p.tables.exec = Jvm.exec) (hb : c.code = cc) (hml : c.maxLocals = nL) (hown : s.vm.findClass own = some m.cls) (hts : ∀ w ∈ Ts, w.before args s = true) (hgw : ∀ w ∈ GW, w ∈ Ts) (hP : va_P D vwCl ws H) (hD : va_D A ws) (hK : va_K D vwCl tys s) (hS : va_S A s.heap H locs) (hA : ∀ q, s.heap.size ≤ q → A q) (hnw : nw s) (hgk : gk ks A s s.heap)
    (isC isT : List Nat) (hn : va_nd isC = true) (hC : isC.map (fun i => ws[i]?) = wc.map some) (hT : isT.filterMap (fun i => tys[i]?) = tc)
    (hM : Met l y (Cond.code y bytes maxL ret :: GW) rm (va_Pc (.ref b :: As) (gp D ks wc tc H.size)) Qc rm.cells rm.slots (va_A wc H.size))
    (w1 : Cond.methodLink own index y ∈ GW) (w2 : Cond.instanceMethod y ∈ GW) (w3 : Cond.selects C y y ∈ GW) (w4 : Cond.initialized C ∈ GW) (w5 : Cond.code y bytes maxL ret ∈ GW) (hrecv : ∃ cell : Cell, H[b]? = some cell ∧ cell.vm.isStatics = false ∧ s.vm.findClass C = some cell.cls)
    (hd : y.cls = C ∧ y.cls ≠ "java/lang/invoke/MethodHandle" ∧ y.cls ≠ "java/lang/invoke/VarHandle" ∧ (parseMethodDescriptor y.desc).map (fun d => d.parameters.length) = some n) (hR : rm.frames + 1 ≤ R.frames ∧ 8 + (maxL + 11) + rm.locals ≤ R.locals)
    (hn2 : As.length = n) (hsize : ls.size = nL) (hst : st0 = As.reverse ++ .ref b :: rest) (hW : (rest.map fun v => v.category).sum ≤ 8) (hdg : decode cc pc = .ok (.invokevirtual index, 3)) (hf : cells + rm.cells ≤ R.cells ∧ slots + rm.slots ≤ R.slots) :
    va_Run p l e R s m args below meth c H locs cells slots rm.cells rm.slots (F0 m pc ls st0) rest (Qc (Value.ref b :: As).toArray) (va_A wc H.size) :=
  va_runV (As := As) (rest := rest) ⟨hx, hb, hml, hown, hts⟩ hM (cwV n hts (gw_good hgw (gw_cons w1 (gw_cons w2 (gw_cons w3 (gw_cons w4 (gw_cons w5 gw_self)))))) rfl rfl rfl hd hR) ⟨gp_blind, hrecv, gp_cut hP hD hK hS hA hnw hgk isC isT hn hC hT⟩ rfl hn2 hsize hst (lv_room hW) hdg hf
/-- the run of a constructor -/
theorem g_runI {y : MethodName} {bytes : ByteArray} {maxL nL n index : Nat} {rm : Room} {Qc : Array Value → State → Outcome → State → Prop} {Ts : List Cond} {own : String} {b : Addr} {As : List Value}
    (hx : p.tables.exec = Jvm.exec) (hb : c.code = cc) (hml : c.maxLocals = nL) (hown : s.vm.findClass own = some m.cls) (hts : ∀ w ∈ Ts, w.before args s = true) (hgw : ∀ w ∈ GW, w ∈ Ts) (hP : va_P D vwCl ws H) (hD : va_D A ws) (hK : va_K D vwCl tys s) (hS : va_S A s.heap H locs) (hA : ∀ q, s.heap.size ≤ q → A q) (hnw : nw s) (hgk : gk ks A s s.heap)
    (isC isT : List Nat) (hn : va_nd isC = true) (hC : isC.map (fun i => ws[i]?) = wc.map some) (hT : isT.filterMap (fun i => tys[i]?) = tc)
    (hM : Met l y (Cond.code y bytes maxL none :: GW) rm (va_Pc (.ref b :: As) (gp D ks wc tc H.size)) Qc rm.cells rm.slots (va_A wc H.size))
    (w1 : Cond.methodLink own index y ∈ GW) (w2 : Cond.instanceMethod y ∈ GW) (w4 : Cond.initialized y.cls ∈ GW) (w5 : Cond.code y bytes maxL none ∈ GW) (hy1 : y.name = "<init>")
    (hd : y.cls ≠ "java/lang/invoke/MethodHandle" ∧ y.cls ≠ "java/lang/invoke/VarHandle" ∧ (parseMethodDescriptor y.desc).map (fun d => d.parameters.length) = some n) (hR : rm.frames + 1 ≤ R.frames ∧ 8 + (maxL + 11) + rm.locals ≤ R.locals)
    (hn2 : As.length = n) (hsize : ls.size = nL) (hst : st0 = As.reverse ++ .ref b :: rest) (hW : (rest.map fun v => v.category).sum ≤ 8) (hdg : decode cc pc = .ok (.invokespecial index, 3)) (hf : cells + rm.cells ≤ R.cells ∧ slots + rm.slots ≤ R.slots) :
    va_Run p l e R s m args below meth c H locs cells slots rm.cells rm.slots (F0 m pc ls st0) rest (Qc (Value.ref b :: As).toArray) (va_A wc H.size) :=
  va_runI (As := As) (rest := rest) ⟨hx, hb, hml, hown, hts⟩ hM (cwI n hts (gw_good hgw (gw_cons w5 gw_self)) rfl rfl rfl (hts _ (hgw _ w4)) (hts _ (hgw _ w1)) (hts _ (hgw _ w2)) hy1 hd hR) ⟨gp_blind, gp_cut hP hD hK hS hA hnw hgk isC isT hn hC hT⟩ rfl hn2 hsize hst (lv_room hW) hdg hf
/-- the run of a nest mate's private constructor -/
theorem g_runIN {y : MethodName} {bytes : ByteArray} {maxL nL n index iw : Nat} {rm : Room} {Qc : Array Value → State → Outcome → State → Prop} {Ts : List Cond} {own host : String} {b : Addr} {As : List Value}
    (hx : p.tables.exec = Jvm.exec) (hb : c.code = cc) (hml : c.maxLocals = nL) (hown : s.vm.findClass own = some m.cls) (hts : ∀ w ∈ Ts, w.before args s = true) (hgw : ∀ w ∈ GW, w ∈ Ts) (hP : va_P D vwCl ws H) (hD : va_D A ws) (hK : va_K D vwCl tys s) (hS : va_S A s.heap H locs) (hA : ∀ q, s.heap.size ≤ q → A q) (hnw : nw s) (hgk : gk ks A s s.heap)
    (isC isT : List Nat) (hn : va_nd isC = true) (hC : isC.map (fun i => ws[i]?) = wc.map some) (hT : isT.filterMap (fun i => tys[i]?) = tc)
    (hM : Met l y (Cond.code y bytes maxL none :: GW) rm (va_Pc (.ref b :: As) (gp D ks wc tc H.size)) Qc rm.cells rm.slots (va_A wc H.size))
    (w1 : lw_tbl[iw]? = some (Cond.methodLinkNest own index y host)) (w2 : Cond.instanceMethod y ∈ GW) (w4 : Cond.initialized y.cls ∈ GW) (w5 : Cond.code y bytes maxL none ∈ GW) (hy1 : y.name = "<init>")
    (hd : y.cls ≠ "java/lang/invoke/MethodHandle" ∧ y.cls ≠ "java/lang/invoke/VarHandle" ∧ (parseMethodDescriptor y.desc).map (fun d => d.parameters.length) = some n) (hR : rm.frames + 1 ≤ R.frames ∧ 8 + (maxL + 11) + rm.locals ≤ R.locals)
    (hn2 : As.length = n) (hsize : ls.size = nL) (hst : st0 = As.reverse ++ .ref b :: rest) (hW : (rest.map fun v => v.category).sum ≤ 8) (hdg : decode cc pc = .ok (.invokespecial index, 3)) (hf : cells + rm.cells ≤ R.cells ∧ slots + rm.slots ≤ R.slots) :
    va_Run p l e R s m args below meth c H locs cells slots rm.cells rm.slots (F0 m pc ls st0) rest (Qc (Value.ref b :: As).toArray) (va_A wc H.size) :=
  va_runIN (As := As) (rest := rest) ⟨hx, hb, hml, hown, hts⟩ hM ⟨va_cnB n hts (gw_good hgw (gw_cons w5 gw_self)) rfl rfl rfl (hnw _ (List.mem_of_getElem? w1) rfl) (hts _ (hgw _ w4)) hd hR, hy1, hts _ (hgw _ w2)⟩ ⟨gp_blind, gp_cut hP hD hK hS hA hnw hgk isC isT hn hC hT⟩ rfl hn2 hsize hst (lv_room hW) hdg hf
/-- the run of a static call -/
theorem g_runS {y : MethodName} {bytes : ByteArray} {maxL nL n index : Nat} {ret : Option FieldType} {rm : Room} {Qc : Array Value → State → Outcome → State → Prop} {Ts : List Cond} {own : String} {As : List Value}
    (hx : p.tables.exec = Jvm.exec) (hb : c.code = cc) (hml : c.maxLocals = nL) (hown : s.vm.findClass own = some m.cls) (hts : ∀ w ∈ Ts, w.before args s = true) (hgw : ∀ w ∈ GW, w ∈ Ts) (hP : va_P D vwCl ws H) (hD : va_D A ws) (hK : va_K D vwCl tys s) (hS : va_S A s.heap H locs) (hA : ∀ q, s.heap.size ≤ q → A q) (hnw : nw s) (hgk : gk ks A s s.heap)
    (isC isT : List Nat) (hn : va_nd isC = true) (hC : isC.map (fun i => ws[i]?) = wc.map some) (hT : isT.filterMap (fun i => tys[i]?) = tc)
    (hM : Met l y (Cond.code y bytes maxL ret :: GW) rm (va_Pc As (gp D ks wc tc H.size)) Qc rm.cells rm.slots (va_A wc H.size))
    (w1 : Cond.methodLink own index y ∈ GW) (w2 : Cond.static y ∈ GW) (w4 : Cond.initialized y.cls ∈ GW) (w5 : Cond.code y bytes maxL ret ∈ GW)
    (hd : y.cls ≠ "java/lang/invoke/MethodHandle" ∧ y.cls ≠ "java/lang/invoke/VarHandle" ∧ (parseMethodDescriptor y.desc).map (fun d => d.parameters.length) = some n) (hR : rm.frames + 1 ≤ R.frames ∧ 8 + (maxL + 11) + rm.locals ≤ R.locals)
    (hn2 : As.length = n) (hsize : ls.size = nL) (hst : st0 = As.reverse ++ rest) (hW : (rest.map fun v => v.category).sum ≤ 8) (hdg : decode cc pc = .ok (.invokestatic index, 3)) (hf : cells + rm.cells ≤ R.cells ∧ slots + rm.slots ≤ R.slots) :
    va_Run p l e R s m args below meth c H locs cells slots rm.cells rm.slots (F0 m pc ls st0) rest (Qc As.toArray) (va_A wc H.size) :=
  va_runS (As := As) (rest := rest) ⟨hx, hb, hml, hown, hts⟩ hM ⟨callB_of n hts (gw_good hgw (gw_cons w5 gw_self)) rfl rfl rfl (hts _ (hgw _ w4)) (hts _ (hgw _ w1)) hd hR, hts _ (hgw _ w2)⟩ ⟨gp_blind, gp_cut hP hD hK hS hA hnw hgk isC isT hn hC hT⟩ rfl hn2 hsize hst (lv_room hW) hdg hf
theorem g_top {x v : Int32} (h : x = v) (k : W p l e R s m args below meth c H locs cells slots Q (F0 m pc ls (.int v :: rest))) : W p l e R s m args below meth c H locs cells slots Q (F0 m pc ls (.int x :: rest)) := h ▸ k
end GB
/-- a contract out of a walk: what holds at the entry -/
theorem g_met {l : Launch} {y : MethodName} {cc : ByteArray} {maxL : Nat} {ret : Option FieldType} {rm : Room} {av : List Value} {D : va_G} {ks : KS} {ws : va_W} {tys : List (ClassId × FieldType)} {sz : Nat} {mc ms : Nat} (QQ : (Nat → Prop) → Array Value → State → Outcome → State → Prop) (hy : plainName y.cls = true) (hav : (lg_sl av).length ≤ maxL)
    (k : ∀ (p : Program) (e : Env) (s : State) (m : MethodId) (below : List Frame) (meth : Method) (c : Code) (A : Nat → Prop) (ls : Array Slot) (H : Heap) (locs : List Loc), p.tables.exec = Jvm.exec → c.code = cc → meth.sig.returnType = ret → c.maxLocals = maxL → s.vm.findClass y.cls = some m.cls → (∀ w ∈ GW, w.before av.toArray s = true) → meth.locks = false → meth.name = y.name → nw s → gk ks A s s.heap →
      va_P D vwCl ws H → va_K D vwCl tys s → va_D A ws → va_S A s.heap H locs → (∀ q, s.heap.size ≤ q → A q) → lv_has ls maxL (lv_args 0 av) → W p l e rm s m av.toArray below meth c H locs 0 0 (MQ below (QQ A) av.toArray s mc ms A) (F0 m 0 ls [])) :
    Met l y (Cond.code y cc maxL ret :: GW) rm (va_Pc av (gp D ks ws tys sz)) (QQ (va_A ws sz)) mc ms (va_A ws sz) := by
  refine Met.ofW (cc := cc) (maxL := maxL) (ret := ret) hy rfl ?_
  intro p e s m args below meth c s₁ B hml hv
  obtain ⟨rfl, hsz, hnw, hgk, hP, hK, hD0⟩ := hv
  have hl := lv_entry av (n := maxL) hav
  rw [lg_entry_eq]
  exact k p e s m below meth c (va_A ws sz) _ s.heap [] B.exec B.bytes B.returns hml (findClass_of_methodNamed B.named) (fun w h => atoms_spec (ws := Cond.code y cc maxL ret :: GW) B.pre w (List.mem_cons_of_mem _ h)) B.notSynchronized (name_of_methodNamed B.named B.method).1 hnw hgk hP hK hD0.self va_S.rf (fun q h => Or.inr (by rw [← hsz]; exact h)) hl
theorem wobj : Cond.code objectInit ⟨#[0xb1]⟩ 1 none ∈ GW := gw_k tk9_1 34 (rfl) rfl
theorem g_lt_ge {i L : Nat} (h1 : i < 2 ^ 31) (h2 : L < 2 ^ 31) (c : ¬ nI L ≤ nI i) : i < L := (Nat.lt_or_ge i L).elim id (fun q => absurd (nI_le q h1) c)
theorem g_ge_ge {i L : Nat} (h1 : i < 2 ^ 31) (h2 : L < 2 ^ 31) (c : nI L ≤ nI i) : L ≤ i := (nI_leI h2 h1).mp c
theorem g_lt_lt {i L : Nat} (h1 : i < 2 ^ 31) (h2 : L < 2 ^ 31) (c : nI i < nI L) : i < L := (nI_ltI h1 h2).mp c
theorem g_ge_lt {i L : Nat} (h1 : i < 2 ^ 31) (h2 : L < 2 ^ 31) (c : ¬ nI i < nI L) : L ≤ i := (Nat.lt_or_ge i L).elim (fun q => absurd (nI_lt q h2) c) id
def kwc (i : Nat) : Int32 := kw_byt.getD i 0
theorem kwc_c2 : ∀ i, i < 155 → ((kwc i &&& 255).toUInt32 % 65536).toInt32 = kwc i := by decide +kernel
theorem kwc_nar : ∀ i, i < 155 → narrow .char (.int (kwc i)) = .int (kwc i) := by decide +kernel
theorem tab_out (x : Int32) (n : Nat) (hn : n < 2 ^ 31) (h : ∀ k, k ≤ n → ¬ x = nI k) : x.toInt < 0 ∨ (n : Int) < x.toInt := by
  rcases Int.lt_or_le x.toInt 0 with h0 | h0
  · exact Or.inl h0
  · rcases Int.lt_or_le (n : Int) x.toInt with h1 | h1
    · exact Or.inr h1
    · refine absurd ?_ (h x.toInt.toNat (by omega))
      exact Int32.toInt_inj.mp (by rw [nI_toInt (by omega)]; omega)
theorem i_ge1 {x : Int32} (h : ¬ x < 0) (h0 : ¬ x = 0) : 1 ≤ x := by
  obtain ⟨j, hj, rfl⟩ := nI_of h
  have : j ≠ 0 := fun e => h0 (by rw [e]; rfl)
  exact nI_le (a := 1) (by omega) hj
theorem gw_subk {t : List Cond} (ht : ∀ w ∈ t, w ∈ lw_tbl) {ws : List Cond} (ps : List Nat) (hp : ws = ps.filterMap (fun i => t[i]?)) (hg : ws.all goodWord = true) : ∀ w ∈ ws, w ∈ GW := by
  intro w hw
  refine List.mem_filter.mpr ⟨?_, List.all_eq_true.mp hg w hw⟩
  rw [hp] at hw
  obtain ⟨i, -, hi⟩ := List.mem_filterMap.mp hw
  exact ht w (List.mem_of_getElem? hi)
theorem gw_two {a b : List Cond} (ha : ∀ w ∈ a, w ∈ lw_tbl) (hb : ∀ w ∈ b, w ∈ lw_tbl) : ∀ w ∈ a ++ b, w ∈ lw_tbl := fun w h => (List.mem_append.mp h).elim (ha w) (hb w)
theorem inX0 : ∀ w ∈ wsX00, w ∈ GW := gw_subk (gw_two tk9_2 tk9_3) [237, 239, 241, 243, 245, 247, 249, 251, 253, 255, 257, 259, 261] (by decide +kernel) (by decide +kernel)
theorem inX1 : ∀ w ∈ wsX10, w ∈ GW := gw_subk tk9_1 [158, 160, 162, 164, 166, 168, 170, 172, 174] (by decide +kernel) (by decide +kernel)
theorem inX2 : ∀ w ∈ wsX20, w ∈ GW := gw_subk tk9_1 [192, 194, 196, 198, 200, 202, 204, 206] (by decide +kernel) (by decide +kernel)
theorem inX3 : ∀ w ∈ wsX30, w ∈ GW := gw_subk tk9_2 [148, 150, 152, 154, 156, 158, 160, 162, 164, 166, 168, 170, 172] (by decide +kernel) (by decide +kernel)
theorem inX4 : ∀ w ∈ wsX40, w ∈ GW := gw_subk tk9_5 [93, 95, 97, 99, 101, 103, 105, 107, 109, 111, 113, 115, 117, 119, 121, 123, 125, 127, 129] (by decide +kernel) (by decide +kernel)
theorem inX5 : ∀ w ∈ wsX50, w ∈ GW := gw_subk tk9_3 [49, 51, 53, 55, 57, 59, 61, 63, 65, 67, 69, 71, 73, 75, 77] (by decide +kernel) (by decide +kernel)
theorem inX6 : ∀ w ∈ wsX60, w ∈ GW := gw_subk tk9_2 [90, 92] (by decide +kernel) (by decide +kernel)
theorem inX7 : ∀ w ∈ wsX70, w ∈ GW := gw_subk tk9_2 [51, 53, 55, 57, 59, 61, 63, 65, 67, 69] (by decide +kernel) (by decide +kernel)
theorem inX8 : ∀ w ∈ wsX80, w ∈ GW := gw_subk tk9_2 [0, 2, 4, 6, 8, 10, 12, 14, 16, 18, 20, 22, 24, 26, 28, 30] (by decide +kernel) (by decide +kernel)
theorem inX9 : ∀ w ∈ wsX90, w ∈ GW := gw_subk tk9_1 [115, 117, 119, 121, 123, 125, 127, 129, 131, 133, 135, 137] (by decide +kernel) (by decide +kernel)
theorem inX10 : ∀ w ∈ wsX100, w ∈ GW := gw_subk tk9_2 [187, 189, 191, 193, 195] (by decide +kernel) (by decide +kernel)
theorem inX11 : ∀ w ∈ wsX110, w ∈ GW := gw_subk tk9_3 [90, 92, 94, 96, 98, 100, 102, 104, 106, 108] (by decide +kernel) (by decide +kernel)
theorem inX12 : ∀ w ∈ wsX120, w ∈ GW := gw_subk (gw_two tk9_7 tk9_8) [211, 213, 215, 217, 219, 221, 223, 225, 227, 229, 231, 233, 235, 237, 239, 241, 243, 245, 247, 249, 251, 253, 255, 257, 259, 261, 263, 265, 267, 269, 271, 273, 275, 277, 279, 281, 283, 285, 287, 289, 291, 293, 295, 297, 299, 301, 303, 305, 307, 309, 311, 313, 315, 317, 319, 321, 323, 325, 327, 329, 331, 333, 335, 337, 339, 341, 343, 345, 347, 349, 351, 353, 355, 357, 359, 361, 363, 365, 367, 369, 371, 373, 375, 377, 379, 381, 383, 385, 387, 389, 391, 393, 395, 397, 399, 401, 403, 405, 407, 409] (by decide +kernel) (by decide +kernel)
end
section
def dOk (cc : ByteArray) (l : List (Nat × Instr × Nat)) : Bool := l.all fun q => decide (decode cc q.1 = .ok q.2)
theorem dr9 {cc : ByteArray} {l : List (Nat × Instr × Nat)} (h : dOk cc l = true) (i : Nat) (q : Nat × Instr × Nat) (e : l[i]? = some q) : decode cc q.1 = .ok q.2 := of_decide_eq_true (List.all_eq_true.mp h q (List.mem_of_getElem? e))
/-! A module's world as a function of numbers: V cell place, L for longs. What was written, what is within its bounds. -/
abbrev Vf : Type := Nat → Nat → Int32
abbrev Lf : Type := Nat → Nat → Int64
def up2 (V : Vf) (c k : Nat) (v : Int32) : Vf := fun c' => if c' = c then upd (V c') k v else V c'
def upL (L : Lf) (c k : Nat) (v : Int64) : Lf := fun c' => if c' = c then vp_updL (L c') k v else L c'
theorem up2_s {V V1 : Vf} {c k : Nat} {v : Int32} (h : V1 = up2 V c k v) : V1 c k = v := by rw [h]; unfold up2; rw [if_pos rfl]; exact pk_us
theorem up2_o {V V1 : Vf} {c k c' k' : Nat} {v : Int32} (h : V1 = up2 V c k v) (hc : ¬ c' = c) : V1 c' k' = V c' k' := by rw [h]; unfold up2; rw [if_neg hc]
theorem up2_k {V V1 : Vf} {c k k' : Nat} {v : Int32} (h : V1 = up2 V c k v) (hk : ¬ k' = k) : V1 c k' = V c k' := by rw [h]; unfold up2; rw [if_pos rfl]; exact pk_un hk
def wrL (fs : List (Nat × Nat)) (cs : List Nat) (c k : Nat) : Bool := fs.contains (c, k) || cs.contains c
def agr (fs : List (Nat × Nat)) (cs : List Nat) (V V' : Vf) : Prop := ∀ c k, wrL fs cs c k = false → V' c k = V c k
theorem agr.rf {fs : List (Nat × Nat)} {cs : List Nat} {V : Vf} : agr fs cs V V := fun _ _ _ => rfl
theorem agr.up {fs : List (Nat × Nat)} {cs : List Nat} {V V1 V2 : Vf} {c k : Nat} {v : Int32} (h : agr fs cs V V1) (hv : V2 = up2 V1 c k v) (hw : wrL fs cs c k = true) : agr fs cs V V2 := by
  intro c' k' hf
  by_cases hc : c' = c
  · subst hc
    by_cases hk : k' = k
    · subst hk
      rw [hw] at hf
      cases hf
    · exact (up2_k hv hk).trans (h _ _ hf)
  · exact (up2_o hv hc).trans (h _ _ hf)
theorem wrL_sub {fs fs' : List (Nat × Nat)} {cs cs' : List Nat} (s1 : ∀ x ∈ fs', x ∈ fs) (s2 : ∀ x ∈ cs', x ∈ cs) {c k : Nat} (h : wrL fs cs c k = false) : wrL fs' cs' c k = false := by
  unfold wrL at h ⊢
  rw [Bool.or_eq_false_iff] at h ⊢
  refine ⟨?_, ?_⟩
  · rw [← Bool.not_eq_true] at h ⊢
    intro q
    have h1 := s1 _ (List.contains_iff_mem.mp q)
    exact h.1 (List.contains_iff_mem.mpr h1)
  · have h2 := h.2
    rw [← Bool.not_eq_true] at h2 ⊢
    intro q
    exact h2 (List.contains_iff_mem.mpr (s2 _ (List.contains_iff_mem.mp q)))
theorem agr.tr {fs fs' : List (Nat × Nat)} {cs cs' : List Nat} {V V1 V2 : Vf} (h : agr fs cs V V1) (h2 : agr fs' cs' V1 V2) (s1 : ∀ x ∈ fs', x ∈ fs) (s2 : ∀ x ∈ cs', x ∈ cs) : agr fs cs V V2 :=
  fun c k hf => (h2 c k (wrL_sub s1 s2 hf)).trans (h c k hf)
def agL (cs : List Nat) (L L' : Lf) : Prop := ∀ c k, cs.contains c = false → L' c k = L c k
theorem agL.rf {cs : List Nat} {L : Lf} : agL cs L L := fun _ _ _ => rfl
theorem agL.up {cs : List Nat} {L L1 L2 : Lf} {c k : Nat} {v : Int64} (h : agL cs L L1) (hv : L2 = upL L1 c k v) (hw : cs.contains c = true) : agL cs L L2 := by
  intro c' k' hf
  by_cases hc : c' = c
  · subst hc
    rw [hw] at hf
    cases hf
  · have e : L2 c' k' = L1 c' k' := by rw [hv]; unfold upL; rw [if_neg hc]
    exact e.trans (h _ _ hf)
theorem agL.tr {cs cs' : List Nat} {L L1 L2 : Lf} (h : agL cs L L1) (h2 : agL cs' L1 L2) (s2 : ∀ x ∈ cs', x ∈ cs) : agL cs L L2 := by
  intro c k hf
  refine (h2 c k ?_).trans (h c k hf)
  rw [← Bool.not_eq_true] at hf ⊢
  intro q
  exact hf (List.contains_iff_mem.mpr (s2 _ (List.contains_iff_mem.mp q)))
def rgd (B : Nat → Nat → Int × Int) (V : Vf) : Prop := ∀ c k, (B c k).1 ≤ (V c k).toInt ∧ (V c k).toInt ≤ (B c k).2
theorem rgd.put {B : Nat → Nat → Int × Int} {V V1 : Vf} {c k : Nat} {v : Int32} (h : rgd B V) (hv : V1 = up2 V c k v) (h1 : (B c k).1 ≤ v.toInt ∧ v.toInt ≤ (B c k).2) : rgd B V1 := by
  intro c' k'
  by_cases hc : c' = c
  · subst hc
    by_cases hk : k' = k
    · subst hk
      rw [up2_s hv]
      exact h1
    · rw [up2_k hv hk]
      exact h _ _
  · rw [up2_o hv hc]
    exact h _ _
theorem i_full (x : Int32) : -2147483648 ≤ x.toInt ∧ x.toInt ≤ 2147483647 := ⟨Int32.le_toInt x, Int32.toInt_le x⟩
theorem i_bm {n : Int} (h : -2147483648 ≤ n ∧ n ≤ 2147483647) : n.bmod (2 ^ 32) = n := by
  rw [Int.bmod_def]
  split <;> omega
theorem i_add {x y z : Int32} {a b : Int} (e : z = x + y) (hx : x.toInt = a) (hy : y.toInt = b) (h : -2147483648 ≤ a + b ∧ a + b ≤ 2147483647) : z.toInt = a + b := by
  rw [e, Int32.toInt_add, hx, hy]
  exact i_bm h
theorem i_sub {x y z : Int32} {a b : Int} (e : z = x - y) (hx : x.toInt = a) (hy : y.toInt = b) (h : -2147483648 ≤ a - b ∧ a - b ≤ 2147483647) : z.toInt = a - b := by
  rw [e, Int32.toInt_sub, hx, hy]
  exact i_bm h
theorem i_mul {x y z : Int32} {a b : Int} (e : z = x * y) (hx : x.toInt = a) (hy : y.toInt = b) (h : -2147483648 ≤ a * b ∧ a * b ≤ 2147483647) : z.toInt = a * b := by
  rw [e, Int32.toInt_mul, hx, hy]
  exact i_bm h
theorem b_lt {x y : Int32} {a b : Int} (hx : x.toInt = a) (hy : y.toInt = b) (h : x < y) : a < b := by rw [← hx, ← hy]; exact Int32.lt_iff_toInt_lt.mp h
theorem b_nlt {x y : Int32} {a b : Int} (hx : x.toInt = a) (hy : y.toInt = b) (h : ¬ x < y) : b ≤ a := by rw [← hx, ← hy]; exact Int.not_lt.mp (fun q => h (Int32.lt_iff_toInt_lt.mpr q))
theorem b_le {x y : Int32} {a b : Int} (hx : x.toInt = a) (hy : y.toInt = b) (h : x ≤ y) : a ≤ b := by rw [← hx, ← hy]; exact Int32.le_iff_toInt_le.mp h
theorem b_nle {x y : Int32} {a b : Int} (hx : x.toInt = a) (hy : y.toInt = b) (h : ¬ x ≤ y) : b < a := by rw [← hx, ← hy]; exact Int.not_le.mp (fun q => h (Int32.le_iff_toInt_le.mpr q))
theorem b_eq {x y : Int32} {a b : Int} (hx : x.toInt = a) (hy : y.toInt = b) (h : x = y) : a = b := by rw [← hx, ← hy, h]
theorem b_neq {x y : Int32} {a b : Int} (hx : x.toInt = a) (hy : y.toInt = b) (h : ¬ x = y) : a ≠ b := by rw [← hx, ← hy]; exact fun q => h (Int32.toInt_inj.mp q)
theorem i_in {x : Int32} {a : Int} {n : Nat} (hx : x.toInt = a) (h : 0 ≤ a ∧ a < n) : vp_in x n := vp_in_iff.mpr (by rw [hx]; exact h)
theorem i_clamp {x : Int32} {a : Int} (hx : x.toInt = a) (h : 0 ≤ a) : ((x.toNatClampNeg : Nat) : Int) = a := by
  rw [← hx]
  have h1 : x.toNatClampNeg = x.toInt.toNat := rfl
  rw [h1]
  omega
theorem nar_b (x : Int32) : 0 ≤ (vp_nar .boolean x).toInt ∧ (vp_nar .boolean x).toInt ≤ 1 := by
  have h : vp_nar .boolean x = x &&& 1 := rfl
  rw [h]
  have h2 : (x &&& 1).toInt = 0 ∨ (x &&& 1).toInt = 1 := by
    have h3 : (x &&& 1).toBitVec = x.toBitVec &&& 1#32 := rfl
    have h4 : x.toBitVec &&& 1#32 = 0#32 ∨ x.toBitVec &&& 1#32 = 1#32 := by
      have h5 : (x.toBitVec &&& 1#32).toNat = x.toBitVec.toNat % 2 := by
        rw [BitVec.toNat_and]
        exact Nat.and_one_is_mod _
      rcases Nat.mod_two_eq_zero_or_one x.toBitVec.toNat with h6 | h6
      · exact Or.inl (BitVec.eq_of_toNat_eq (by rw [h5, h6]; rfl))
      · exact Or.inr (BitVec.eq_of_toNat_eq (by rw [h5, h6]; rfl))
    rcases h4 with h4 | h4
    · left
      show ((x &&& 1).toBitVec).toInt = 0
      rw [h3, h4]; rfl
    · right
      show ((x &&& 1).toBitVec).toInt = 1
      rw [h3, h4]; rfl
  omega
theorem nb_ok {x : Int32} (h : 0 ≤ x.toInt ∧ x.toInt ≤ 1) : narrow .boolean (.int x) = .int x := by
  have h1 : x = 0 ∨ x = 1 := by
    rcases (show x.toInt = 0 ∨ x.toInt = 1 by omega) with h2 | h2
    · exact Or.inl (Int32.toInt_inj.mp h2)
    · exact Or.inr (Int32.toInt_inj.mp h2)
  rcases h1 with rfl | rfl <;> rfl
/-! calls over a whole world -/
section GA
variable {p : Program} {l : Launch} {e : Env} {R : Room} {s : State} {m : MethodId} {args : Array Value} {below : List Frame} {meth : Method} {c : Code} {H : Heap} {locs : List Loc} {cells slots : Nat} {Q : State → Prop}
variable {cc : ByteArray} {pc : Nat} {ls : Array Slot} {st0 rest : List Value} {D : va_G} {ks : KS} {A : Nat → Prop} {tys : List (ClassId × FieldType)} {ws : va_W}
theorem gA_free (hD : va_D A ws) (hS : va_S A s.heap H locs) (hA : ∀ q, s.heap.size ≤ q → A q) : ∀ q, va_A ws H.size q → A q := by
  intro q h
  rcases h with ⟨k, e, h⟩ | h
  · exact hD.2 k _ h
  · exact hA q (Nat.le_trans hS.1 h)
theorem gA_cut (hP : va_P D vwCl ws H) (hD : va_D A ws) (hK : va_K D vwCl tys s) (hS : va_S A s.heap H locs) (hA : ∀ q, s.heap.size ≤ q → A q) (hnw : nw s) (hgk : gk ks A s s.heap) {av : List Value} : ∀ U : State, U.heap = H → s.WarmedH U.vm → va_Pc av (gp D ks ws tys H.size) av.toArray U := by
  intro U hU hW
  refine ⟨rfl, by rw [hU], hnw.warm hW, ?_, by rw [hU]; exact hP, va_K.moved hW.alike hK, hD.weaken (fun _ _ _ _ => trivial)⟩
  rw [hU]
  exact ((hgk.kept hS.2.1).narrow (gA_free hD hS hA)).warm hW
theorem gA_runV {y : MethodName} {bytes : ByteArray} {maxL nL n index : Nat} {ret : Option FieldType} {rm : Room} {Qc : Array Value → State → Outcome → State → Prop} {own C : String} {b : Addr} {As : List Value} {Tf : u_T} {Nf ci q0 : Nat} {fs : List Value}
    (hx : p.tables.exec = Jvm.exec) (hb : c.code = cc) (hml : c.maxLocals = nL) (hown : s.vm.findClass own = some m.cls) (hg : ∀ w ∈ GW, w.before args s = true) (hP : va_P D vwCl ws H) (hD : va_D A ws) (hK : va_K D vwCl tys s) (hS : va_S A s.heap H locs) (hA : ∀ q, s.heap.size ≤ q → A q) (hnw : nw s) (hgk : gk ks A s s.heap)
    (hM : Met l y (Cond.code y bytes maxL ret :: GW) rm (va_Pc (.ref b :: As) (gp D ks ws tys H.size)) Qc rm.cells rm.slots (va_A ws H.size))
    (w1 : Cond.methodLink own index y ∈ GW) (w2 : Cond.instanceMethod y ∈ GW) (w3 : Cond.selects C y y ∈ GW) (w4 : Cond.initialized C ∈ GW) (w5 : Cond.code y bytes maxL ret ∈ GW) (hc : vwCl[ci]? = some (C, Tf, Nf)) (he : ws[q0]? = some (b, .inr (ci, fs)))
    (hd : y.cls = C ∧ y.cls ≠ "java/lang/invoke/MethodHandle" ∧ y.cls ≠ "java/lang/invoke/VarHandle" ∧ (parseMethodDescriptor y.desc).map (fun d => d.parameters.length) = some n) (hR : rm.frames + 1 ≤ R.frames ∧ 8 + (maxL + 11) + rm.locals ≤ R.locals)
    (hn2 : As.length = n) (hsize : ls.size = nL) (hst : st0 = As.reverse ++ .ref b :: rest) (hW : (rest.map fun v => v.category).sum ≤ 8) (hdg : decode cc pc = .ok (.invokevirtual index, 3)) (hf : cells + rm.cells ≤ R.cells ∧ slots + rm.slots ≤ R.slots) :
    va_Run p l e R s m args below meth c H locs cells slots rm.cells rm.slots (F0 m pc ls st0) rest (Qc (Value.ref b :: As).toArray) (va_A ws H.size) :=
  va_runV (As := As) (rest := rest) ⟨hx, hb, hml, hown, hg⟩ hM (cwV n hg (gw_good gw_self (gw_cons w1 (gw_cons w2 (gw_cons w3 (gw_cons w4 (gw_cons w5 gw_self)))))) rfl rfl rfl hd hR) ⟨gp_blind, va_recv hK hP hc he, gA_cut hP hD hK hS hA hnw hgk⟩ rfl hn2 hsize hst (lv_room hW) hdg hf
theorem gA_int {S : Type} {post : Int32 → S → Prop} {wq : S → va_W} {mc ms : Nat} {av : Array Value} (hr : va_Run p l e R s m args below meth c H locs cells slots mc ms (F0 m pc ls st0) rest (va_Qi post (fun u t => gq D (va_A ws H.size) (wq u) tys t) (va_A ws H.size) av) (va_A ws H.size))
    (hP : va_P D vwCl ws H) (hD : va_D A ws) (hK : va_K D vwCl tys s) (hS : va_S A s.heap H locs) (hA : ∀ q, s.heap.size ≤ q → A q)
    (kk : ∀ (r : Int32) (u : S) (H1 : Heap) (locs1 : List Loc), post r u → va_P D vwCl (wq u) H1 → va_D A (wq u) → va_K D vwCl tys s → va_S A s.heap H1 locs1 → W p l e R s m args below meth c H1 locs1 (cells + mc) (slots + ms) Q (F0 m (pc + 3) ls (.int r :: rest))) : W p l e R s m args below meth c H locs cells slots Q (F0 m pc ls st0) := by
  have hF := gA_free hD hS hA
  refine va_calli hr hS (fun q _ h => hF q h) hF (fun r u t H1 locs ht hvm hw hB hz1 hk1 hS => ?_)
  obtain ⟨hP1, hK1, hD1⟩ := hB
  rw [ht] at hP1
  exact kk r u H1 locs hw hP1 (hD1.weaken (fun _ _ _ h => hF _ h)) hK hS
theorem gA_void {S : Type} {post : S → Prop} {wq : S → va_W} {mc ms : Nat} {av : Array Value} (hr : va_Run p l e R s m args below meth c H locs cells slots mc ms (F0 m pc ls st0) rest (va_Qv post (fun u t => gq D (va_A ws H.size) (wq u) tys t) (va_A ws H.size) av) (va_A ws H.size))
    (hP : va_P D vwCl ws H) (hD : va_D A ws) (hK : va_K D vwCl tys s) (hS : va_S A s.heap H locs) (hA : ∀ q, s.heap.size ≤ q → A q)
    (kk : ∀ (u : S) (H1 : Heap) (locs1 : List Loc), post u → va_P D vwCl (wq u) H1 → va_D A (wq u) → va_K D vwCl tys s → va_S A s.heap H1 locs1 → W p l e R s m args below meth c H1 locs1 (cells + mc) (slots + ms) Q (F0 m (pc + 3) ls rest)) : W p l e R s m args below meth c H locs cells slots Q (F0 m pc ls st0) := by
  have hF := gA_free hD hS hA
  refine va_callv hr hS (fun q _ h => hF q h) hF (fun u t H1 locs ht hvm hw hB hz1 hk1 hS => ?_)
  obtain ⟨hP1, hK1, hD1⟩ := hB
  rw [ht] at hP1
  exact kk u H1 locs hw hP1 (hD1.weaken (fun _ _ _ h => hF _ h)) hK hS
theorem gA_long {S : Type} {post : Int64 → S → Prop} {wq : S → va_W} {mc ms : Nat} {av : Array Value} (hr : va_Run p l e R s m args below meth c H locs cells slots mc ms (F0 m pc ls st0) rest (va_Ql post (fun u t => gq D (va_A ws H.size) (wq u) tys t) (va_A ws H.size) av) (va_A ws H.size))
    (hP : va_P D vwCl ws H) (hD : va_D A ws) (hK : va_K D vwCl tys s) (hS : va_S A s.heap H locs) (hA : ∀ q, s.heap.size ≤ q → A q)
    (kk : ∀ (r : Int64) (u : S) (H1 : Heap) (locs1 : List Loc), post r u → va_P D vwCl (wq u) H1 → va_D A (wq u) → va_K D vwCl tys s → va_S A s.heap H1 locs1 → W p l e R s m args below meth c H1 locs1 (cells + mc) (slots + ms) Q (F0 m (pc + 3) ls (.long r :: rest))) : W p l e R s m args below meth c H locs cells slots Q (F0 m pc ls st0) := by
  have hF := gA_free hD hS hA
  refine va_calll hr hS (fun q _ h => hF q h) hF (fun r u t H1 locs ht hvm hw hB hz1 hk1 hS => ?_)
  obtain ⟨hP1, hK1, hD1⟩ := hB
  rw [ht] at hP1
  exact kk r u H1 locs hw hP1 (hD1.weaken (fun _ _ _ h => hF _ h)) hK hS
theorem gE_keep {H1 : Heap} (hP : va_P D vwCl ws H) (hk : ∀ q : Nat, q < H.size → ¬ va_A [] H.size q → H1[q]? = H[q]?) : va_P D vwCl ws H1 :=
  fun k q h => (hP k q h).kept (hk q.1 (hP k q h).lt (fun z => z.elim (fun ⟨_, _, w⟩ => by simp at w) (fun w => absurd (hP k q h).lt (Nat.not_lt.mpr w))))
theorem gE_int {S : Type} {post : Int32 → S → Prop} {mc ms : Nat} {av : Array Value} (hr : va_Run p l e R s m args below meth c H locs cells slots mc ms (F0 m pc ls st0) rest (va_Qi post (fun _ t => gq D (va_A [] H.size) [] [] t) (va_A [] H.size) av) (va_A [] H.size))
    (hP : va_P D vwCl ws H) (hD : va_D A ws) (hK : va_K D vwCl tys s) (hS : va_S A s.heap H locs) (hA : ∀ q, s.heap.size ≤ q → A q)
    (kk : ∀ (r : Int32) (u : S) (H1 : Heap) (locs1 : List Loc), post r u → va_P D vwCl ws H1 → va_D A ws → va_K D vwCl tys s → va_S A s.heap H1 locs1 → W p l e R s m args below meth c H1 locs1 (cells + mc) (slots + ms) Q (F0 m (pc + 3) ls (.int r :: rest))) : W p l e R s m args below meth c H locs cells slots Q (F0 m pc ls st0) := by
  have hF : ∀ q, va_A [] H.size q → A q := fun q z => z.elim (fun ⟨_, _, w⟩ => by simp at w) (fun w => hA q (Nat.le_trans hS.1 w))
  refine va_calli hr hS (fun q _ h => hF q h) hF (fun r u t H1 locs ht hvm hw hB hz1 hk1 hS => ?_)
  exact kk r u H1 locs hw (gE_keep hP hk1) hD hK hS
end GA
theorem and_m {x y z : Int32} {n : Nat} (e : z = x &&& y) (h : y.toBitVec.toNat = n ∧ n < 2 ^ 31) : 0 ≤ z.toInt ∧ z.toInt ≤ n := by
  have h1 : z.toBitVec.toNat ≤ n := by
    rw [e]
    show (x.toBitVec &&& y.toBitVec).toNat ≤ n
    rw [BitVec.toNat_and, h.1]
    exact Nat.and_le_right
  have h2 : z.toInt = z.toBitVec.toInt := rfl
  have h3 : z.toBitVec.toInt = (z.toBitVec.toNat : Int) := BitVec.toInt_eq_toNat_of_lt (by omega)
  omega
/-- 'if .. then ..', closed to omega -/
def Imp (P Q : Prop) : Prop := P → Q
theorem Imp.mk {P Q : Prop} (h : P → Q) : Imp P Q := h
theorem Imp.go {P Q : Prop} (h : Imp P Q) (p : P) : Q := h p
theorem tok_ne {V : Vf} {x : Int32} {n : Nat} (hx : (V 4 n).toInt = 0) (h0 : 0 ≤ x.toInt) : Imp ((V 4 (Int32.toNatClampNeg x)).toInt ≠ 0) (x.toInt ≠ (n : Int)) := fun h e => h (by
  have h1 := i_clamp (x := x) rfl h0
  have h2 : x.toNatClampNeg = n := by omega
  rw [h2]
  exact hx)
theorem lcmp_f {x y : Int64} {z : Int32} (e : z = lg_cmp x y) : (z.toInt = -1 ∧ x.toInt < y.toInt) ∨ (z.toInt = 0 ∧ x.toInt = y.toInt) ∨ (z.toInt = 1 ∧ y.toInt < x.toInt) := by
  rw [e]
  unfold lg_cmp
  split
  · right; right
    rename_i h
    exact ⟨rfl, Int64.lt_iff_toInt_lt.mp h⟩
  · rename_i h1
    split
    · right; left
      rename_i h
      exact ⟨rfl, by rw [h]⟩
    · left
      rename_i h2
      refine ⟨rfl, ?_⟩
      have h3 : ¬ y.toInt < x.toInt := fun q => h1 (Int64.lt_iff_toInt_lt.mpr q)
      have h4 : ¬ x.toInt = y.toInt := fun q => h2 (Int64.toInt_inj.mp q)
      omega
theorem i2l_f {x : Int32} {w : Int64} {a : Int} (e : w = x.toInt64) (hx : x.toInt = a) : w.toInt = a := by
  rw [e, Int32.toInt_toInt64, hx]
theorem l2i_f {w : Int64} {z : Int32} (e : z = w.toInt32) : Imp (-2147483648 ≤ w.toInt ∧ w.toInt ≤ 2147483647) (z.toInt = w.toInt) := fun h => by
  rw [e, Int64.toInt_toInt32]
  exact i_bm h
theorem lcmp_r {x y : Int64} {z : Int32} (e : z = lg_cmp x y) : -1 ≤ z.toInt ∧ z.toInt ≤ 1 := by
  have h := lcmp_f e
  omega
/-! the reference: its one object, its arrays -/
def mfl (ad : Nat → Nat) (k1 : Nat) (V : Vf) : List Value := .int (V 0 0) :: .ref (ad 1) :: .int (V 0 2) :: .int (V 0 3) :: .ref (ad 4) :: .ref (ad 5) :: .ref (ad 6) :: .int (V 0 7) :: .int (V 0 8) :: .ref k1 :: .ref (ad 10) :: .int (V 0 11) :: .int (V 0 12) :: .ref (ad 13) :: .ref (ad 14) :: .ref (ad 15) :: .ref (ad 16) :: .ref (ad 17) :: .ref (ad 18) :: .ref (ad 19) :: .ref (ad 20) :: .ref (ad 21) :: .ref (ad 22) :: .ref (ad 23) :: .ref (ad 24) :: .ref (ad 25) :: .ref (ad 26) :: .ref (ad 27) :: .ref (ad 28) :: .ref (ad 29) :: .ref (ad 30) :: .ref (ad 31) :: .ref (ad 32) :: .ref (ad 33) :: .ref (ad 34) :: .ref (ad 35) :: .ref (ad 36) :: .ref (ad 37) :: .ref (ad 38) :: .ref (ad 39) :: .ref (ad 40) :: .ref (ad 41) :: .ref (ad 42) :: .ref (ad 43) :: .ref (ad 44) :: .ref (ad 45) :: .ref (ad 46) :: .ref (ad 47) :: .int (V 0 48) :: .int (V 0 49) :: .int (V 0 50) :: .int (V 0 51) :: .int (V 0 52) :: .ref (ad 53) :: .int (V 0 54) :: .int (V 0 55) :: .ref (ad 56) :: .ref (ad 57) :: .ref (ad 58) :: .ref (ad 59) :: .int (V 0 60) :: .ref (ad 61) :: .ref (ad 62) :: .ref (ad 63) :: .ref (ad 64) :: .int (V 0 65) :: .ref (ad 66) :: .ref (ad 67) :: .int (V 0 68) :: .int (V 0 69) :: .int (V 0 70) :: .int (V 0 71) :: .int (V 0 72) :: .int (V 0 73) :: .ref (ad 74) :: .ref (ad 75) :: .int (V 0 76) :: .ref (ad 77) :: .ref (ad 78) :: .ref (ad 79) :: .ref (ad 80) :: .int (V 0 81) :: .ref (ad 82) :: .ref (ad 83) :: .ref (ad 84) :: .ref (ad 85) :: .ref (ad 86) :: .ref (ad 87) :: .ref (ad 88) :: .int (V 0 89) :: .int (V 0 90) :: .int (V 0 91) :: .int (V 0 92) :: .int (V 0 93) :: .ref (ad 94) :: .int (V 0 95) :: .int (V 0 96) :: .ref (ad 97) :: .int (V 0 98) :: .int (V 0 99) :: []
def mw (ad : Nat → Nat) (kk : Nat → ClassId) (k1 : Nat) (V : Vf) (L : Lf) : va_W := (ad 0, .inr (12, mfl ad k1 V)) :: (ad 1, .inl (kk 1, 4000, .inl (V 1))) :: (ad 4, .inl (kk 4, 4002, .inl (V 4))) :: (ad 5, .inl (kk 5, 4002, .inl (V 5))) :: (ad 6, .inl (kk 6, 4002, .inr (.inl (L 6)))) :: (ad 10, .inl (kk 10, 30, .inr (.inl (L 10)))) :: (ad 13, .inl (kk 13, 2, .inl (V 13))) :: (ad 14, .inl (kk 14, 48, .inr (.inl (L 14)))) :: (ad 15, .inl (kk 15, 1152, .inl (V 15))) :: (ad 16, .inl (kk 16, 2, .inl (V 16))) :: (ad 17, .inl (kk 17, 24, .inr (.inl (L 17)))) :: (ad 18, .inl (kk 18, 24, .inl (V 18))) :: (ad 19, .inl (kk 19, 2, .inl (V 19))) :: (ad 20, .inl (kk 20, 48, .inr (.inl (L 20)))) :: (ad 21, .inl (kk 21, 1152, .inl (V 21))) :: (ad 22, .inl (kk 22, 48, .inl (V 22))) :: (ad 23, .inl (kk 23, 48, .inl (V 23))) :: (ad 24, .inl (kk 24, 48, .inl (V 24))) :: (ad 25, .inl (kk 25, 48, .inl (V 25))) :: (ad 26, .inl (kk 26, 48, .inl (V 26))) :: (ad 27, .inl (kk 27, 48, .inl (V 27))) :: (ad 28, .inl (kk 28, 384, .inl (V 28))) :: (ad 29, .inl (kk 29, 384, .inl (V 29))) :: (ad 30, .inl (kk 30, 384, .inl (V 30))) :: (ad 31, .inl (kk 31, 384, .inl (V 31))) :: (ad 32, .inl (kk 32, 48, .inl (V 32))) :: (ad 33, .inl (kk 33, 48, .inl (V 33))) :: (ad 34, .inl (kk 34, 960, .inl (V 34))) :: (ad 35, .inl (kk 35, 2, .inl (V 35))) :: (ad 36, .inl (kk 36, 40, .inr (.inl (L 36)))) :: (ad 37, .inl (kk 37, 2, .inl (V 37))) :: (ad 38, .inl (kk 38, 40, .inr (.inl (L 38)))) :: (ad 39, .inl (kk 39, 2, .inl (V 39))) :: (ad 40, .inl (kk 40, 24, .inl (V 40))) :: (ad 41, .inl (kk 41, 24, .inl (V 41))) :: (ad 42, .inl (kk 42, 24, .inl (V 42))) :: (ad 43, .inl (kk 43, 24, .inl (V 43))) :: (ad 44, .inl (kk 44, 24, .inl (V 44))) :: (ad 45, .inl (kk 45, 20000, .inl (V 45))) :: (ad 46, .inl (kk 46, 20000, .inl (V 46))) :: (ad 47, .inl (kk 47, 20000, .inl (V 47))) :: (ad 53, .inl (kk 53, 6, .inl (V 53))) :: (ad 56, .inl (kk 56, 40, .inl (V 56))) :: (ad 57, .inl (kk 57, 40, .inl (V 57))) :: (ad 58, .inl (kk 58, 40, .inl (V 58))) :: (ad 59, .inl (kk 59, 960, .inl (V 59))) :: (ad 61, .inl (kk 61, 300, .inl (V 61))) :: (ad 62, .inl (kk 62, 300, .inl (V 62))) :: (ad 63, .inl (kk 63, 300, .inl (V 63))) :: (ad 64, .inl (kk 64, 300, .inl (V 64))) :: (ad 66, .inl (kk 66, 2400, .inl (V 66))) :: (ad 67, .inl (kk 67, 57600, .inl (V 67))) :: (ad 74, .inl (kk 74, 300, .inl (V 74))) :: (ad 75, .inl (kk 75, 300, .inl (V 75))) :: (ad 77, .inl (kk 77, 100, .inl (V 77))) :: (ad 78, .inl (kk 78, 100, .inl (V 78))) :: (ad 79, .inl (kk 79, 100, .inl (V 79))) :: (ad 80, .inl (kk 80, 24, .inl (V 80))) :: (ad 82, .inl (kk 82, 100, .inl (V 82))) :: (ad 83, .inl (kk 83, 100, .inl (V 83))) :: (ad 84, .inl (kk 84, 100, .inl (V 84))) :: (ad 85, .inl (kk 85, 2400, .inl (V 85))) :: (ad 86, .inl (kk 86, 192, .inl (V 86))) :: (ad 87, .inl (kk 87, 24, .inl (V 87))) :: (ad 88, .inl (kk 88, 24, .inl (V 88))) :: (ad 94, .inl (kk 94, 300, .inl (V 94))) :: (ad 97, .inl (kk 97, 20000, .inl (V 97))) :: []
def mty (kk : Nat → ClassId) : List (ClassId × FieldType) := (kk 1, .int) :: (kk 4, .int) :: (kk 5, .int) :: (kk 6, .long) :: (kk 10, .long) :: (kk 13, .int) :: (kk 14, .long) :: (kk 15, .boolean) :: (kk 16, .int) :: (kk 17, .long) :: (kk 18, .int) :: (kk 19, .int) :: (kk 20, .long) :: (kk 21, .boolean) :: (kk 22, .int) :: (kk 23, .int) :: (kk 24, .int) :: (kk 25, .int) :: (kk 26, .int) :: (kk 27, .int) :: (kk 28, .int) :: (kk 29, .boolean) :: (kk 30, .boolean) :: (kk 31, .int) :: (kk 32, .int) :: (kk 33, .int) :: (kk 34, .int) :: (kk 35, .int) :: (kk 36, .long) :: (kk 37, .int) :: (kk 38, .long) :: (kk 39, .int) :: (kk 40, .int) :: (kk 41, .int) :: (kk 42, .int) :: (kk 43, .int) :: (kk 44, .int) :: (kk 45, .int) :: (kk 46, .int) :: (kk 47, .int) :: (kk 53, .int) :: (kk 56, .boolean) :: (kk 57, .int) :: (kk 58, .int) :: (kk 59, .boolean) :: (kk 61, .int) :: (kk 62, .int) :: (kk 63, .int) :: (kk 64, .int) :: (kk 66, .int) :: (kk 67, .int) :: (kk 74, .int) :: (kk 75, .int) :: (kk 77, .int) :: (kk 78, .int) :: (kk 79, .int) :: (kk 80, .int) :: (kk 82, .int) :: (kk 83, .int) :: (kk 84, .int) :: (kk 85, .int) :: (kk 86, .boolean) :: (kk 87, .int) :: (kk 88, .int) :: (kk 94, .int) :: (kk 97, .int) :: []
def bMf (k : Nat) : Int × Int := match k with
  | 2 => (0, 4000)
  | 3 => (0, 4000)
  | 8 => (0, 70000)
  | 11 => (0, 1)
  | 12 => (0, 1)
  | 48 => (0, 10000)
  | 49 => (0, 10000)
  | 50 => (0, 9)
  | 51 => ((-1), 47)
  | 52 => (0, 1)
  | 54 => (0, 1)
  | 55 => (1, 40)
  | 60 => (0, 300)
  | 65 => (0, 1000000)
  | 68 => (0, 60000)
  | 69 => (0, 3000)
  | 73 => (0, 1000000)
  | 76 => (0, 2000000000)
  | 81 => (0, 1000000)
  | 89 => (0, 24)
  | 93 => (0, 10)
  | 95 => (0, 300)
  | 98 => (0, 20000)
  | 99 => (0, 1)
  | _ => (-2147483648, 2147483647)
def bM (c k : Nat) : Int × Int := match c with
  | 0 => bMf k
  | 5 => (0, 4000)
  | 13 => (0, 24)
  | 15 => (0, 1)
  | 16 => (0, 12)
  | 19 => (0, 24)
  | 21 => (0, 1)
  | 24 => (0, 9)
  | 25 => ((-1), 11)
  | 27 => (0, 8)
  | 28 => ((-1), 23)
  | 29 => (0, 1)
  | 30 => (0, 1)
  | 35 => (0, 20)
  | 37 => (0, 20)
  | 39 => (0, 12)
  | 40 => ((-1), 23)
  | 42 => (0, 99)
  | 43 => (0, 3)
  | 53 => ((-1), 23)
  | 56 => (0, 1)
  | 58 => ((-1), 39)
  | 59 => (0, 1)
  | 61 => (0, 23)
  | 62 => (0, 39)
  | 63 => (0, 2)
  | 66 => (0, 24)
  | 67 => (0, 299)
  | 80 => (0, 23)
  | 84 => ((-1), 24)
  | 86 => (0, 1)
  | 87 => (0, 2)
  | 88 => (0, 23)
  | 94 => (0, 299)
  | _ => (-2147483648, 2147483647)
end
section
theorem w1705 : Cond.code yX12_isLetter cX12_isLetter 1 (some .boolean) ∈ GW := gw_k tk9_7 110 (rfl) rfl
theorem w1703 : Cond.methodLink RX12 247 yX12_isLetter ∈ GW := gw_k tk9_7 108 (by decide +kernel) rfl
theorem w172 : Cond.initialized RX12 ∈ GW := gw_k tk9_1 17 (by decide +kernel) rfl
theorem w1704 : Cond.static yX12_isLetter ∈ GW := gw_k tk9_7 109 (by decide +kernel) rfl
theorem hdS_yX12_isLetter : yX12_isLetter.cls ≠ "java/lang/invoke/MethodHandle" ∧ yX12_isLetter.cls ≠ "java/lang/invoke/VarHandle" ∧ (parseMethodDescriptor yX12_isLetter.desc).map (fun d => d.parameters.length) = some 1 := by decide +kernel
theorem w1775 : Cond.fieldLink RX12 432 "WiringHouseModel" "latest" "I" ∈ GW := gw_k tk9_7 180 (by decide +kernel) rfl
theorem w1774 : Cond.fieldLink RX12 477 "WiringHouseModel" "steps" "I" ∈ GW := gw_k tk9_7 179 (by decide +kernel) rfl
theorem w2263 : Cond.constant RX12 480 60000 ∈ GW := gw_k tk9_9 188 (by decide +kernel) rfl
theorem w1796 : Cond.fieldLink RX12 471 "WiringHouseModel" "twenties" "I" ∈ GW := gw_k tk9_7 201 (by decide +kernel) rfl
theorem w1797 : Cond.fieldLink RX12 474 "WiringHouseModel" "kind" "I" ∈ GW := gw_k tk9_7 202 (by decide +kernel) rfl
theorem w1706 : Cond.fieldLink RX12 1 "WiringHouseModel" "thrown" "I" ∈ GW := gw_k tk9_7 111 (by decide +kernel) rfl
theorem w1777 : Cond.fieldLink RX12 426 "WiringHouseModel" "causeTwenties" "I" ∈ GW := gw_k tk9_7 182 (by decide +kernel) rfl
theorem w1778 : Cond.fieldLink RX12 429 "WiringHouseModel" "causeKind" "I" ∈ GW := gw_k tk9_7 183 (by decide +kernel) rfl
theorem w1776 : Cond.fieldLink RX12 423 "WiringHouseModel" "outcome" "I" ∈ GW := gw_k tk9_7 181 (by decide +kernel) rfl
theorem dk9_dX12_isLetter_0_0 : dOk cX12_isLetter [(0, .iload_n 0, 1), (1, .bipush 97, 2), (3, .if_icmp .lt 13, 3), (16, .iconst 0, 1), (17, .ireturn, 1), (6, .iload_n 0, 1), (7, .bipush 122, 2), (9, .if_icmp .gt 7, 3), (12, .iconst 1, 1), (13, .goto 4, 3)] = true := by decide +kernel
theorem dX12_isLetter_0 : decode cX12_isLetter 0 = .ok (.iload_n 0, 1) := dr9 dk9_dX12_isLetter_0_0 0 (0, .iload_n 0, 1) rfl
theorem dX12_isLetter_1 : decode cX12_isLetter 1 = .ok (.bipush 97, 2) := dr9 dk9_dX12_isLetter_0_0 1 (1, .bipush 97, 2) rfl
theorem dX12_isLetter_3 : decode cX12_isLetter 3 = .ok (.if_icmp .lt 13, 3) := dr9 dk9_dX12_isLetter_0_0 2 (3, .if_icmp .lt 13, 3) rfl
theorem dX12_isLetter_16 : decode cX12_isLetter 16 = .ok (.iconst 0, 1) := dr9 dk9_dX12_isLetter_0_0 3 (16, .iconst 0, 1) rfl
theorem dX12_isLetter_17 : decode cX12_isLetter 17 = .ok (.ireturn, 1) := dr9 dk9_dX12_isLetter_0_0 4 (17, .ireturn, 1) rfl
theorem dX12_isLetter_6 : decode cX12_isLetter 6 = .ok (.iload_n 0, 1) := dr9 dk9_dX12_isLetter_0_0 5 (6, .iload_n 0, 1) rfl
theorem dX12_isLetter_7 : decode cX12_isLetter 7 = .ok (.bipush 122, 2) := dr9 dk9_dX12_isLetter_0_0 6 (7, .bipush 122, 2) rfl
theorem dX12_isLetter_9 : decode cX12_isLetter 9 = .ok (.if_icmp .gt 7, 3) := dr9 dk9_dX12_isLetter_0_0 7 (9, .if_icmp .gt 7, 3) rfl
theorem dX12_isLetter_12 : decode cX12_isLetter 12 = .ok (.iconst 1, 1) := dr9 dk9_dX12_isLetter_0_0 8 (12, .iconst 1, 1) rfl
theorem dX12_isLetter_13 : decode cX12_isLetter 13 = .ok (.goto 4, 3) := dr9 dk9_dX12_isLetter_0_0 9 (13, .goto 4, 3) rfl
theorem dk9_dX12_isDigit_0_0 : dOk cX12_isDigit [(0, .iload_n 0, 1), (1, .bipush 48, 2), (3, .if_icmp .lt 13, 3), (16, .iconst 0, 1), (17, .ireturn, 1), (6, .iload_n 0, 1), (7, .bipush 57, 2), (9, .if_icmp .gt 7, 3), (12, .iconst 1, 1), (13, .goto 4, 3)] = true := by decide +kernel
theorem dX12_isDigit_0 : decode cX12_isDigit 0 = .ok (.iload_n 0, 1) := dr9 dk9_dX12_isDigit_0_0 0 (0, .iload_n 0, 1) rfl
theorem dX12_isDigit_1 : decode cX12_isDigit 1 = .ok (.bipush 48, 2) := dr9 dk9_dX12_isDigit_0_0 1 (1, .bipush 48, 2) rfl
theorem dX12_isDigit_3 : decode cX12_isDigit 3 = .ok (.if_icmp .lt 13, 3) := dr9 dk9_dX12_isDigit_0_0 2 (3, .if_icmp .lt 13, 3) rfl
theorem dX12_isDigit_16 : decode cX12_isDigit 16 = .ok (.iconst 0, 1) := dr9 dk9_dX12_isDigit_0_0 3 (16, .iconst 0, 1) rfl
theorem dX12_isDigit_17 : decode cX12_isDigit 17 = .ok (.ireturn, 1) := dr9 dk9_dX12_isDigit_0_0 4 (17, .ireturn, 1) rfl
theorem dX12_isDigit_6 : decode cX12_isDigit 6 = .ok (.iload_n 0, 1) := dr9 dk9_dX12_isDigit_0_0 5 (6, .iload_n 0, 1) rfl
theorem dX12_isDigit_7 : decode cX12_isDigit 7 = .ok (.bipush 57, 2) := dr9 dk9_dX12_isDigit_0_0 6 (7, .bipush 57, 2) rfl
theorem dX12_isDigit_9 : decode cX12_isDigit 9 = .ok (.if_icmp .gt 7, 3) := dr9 dk9_dX12_isDigit_0_0 7 (9, .if_icmp .gt 7, 3) rfl
theorem dX12_isDigit_12 : decode cX12_isDigit 12 = .ok (.iconst 1, 1) := dr9 dk9_dX12_isDigit_0_0 8 (12, .iconst 1, 1) rfl
theorem dX12_isDigit_13 : decode cX12_isDigit 13 = .ok (.goto 4, 3) := dr9 dk9_dX12_isDigit_0_0 9 (13, .goto 4, 3) rfl
theorem dk9_dX12_rank_0_0 : dOk cX12_rank [(0, .iload_n 0, 1), (1, .invokestatic 247, 3), (4, .ifCond .eq 10, 3), (14, .iload_n 0, 1), (15, .bipush 21, 2), (17, .isub, 1), (18, .ireturn, 1), (7, .iload_n 0, 1), (8, .bipush 96, 2), (10, .isub, 1), (11, .goto 7, 3)] = true := by decide +kernel
theorem dX12_rank_0 : decode cX12_rank 0 = .ok (.iload_n 0, 1) := dr9 dk9_dX12_rank_0_0 0 (0, .iload_n 0, 1) rfl
theorem dX12_rank_1 : decode cX12_rank 1 = .ok (.invokestatic 247, 3) := dr9 dk9_dX12_rank_0_0 1 (1, .invokestatic 247, 3) rfl
theorem dX12_rank_4 : decode cX12_rank 4 = .ok (.ifCond .eq 10, 3) := dr9 dk9_dX12_rank_0_0 2 (4, .ifCond .eq 10, 3) rfl
theorem dX12_rank_14 : decode cX12_rank 14 = .ok (.iload_n 0, 1) := dr9 dk9_dX12_rank_0_0 3 (14, .iload_n 0, 1) rfl
theorem dX12_rank_15 : decode cX12_rank 15 = .ok (.bipush 21, 2) := dr9 dk9_dX12_rank_0_0 4 (15, .bipush 21, 2) rfl
theorem dX12_rank_17 : decode cX12_rank 17 = .ok (.isub, 1) := dr9 dk9_dX12_rank_0_0 5 (17, .isub, 1) rfl
theorem dX12_rank_18 : decode cX12_rank 18 = .ok (.ireturn, 1) := dr9 dk9_dX12_rank_0_0 6 (18, .ireturn, 1) rfl
theorem dX12_rank_7 : decode cX12_rank 7 = .ok (.iload_n 0, 1) := dr9 dk9_dX12_rank_0_0 7 (7, .iload_n 0, 1) rfl
theorem dX12_rank_8 : decode cX12_rank 8 = .ok (.bipush 96, 2) := dr9 dk9_dX12_rank_0_0 8 (8, .bipush 96, 2) rfl
theorem dX12_rank_10 : decode cX12_rank 10 = .ok (.isub, 1) := dr9 dk9_dX12_rank_0_0 9 (10, .isub, 1) rfl
theorem dX12_rank_11 : decode cX12_rank 11 = .ok (.goto 7, 3) := dr9 dk9_dX12_rank_0_0 10 (11, .goto 7, 3) rfl
theorem dk9_dX12_isSignOf_0_0 : dOk cX12_isSignOf [(0, .iload_n 0, 1), (1, .bipush 123, 2), (3, .if_icmp .eq 69, 3), (72, .iconst 1, 1), (73, .goto 4, 3), (77, .ireturn, 1), (6, .iload_n 0, 1), (7, .bipush 125, 2), (9, .if_icmp .eq 63, 3), (12, .iload_n 0, 1), (13, .bipush 40, 2), (15, .if_icmp .eq 57, 3), (18, .iload_n 0, 1), (19, .bipush 41, 2), (21, .if_icmp .eq 51, 3), (24, .iload_n 0, 1), (25, .bipush 44, 2), (27, .if_icmp .eq 45, 3), (30, .iload_n 0, 1), (31, .bipush 59, 2), (33, .if_icmp .eq 39, 3), (36, .iload_n 0, 1), (37, .bipush 61, 2), (39, .if_icmp .eq 33, 3)] = true ∧ dOk cX12_isSignOf [(42, .iload_n 0, 1), (43, .bipush 60, 2), (45, .if_icmp .eq 27, 3), (48, .iload_n 0, 1), (49, .bipush 43, 2), (51, .if_icmp .eq 21, 3), (54, .iload_n 0, 1), (55, .bipush 45, 2), (57, .if_icmp .eq 15, 3), (60, .iload_n 0, 1), (61, .bipush 42, 2), (63, .if_icmp .eq 9, 3), (66, .iload_n 0, 1), (67, .bipush 46, 2), (69, .if_icmp .ne 7, 3), (76, .iconst 0, 1)] = true := by decide +kernel
theorem dX12_isSignOf_0 : decode cX12_isSignOf 0 = .ok (.iload_n 0, 1) := dr9 dk9_dX12_isSignOf_0_0.1 0 (0, .iload_n 0, 1) rfl
theorem dX12_isSignOf_1 : decode cX12_isSignOf 1 = .ok (.bipush 123, 2) := dr9 dk9_dX12_isSignOf_0_0.1 1 (1, .bipush 123, 2) rfl
theorem dX12_isSignOf_3 : decode cX12_isSignOf 3 = .ok (.if_icmp .eq 69, 3) := dr9 dk9_dX12_isSignOf_0_0.1 2 (3, .if_icmp .eq 69, 3) rfl
theorem dX12_isSignOf_72 : decode cX12_isSignOf 72 = .ok (.iconst 1, 1) := dr9 dk9_dX12_isSignOf_0_0.1 3 (72, .iconst 1, 1) rfl
theorem dX12_isSignOf_73 : decode cX12_isSignOf 73 = .ok (.goto 4, 3) := dr9 dk9_dX12_isSignOf_0_0.1 4 (73, .goto 4, 3) rfl
theorem dX12_isSignOf_77 : decode cX12_isSignOf 77 = .ok (.ireturn, 1) := dr9 dk9_dX12_isSignOf_0_0.1 5 (77, .ireturn, 1) rfl
theorem dX12_isSignOf_6 : decode cX12_isSignOf 6 = .ok (.iload_n 0, 1) := dr9 dk9_dX12_isSignOf_0_0.1 6 (6, .iload_n 0, 1) rfl
theorem dX12_isSignOf_7 : decode cX12_isSignOf 7 = .ok (.bipush 125, 2) := dr9 dk9_dX12_isSignOf_0_0.1 7 (7, .bipush 125, 2) rfl
theorem dX12_isSignOf_9 : decode cX12_isSignOf 9 = .ok (.if_icmp .eq 63, 3) := dr9 dk9_dX12_isSignOf_0_0.1 8 (9, .if_icmp .eq 63, 3) rfl
theorem dX12_isSignOf_12 : decode cX12_isSignOf 12 = .ok (.iload_n 0, 1) := dr9 dk9_dX12_isSignOf_0_0.1 9 (12, .iload_n 0, 1) rfl
theorem dX12_isSignOf_13 : decode cX12_isSignOf 13 = .ok (.bipush 40, 2) := dr9 dk9_dX12_isSignOf_0_0.1 10 (13, .bipush 40, 2) rfl
theorem dX12_isSignOf_15 : decode cX12_isSignOf 15 = .ok (.if_icmp .eq 57, 3) := dr9 dk9_dX12_isSignOf_0_0.1 11 (15, .if_icmp .eq 57, 3) rfl
theorem dX12_isSignOf_18 : decode cX12_isSignOf 18 = .ok (.iload_n 0, 1) := dr9 dk9_dX12_isSignOf_0_0.1 12 (18, .iload_n 0, 1) rfl
theorem dX12_isSignOf_19 : decode cX12_isSignOf 19 = .ok (.bipush 41, 2) := dr9 dk9_dX12_isSignOf_0_0.1 13 (19, .bipush 41, 2) rfl
theorem dX12_isSignOf_21 : decode cX12_isSignOf 21 = .ok (.if_icmp .eq 51, 3) := dr9 dk9_dX12_isSignOf_0_0.1 14 (21, .if_icmp .eq 51, 3) rfl
theorem dX12_isSignOf_24 : decode cX12_isSignOf 24 = .ok (.iload_n 0, 1) := dr9 dk9_dX12_isSignOf_0_0.1 15 (24, .iload_n 0, 1) rfl
theorem dX12_isSignOf_25 : decode cX12_isSignOf 25 = .ok (.bipush 44, 2) := dr9 dk9_dX12_isSignOf_0_0.1 16 (25, .bipush 44, 2) rfl
theorem dX12_isSignOf_27 : decode cX12_isSignOf 27 = .ok (.if_icmp .eq 45, 3) := dr9 dk9_dX12_isSignOf_0_0.1 17 (27, .if_icmp .eq 45, 3) rfl
theorem dX12_isSignOf_30 : decode cX12_isSignOf 30 = .ok (.iload_n 0, 1) := dr9 dk9_dX12_isSignOf_0_0.1 18 (30, .iload_n 0, 1) rfl
theorem dX12_isSignOf_31 : decode cX12_isSignOf 31 = .ok (.bipush 59, 2) := dr9 dk9_dX12_isSignOf_0_0.1 19 (31, .bipush 59, 2) rfl
theorem dX12_isSignOf_33 : decode cX12_isSignOf 33 = .ok (.if_icmp .eq 39, 3) := dr9 dk9_dX12_isSignOf_0_0.1 20 (33, .if_icmp .eq 39, 3) rfl
theorem dX12_isSignOf_36 : decode cX12_isSignOf 36 = .ok (.iload_n 0, 1) := dr9 dk9_dX12_isSignOf_0_0.1 21 (36, .iload_n 0, 1) rfl
theorem dX12_isSignOf_37 : decode cX12_isSignOf 37 = .ok (.bipush 61, 2) := dr9 dk9_dX12_isSignOf_0_0.1 22 (37, .bipush 61, 2) rfl
theorem dX12_isSignOf_39 : decode cX12_isSignOf 39 = .ok (.if_icmp .eq 33, 3) := dr9 dk9_dX12_isSignOf_0_0.1 23 (39, .if_icmp .eq 33, 3) rfl
theorem dX12_isSignOf_42 : decode cX12_isSignOf 42 = .ok (.iload_n 0, 1) := dr9 dk9_dX12_isSignOf_0_0.2 0 (42, .iload_n 0, 1) rfl
theorem dX12_isSignOf_43 : decode cX12_isSignOf 43 = .ok (.bipush 60, 2) := dr9 dk9_dX12_isSignOf_0_0.2 1 (43, .bipush 60, 2) rfl
theorem dX12_isSignOf_45 : decode cX12_isSignOf 45 = .ok (.if_icmp .eq 27, 3) := dr9 dk9_dX12_isSignOf_0_0.2 2 (45, .if_icmp .eq 27, 3) rfl
theorem dX12_isSignOf_48 : decode cX12_isSignOf 48 = .ok (.iload_n 0, 1) := dr9 dk9_dX12_isSignOf_0_0.2 3 (48, .iload_n 0, 1) rfl
theorem dX12_isSignOf_49 : decode cX12_isSignOf 49 = .ok (.bipush 43, 2) := dr9 dk9_dX12_isSignOf_0_0.2 4 (49, .bipush 43, 2) rfl
theorem dX12_isSignOf_51 : decode cX12_isSignOf 51 = .ok (.if_icmp .eq 21, 3) := dr9 dk9_dX12_isSignOf_0_0.2 5 (51, .if_icmp .eq 21, 3) rfl
theorem dX12_isSignOf_54 : decode cX12_isSignOf 54 = .ok (.iload_n 0, 1) := dr9 dk9_dX12_isSignOf_0_0.2 6 (54, .iload_n 0, 1) rfl
theorem dX12_isSignOf_55 : decode cX12_isSignOf 55 = .ok (.bipush 45, 2) := dr9 dk9_dX12_isSignOf_0_0.2 7 (55, .bipush 45, 2) rfl
theorem dX12_isSignOf_57 : decode cX12_isSignOf 57 = .ok (.if_icmp .eq 15, 3) := dr9 dk9_dX12_isSignOf_0_0.2 8 (57, .if_icmp .eq 15, 3) rfl
theorem dX12_isSignOf_60 : decode cX12_isSignOf 60 = .ok (.iload_n 0, 1) := dr9 dk9_dX12_isSignOf_0_0.2 9 (60, .iload_n 0, 1) rfl
theorem dX12_isSignOf_61 : decode cX12_isSignOf 61 = .ok (.bipush 42, 2) := dr9 dk9_dX12_isSignOf_0_0.2 10 (61, .bipush 42, 2) rfl
theorem dX12_isSignOf_63 : decode cX12_isSignOf 63 = .ok (.if_icmp .eq 9, 3) := dr9 dk9_dX12_isSignOf_0_0.2 11 (63, .if_icmp .eq 9, 3) rfl
theorem dX12_isSignOf_66 : decode cX12_isSignOf 66 = .ok (.iload_n 0, 1) := dr9 dk9_dX12_isSignOf_0_0.2 12 (66, .iload_n 0, 1) rfl
theorem dX12_isSignOf_67 : decode cX12_isSignOf 67 = .ok (.bipush 46, 2) := dr9 dk9_dX12_isSignOf_0_0.2 13 (67, .bipush 46, 2) rfl
theorem dX12_isSignOf_69 : decode cX12_isSignOf 69 = .ok (.if_icmp .ne 7, 3) := dr9 dk9_dX12_isSignOf_0_0.2 14 (69, .if_icmp .ne 7, 3) rfl
theorem dX12_isSignOf_76 : decode cX12_isSignOf 76 = .ok (.iconst 0, 1) := dr9 dk9_dX12_isSignOf_0_0.2 15 (76, .iconst 0, 1) rfl
theorem dk9_dX12_step_0_0 : dOk cX12_step [(0, .aload_n 0, 1), (1, .getfield 432, 3), (4, .sipush 3000, 3), (7, .if_icmp .eq 13, 3), (20, .iconst 0, 1), (21, .ireturn, 1), (10, .aload_n 0, 1), (11, .getfield 477, 3), (14, .ldc_w 480, 3), (17, .if_icmp .ne 5, 3), (22, .aload_n 0, 1), (23, .dup, 1), (24, .getfield 432, 3), (27, .iconst 1, 1), (28, .iadd, 1), (29, .putfield 432, 3), (32, .aload_n 0, 1), (33, .dup, 1), (34, .getfield 477, 3), (37, .iconst 1, 1), (38, .iadd, 1), (39, .putfield 477, 3), (42, .iconst 1, 1), (43, .ireturn, 1)] = true := by decide +kernel
theorem dX12_step_0 : decode cX12_step 0 = .ok (.aload_n 0, 1) := dr9 dk9_dX12_step_0_0 0 (0, .aload_n 0, 1) rfl
theorem dX12_step_1 : decode cX12_step 1 = .ok (.getfield 432, 3) := dr9 dk9_dX12_step_0_0 1 (1, .getfield 432, 3) rfl
theorem dX12_step_4 : decode cX12_step 4 = .ok (.sipush 3000, 3) := dr9 dk9_dX12_step_0_0 2 (4, .sipush 3000, 3) rfl
theorem dX12_step_7 : decode cX12_step 7 = .ok (.if_icmp .eq 13, 3) := dr9 dk9_dX12_step_0_0 3 (7, .if_icmp .eq 13, 3) rfl
theorem dX12_step_20 : decode cX12_step 20 = .ok (.iconst 0, 1) := dr9 dk9_dX12_step_0_0 4 (20, .iconst 0, 1) rfl
theorem dX12_step_21 : decode cX12_step 21 = .ok (.ireturn, 1) := dr9 dk9_dX12_step_0_0 5 (21, .ireturn, 1) rfl
theorem dX12_step_10 : decode cX12_step 10 = .ok (.aload_n 0, 1) := dr9 dk9_dX12_step_0_0 6 (10, .aload_n 0, 1) rfl
theorem dX12_step_11 : decode cX12_step 11 = .ok (.getfield 477, 3) := dr9 dk9_dX12_step_0_0 7 (11, .getfield 477, 3) rfl
theorem dX12_step_14 : decode cX12_step 14 = .ok (.ldc_w 480, 3) := dr9 dk9_dX12_step_0_0 8 (14, .ldc_w 480, 3) rfl
theorem dX12_step_17 : decode cX12_step 17 = .ok (.if_icmp .ne 5, 3) := dr9 dk9_dX12_step_0_0 9 (17, .if_icmp .ne 5, 3) rfl
theorem dX12_step_22 : decode cX12_step 22 = .ok (.aload_n 0, 1) := dr9 dk9_dX12_step_0_0 10 (22, .aload_n 0, 1) rfl
theorem dX12_step_23 : decode cX12_step 23 = .ok (.dup, 1) := dr9 dk9_dX12_step_0_0 11 (23, .dup, 1) rfl
theorem dX12_step_24 : decode cX12_step 24 = .ok (.getfield 432, 3) := dr9 dk9_dX12_step_0_0 12 (24, .getfield 432, 3) rfl
theorem dX12_step_27 : decode cX12_step 27 = .ok (.iconst 1, 1) := dr9 dk9_dX12_step_0_0 13 (27, .iconst 1, 1) rfl
theorem dX12_step_28 : decode cX12_step 28 = .ok (.iadd, 1) := dr9 dk9_dX12_step_0_0 14 (28, .iadd, 1) rfl
theorem dX12_step_29 : decode cX12_step 29 = .ok (.putfield 432, 3) := dr9 dk9_dX12_step_0_0 15 (29, .putfield 432, 3) rfl
theorem dX12_step_32 : decode cX12_step 32 = .ok (.aload_n 0, 1) := dr9 dk9_dX12_step_0_0 16 (32, .aload_n 0, 1) rfl
theorem dX12_step_33 : decode cX12_step 33 = .ok (.dup, 1) := dr9 dk9_dX12_step_0_0 17 (33, .dup, 1) rfl
theorem dX12_step_34 : decode cX12_step 34 = .ok (.getfield 477, 3) := dr9 dk9_dX12_step_0_0 18 (34, .getfield 477, 3) rfl
theorem dX12_step_37 : decode cX12_step 37 = .ok (.iconst 1, 1) := dr9 dk9_dX12_step_0_0 19 (37, .iconst 1, 1) rfl
theorem dX12_step_38 : decode cX12_step 38 = .ok (.iadd, 1) := dr9 dk9_dX12_step_0_0 20 (38, .iadd, 1) rfl
theorem dX12_step_39 : decode cX12_step 39 = .ok (.putfield 477, 3) := dr9 dk9_dX12_step_0_0 21 (39, .putfield 477, 3) rfl
theorem dX12_step_42 : decode cX12_step 42 = .ok (.iconst 1, 1) := dr9 dk9_dX12_step_0_0 22 (42, .iconst 1, 1) rfl
theorem dX12_step_43 : decode cX12_step 43 = .ok (.ireturn, 1) := dr9 dk9_dX12_step_0_0 23 (43, .ireturn, 1) rfl
theorem dk9_dX12_fails_0_0 : dOk cX12_fails [(0, .aload_n 0, 1), (1, .iconst 0, 1), (2, .putfield 471, 3), (5, .aload_n 0, 1), (6, .iload_n 1, 1), (7, .putfield 474, 3), (10, .iconst 1, 1), (11, .ireturn, 1)] = true := by decide +kernel
theorem dX12_fails_0 : decode cX12_fails 0 = .ok (.aload_n 0, 1) := dr9 dk9_dX12_fails_0_0 0 (0, .aload_n 0, 1) rfl
theorem dX12_fails_1 : decode cX12_fails 1 = .ok (.iconst 0, 1) := dr9 dk9_dX12_fails_0_0 1 (1, .iconst 0, 1) rfl
theorem dX12_fails_2 : decode cX12_fails 2 = .ok (.putfield 471, 3) := dr9 dk9_dX12_fails_0_0 2 (2, .putfield 471, 3) rfl
theorem dX12_fails_5 : decode cX12_fails 5 = .ok (.aload_n 0, 1) := dr9 dk9_dX12_fails_0_0 3 (5, .aload_n 0, 1) rfl
theorem dX12_fails_6 : decode cX12_fails 6 = .ok (.iload_n 1, 1) := dr9 dk9_dX12_fails_0_0 4 (6, .iload_n 1, 1) rfl
theorem dX12_fails_7 : decode cX12_fails 7 = .ok (.putfield 474, 3) := dr9 dk9_dX12_fails_0_0 5 (7, .putfield 474, 3) rfl
theorem dX12_fails_10 : decode cX12_fails 10 = .ok (.iconst 1, 1) := dr9 dk9_dX12_fails_0_0 6 (10, .iconst 1, 1) rfl
theorem dX12_fails_11 : decode cX12_fails 11 = .ok (.ireturn, 1) := dr9 dk9_dX12_fails_0_0 7 (11, .ireturn, 1) rfl
theorem dk9_dX12_longness_0_0 : dOk cX12_longness [(0, .iload_n 0, 1), (1, .ifCond .ne 7, 3), (8, .iload_n 0, 1), (9, .iconst 1, 1), (10, .if_icmp .ne 7, 3), (17, .iconst 1, 1), (18, .ireturn, 1), (13, .iconst 2, 1), (14, .goto 4, 3), (4, .iconst 3, 1), (5, .goto 13, 3)] = true := by decide +kernel
theorem dX12_longness_0 : decode cX12_longness 0 = .ok (.iload_n 0, 1) := dr9 dk9_dX12_longness_0_0 0 (0, .iload_n 0, 1) rfl
theorem dX12_longness_1 : decode cX12_longness 1 = .ok (.ifCond .ne 7, 3) := dr9 dk9_dX12_longness_0_0 1 (1, .ifCond .ne 7, 3) rfl
theorem dX12_longness_8 : decode cX12_longness 8 = .ok (.iload_n 0, 1) := dr9 dk9_dX12_longness_0_0 2 (8, .iload_n 0, 1) rfl
theorem dX12_longness_9 : decode cX12_longness 9 = .ok (.iconst 1, 1) := dr9 dk9_dX12_longness_0_0 3 (9, .iconst 1, 1) rfl
theorem dX12_longness_10 : decode cX12_longness 10 = .ok (.if_icmp .ne 7, 3) := dr9 dk9_dX12_longness_0_0 4 (10, .if_icmp .ne 7, 3) rfl
theorem dX12_longness_17 : decode cX12_longness 17 = .ok (.iconst 1, 1) := dr9 dk9_dX12_longness_0_0 5 (17, .iconst 1, 1) rfl
theorem dX12_longness_18 : decode cX12_longness 18 = .ok (.ireturn, 1) := dr9 dk9_dX12_longness_0_0 6 (18, .ireturn, 1) rfl
theorem dX12_longness_13 : decode cX12_longness 13 = .ok (.iconst 2, 1) := dr9 dk9_dX12_longness_0_0 7 (13, .iconst 2, 1) rfl
theorem dX12_longness_14 : decode cX12_longness 14 = .ok (.goto 4, 3) := dr9 dk9_dX12_longness_0_0 8 (14, .goto 4, 3) rfl
theorem dX12_longness_4 : decode cX12_longness 4 = .ok (.iconst 3, 1) := dr9 dk9_dX12_longness_0_0 9 (4, .iconst 3, 1) rfl
theorem dX12_longness_5 : decode cX12_longness 5 = .ok (.goto 13, 3) := dr9 dk9_dX12_longness_0_0 10 (5, .goto 13, 3) rfl
theorem dk9_dX12_cause_0_0 : dOk cX12_cause [(0, .aload_n 0, 1), (1, .iconst 0, 1), (2, .putfield 1, 3), (5, .iload_n 1, 1), (6, .ifCond .lt 16, 3), (22, .iload_n 1, 1), (23, .aload_n 0, 1), (24, .getfield 426, 3), (27, .if_icmp .ne 10, 3), (37, .iconst 0, 1), (38, .ireturn, 1), (30, .aload_n 0, 1), (31, .getfield 429, 3), (34, .goto 4, 3), (9, .iload_n 1, 1), (10, .aload_n 0, 1), (11, .getfield 426, 3), (14, .if_icmp .ge 8, 3), (17, .bipush 20, 2), (19, .goto 19, 3)] = true := by decide +kernel
theorem dX12_cause_0 : decode cX12_cause 0 = .ok (.aload_n 0, 1) := dr9 dk9_dX12_cause_0_0 0 (0, .aload_n 0, 1) rfl
theorem dX12_cause_1 : decode cX12_cause 1 = .ok (.iconst 0, 1) := dr9 dk9_dX12_cause_0_0 1 (1, .iconst 0, 1) rfl
theorem dX12_cause_2 : decode cX12_cause 2 = .ok (.putfield 1, 3) := dr9 dk9_dX12_cause_0_0 2 (2, .putfield 1, 3) rfl
theorem dX12_cause_5 : decode cX12_cause 5 = .ok (.iload_n 1, 1) := dr9 dk9_dX12_cause_0_0 3 (5, .iload_n 1, 1) rfl
theorem dX12_cause_6 : decode cX12_cause 6 = .ok (.ifCond .lt 16, 3) := dr9 dk9_dX12_cause_0_0 4 (6, .ifCond .lt 16, 3) rfl
theorem dX12_cause_22 : decode cX12_cause 22 = .ok (.iload_n 1, 1) := dr9 dk9_dX12_cause_0_0 5 (22, .iload_n 1, 1) rfl
theorem dX12_cause_23 : decode cX12_cause 23 = .ok (.aload_n 0, 1) := dr9 dk9_dX12_cause_0_0 6 (23, .aload_n 0, 1) rfl
theorem dX12_cause_24 : decode cX12_cause 24 = .ok (.getfield 426, 3) := dr9 dk9_dX12_cause_0_0 7 (24, .getfield 426, 3) rfl
theorem dX12_cause_27 : decode cX12_cause 27 = .ok (.if_icmp .ne 10, 3) := dr9 dk9_dX12_cause_0_0 8 (27, .if_icmp .ne 10, 3) rfl
theorem dX12_cause_37 : decode cX12_cause 37 = .ok (.iconst 0, 1) := dr9 dk9_dX12_cause_0_0 9 (37, .iconst 0, 1) rfl
theorem dX12_cause_38 : decode cX12_cause 38 = .ok (.ireturn, 1) := dr9 dk9_dX12_cause_0_0 10 (38, .ireturn, 1) rfl
theorem dX12_cause_30 : decode cX12_cause 30 = .ok (.aload_n 0, 1) := dr9 dk9_dX12_cause_0_0 11 (30, .aload_n 0, 1) rfl
theorem dX12_cause_31 : decode cX12_cause 31 = .ok (.getfield 429, 3) := dr9 dk9_dX12_cause_0_0 12 (31, .getfield 429, 3) rfl
theorem dX12_cause_34 : decode cX12_cause 34 = .ok (.goto 4, 3) := dr9 dk9_dX12_cause_0_0 13 (34, .goto 4, 3) rfl
theorem dX12_cause_9 : decode cX12_cause 9 = .ok (.iload_n 1, 1) := dr9 dk9_dX12_cause_0_0 14 (9, .iload_n 1, 1) rfl
theorem dX12_cause_10 : decode cX12_cause 10 = .ok (.aload_n 0, 1) := dr9 dk9_dX12_cause_0_0 15 (10, .aload_n 0, 1) rfl
theorem dX12_cause_11 : decode cX12_cause 11 = .ok (.getfield 426, 3) := dr9 dk9_dX12_cause_0_0 16 (11, .getfield 426, 3) rfl
theorem dX12_cause_14 : decode cX12_cause 14 = .ok (.if_icmp .ge 8, 3) := dr9 dk9_dX12_cause_0_0 17 (14, .if_icmp .ge 8, 3) rfl
theorem dX12_cause_17 : decode cX12_cause 17 = .ok (.bipush 20, 2) := dr9 dk9_dX12_cause_0_0 18 (17, .bipush 20, 2) rfl
theorem dX12_cause_19 : decode cX12_cause 19 = .ok (.goto 19, 3) := dr9 dk9_dX12_cause_0_0 19 (19, .goto 19, 3) rfl
theorem dk9_dX12_outcome_0_0 : dOk cX12_outcome [(0, .aload_n 0, 1), (1, .iconst 0, 1), (2, .putfield 1, 3), (5, .aload_n 0, 1), (6, .getfield 423, 3), (9, .ireturn, 1)] = true := by decide +kernel
theorem dX12_outcome_0 : decode cX12_outcome 0 = .ok (.aload_n 0, 1) := dr9 dk9_dX12_outcome_0_0 0 (0, .aload_n 0, 1) rfl
theorem dX12_outcome_1 : decode cX12_outcome 1 = .ok (.iconst 0, 1) := dr9 dk9_dX12_outcome_0_0 1 (1, .iconst 0, 1) rfl
theorem dX12_outcome_2 : decode cX12_outcome 2 = .ok (.putfield 1, 3) := dr9 dk9_dX12_outcome_0_0 2 (2, .putfield 1, 3) rfl
theorem dX12_outcome_5 : decode cX12_outcome 5 = .ok (.aload_n 0, 1) := dr9 dk9_dX12_outcome_0_0 3 (5, .aload_n 0, 1) rfl
theorem dX12_outcome_6 : decode cX12_outcome 6 = .ok (.getfield 423, 3) := dr9 dk9_dX12_outcome_0_0 4 (6, .getfield 423, 3) rfl
theorem dX12_outcome_9 : decode cX12_outcome 9 = .ok (.ireturn, 1) := dr9 dk9_dX12_outcome_0_0 5 (9, .ireturn, 1) rfl
abbrev r_s_isLetter : Room := { frames := 0, cells := 0, slots := 0, locals := 0 }
abbrev q_s_isLetter (D : va_G) (p0 : Int32) (A : Nat → Prop) : Array Value → State → Outcome → State → Prop := va_Qi (fun (r : Int32) (_ : Unit) => (0 ≤ r.toInt ∧ r.toInt ≤ 1) ∧ (Imp (r.toInt = 1) (97 ≤ p0.toInt ∧ p0.toInt ≤ 122)) ∧ (Imp (r.toInt = 0) (p0.toInt < 97 ∨ 122 < p0.toInt))) (fun _ t => gq D A [] [] t) A
set_option maxHeartbeats 4000000 in
set_option maxRecDepth 100000 in
theorem s_isLetter (l : Launch) (D : va_G) (ks : KS) (sz : Nat) (p0 : Int32)  : Met l yX12_isLetter (Cond.code yX12_isLetter cX12_isLetter 1 (some .boolean) :: GW) r_s_isLetter (va_Pc [.int p0] (gp D ks ([]) ([]) sz)) (q_s_isLetter D p0 (va_A ([]) sz)) 0 0 (va_A ([]) sz) := by
  refine g_met (q_s_isLetter D p0) (by decide) (Nat.le_of_ble_eq_true rfl) ?_
  intro p e s m below meth c A ls H locs hx hb hr hml hown hg hlocks hin hnw hgk hP hK hD hS hA hl
  replace hown : s.vm.findClass RX12 = some m.cls := hown
  replace hl : lv_has ls 1 [(0, .int p0)] := hl
  refine lv_iload_n hx hb dX12_isLetter_0 rfl (lv_at hl 0 rfl) ?_
  refine lv_bipush (v := 97) hx hb dX12_isLetter_1 (by decide) ?_
  refine lv_icmp_lt (tgt := 16) hx hb dX12_isLetter_3 (by decide) (fun c1 => ?_) (fun c1 => ?_)
  · skip
    have f2 : p0.toInt < 97 := b_lt rfl (by decide) c1
    refine lv_iconst (v := 0) hx hb dX12_isLetter_16 (by decide) ?_
    exact W.zret (v := 0) hx hb hr rfl (fun t ht hW => ⟨⟨0, (), rfl, ⟨(by decide), (Imp.mk (fun hp => absurd hp (by decide))), (Imp.mk (fun _ => (show p0.toInt < 97 ∨ 122 < p0.toInt from by (first | exact om_219af0e9d391 f2 | omega))))⟩, by rw [ht]; exact hP, va_K.moved hW.alike hK, hD⟩, hS.F ht⟩) hS.2.2 dX12_isLetter_17
  · skip
    have f3 : 97 ≤ p0.toInt := b_nlt rfl (by decide) c1
    refine lv_iload_n hx hb dX12_isLetter_6 rfl (lv_at hl 0 rfl) ?_
    refine lv_bipush (v := 122) hx hb dX12_isLetter_7 (by decide) ?_
    refine lv_icmp_gt (tgt := 16) hx hb dX12_isLetter_9 (by decide) (fun c4 => ?_) (fun c4 => ?_)
    · skip
      have f5 : 122 < p0.toInt := b_lt (by decide) rfl c4
      refine lv_iconst (v := 0) hx hb dX12_isLetter_16 (by decide) ?_
      exact W.zret (v := 0) hx hb hr rfl (fun t ht hW => ⟨⟨0, (), rfl, ⟨(by decide), (Imp.mk (fun hp => absurd hp (by decide))), (Imp.mk (fun _ => (show p0.toInt < 97 ∨ 122 < p0.toInt from by (first | exact om_d282e5b0f45d f5 | omega))))⟩, by rw [ht]; exact hP, va_K.moved hW.alike hK, hD⟩, hS.F ht⟩) hS.2.2 dX12_isLetter_17
    · skip
      have f6 : p0.toInt ≤ 122 := b_nlt (by decide) rfl c4
      refine lv_iconst (v := 1) hx hb dX12_isLetter_12 (by decide) ?_
      refine lv_goto (tgt := 17) hx hb dX12_isLetter_13 (by decide) ?_
      exact W.zret (v := 1) hx hb hr rfl (fun t ht hW => ⟨⟨1, (), rfl, ⟨(by decide), (Imp.mk (fun _ => (show 97 ≤ p0.toInt ∧ p0.toInt ≤ 122 from by (first | exact om_201b8e8d33df f3 f6 | omega)))), (Imp.mk (fun hp => absurd hp (by decide)))⟩, by rw [ht]; exact hP, va_K.moved hW.alike hK, hD⟩, hS.F ht⟩) hS.2.2 dX12_isLetter_17
abbrev r_s_isDigit : Room := { frames := 0, cells := 0, slots := 0, locals := 0 }
abbrev q_s_isDigit (D : va_G) (p0 : Int32) (A : Nat → Prop) : Array Value → State → Outcome → State → Prop := va_Qi (fun (r : Int32) (_ : Unit) => (0 ≤ r.toInt ∧ r.toInt ≤ 1) ∧ (Imp (r.toInt = 1) (48 ≤ p0.toInt ∧ p0.toInt ≤ 57)) ∧ (Imp (r.toInt = 0) (p0.toInt < 48 ∨ 57 < p0.toInt))) (fun _ t => gq D A [] [] t) A
set_option maxHeartbeats 4000000 in
set_option maxRecDepth 100000 in
theorem s_isDigit (l : Launch) (D : va_G) (ks : KS) (sz : Nat) (p0 : Int32)  : Met l yX12_isDigit (Cond.code yX12_isDigit cX12_isDigit 1 (some .boolean) :: GW) r_s_isDigit (va_Pc [.int p0] (gp D ks ([]) ([]) sz)) (q_s_isDigit D p0 (va_A ([]) sz)) 0 0 (va_A ([]) sz) := by
  refine g_met (q_s_isDigit D p0) (by decide) (Nat.le_of_ble_eq_true rfl) ?_
  intro p e s m below meth c A ls H locs hx hb hr hml hown hg hlocks hin hnw hgk hP hK hD hS hA hl
  replace hown : s.vm.findClass RX12 = some m.cls := hown
  replace hl : lv_has ls 1 [(0, .int p0)] := hl
  refine lv_iload_n hx hb dX12_isDigit_0 rfl (lv_at hl 0 rfl) ?_
  refine lv_bipush (v := 48) hx hb dX12_isDigit_1 (by decide) ?_
  refine lv_icmp_lt (tgt := 16) hx hb dX12_isDigit_3 (by decide) (fun c1 => ?_) (fun c1 => ?_)
  · skip
    have f2 : p0.toInt < 48 := b_lt rfl (by decide) c1
    refine lv_iconst (v := 0) hx hb dX12_isDigit_16 (by decide) ?_
    exact W.zret (v := 0) hx hb hr rfl (fun t ht hW => ⟨⟨0, (), rfl, ⟨(by decide), (Imp.mk (fun hp => absurd hp (by decide))), (Imp.mk (fun _ => (show p0.toInt < 48 ∨ 57 < p0.toInt from by (first | exact om_a459ff030017 f2 | omega))))⟩, by rw [ht]; exact hP, va_K.moved hW.alike hK, hD⟩, hS.F ht⟩) hS.2.2 dX12_isDigit_17
  · skip
    have f3 : 48 ≤ p0.toInt := b_nlt rfl (by decide) c1
    refine lv_iload_n hx hb dX12_isDigit_6 rfl (lv_at hl 0 rfl) ?_
    refine lv_bipush (v := 57) hx hb dX12_isDigit_7 (by decide) ?_
    refine lv_icmp_gt (tgt := 16) hx hb dX12_isDigit_9 (by decide) (fun c4 => ?_) (fun c4 => ?_)
    · skip
      have f5 : 57 < p0.toInt := b_lt (by decide) rfl c4
      refine lv_iconst (v := 0) hx hb dX12_isDigit_16 (by decide) ?_
      exact W.zret (v := 0) hx hb hr rfl (fun t ht hW => ⟨⟨0, (), rfl, ⟨(by decide), (Imp.mk (fun hp => absurd hp (by decide))), (Imp.mk (fun _ => (show p0.toInt < 48 ∨ 57 < p0.toInt from by (first | exact om_8525824fe862 f5 | omega))))⟩, by rw [ht]; exact hP, va_K.moved hW.alike hK, hD⟩, hS.F ht⟩) hS.2.2 dX12_isDigit_17
    · skip
      have f6 : p0.toInt ≤ 57 := b_nlt (by decide) rfl c4
      refine lv_iconst (v := 1) hx hb dX12_isDigit_12 (by decide) ?_
      refine lv_goto (tgt := 17) hx hb dX12_isDigit_13 (by decide) ?_
      exact W.zret (v := 1) hx hb hr rfl (fun t ht hW => ⟨⟨1, (), rfl, ⟨(by decide), (Imp.mk (fun _ => (show 48 ≤ p0.toInt ∧ p0.toInt ≤ 57 from by (first | exact om_f3f8e6332068 f3 f6 | omega)))), (Imp.mk (fun hp => absurd hp (by decide)))⟩, by rw [ht]; exact hP, va_K.moved hW.alike hK, hD⟩, hS.F ht⟩) hS.2.2 dX12_isDigit_17
abbrev r_s_rank : Room := { frames := 1, cells := 0, slots := 0, locals := 20 }
abbrev q_s_rank (D : va_G) (p0 : Int32) (A : Nat → Prop) : Array Value → State → Outcome → State → Prop := va_Qi (fun (r : Int32) (_ : Unit) => True) (fun _ t => gq D A [] [] t) A
set_option maxHeartbeats 4000000 in
set_option maxRecDepth 100000 in
theorem s_rank (l : Launch) (D : va_G) (ks : KS) (sz : Nat) (p0 : Int32)  : Met l yX12_rank (Cond.code yX12_rank cX12_rank 1 (some .int) :: GW) r_s_rank (va_Pc [.int p0] (gp D ks ([]) ([]) sz)) (q_s_rank D p0 (va_A ([]) sz)) 0 0 (va_A ([]) sz) := by
  refine g_met (q_s_rank D p0) (by decide) (Nat.le_of_ble_eq_true rfl) ?_
  intro p e s m below meth c A ls H locs hx hb hr hml hown hg hlocks hin hnw hgk hP hK hD hS hA hl
  replace hown : s.vm.findClass RX12 = some m.cls := hown
  replace hl : lv_has ls 1 [(0, .int p0)] := hl
  refine lv_iload_n hx hb dX12_rank_0 rfl (lv_at hl 0 rfl) ?_
  refine gE_int (g_runS (As := [.int p0]) (rest := []) (wc := []) (tc := []) hx hb hml hown hg gw_self hP hD hK hS hA hnw hgk [] [] (by decide) rfl rfl (s_isLetter l D ks H.size p0 ) w1703 w1704 w172 w1705 hdS_yX12_isLetter ⟨Nat.le_of_ble_eq_true rfl, Nat.le_of_ble_eq_true rfl⟩ rfl hl.1 rfl (Nat.le_of_ble_eq_true rfl) dX12_rank_1 ⟨Nat.le_of_ble_eq_true rfl, Nat.le_of_ble_eq_true rfl⟩) hP hD hK hS hA (fun z1 u2 H locs w3 hP hD hK hS => ?_)
  obtain ⟨rgz1, t4, t5⟩ := w3
  replace rgz1 : 0 ≤ z1.toInt ∧ z1.toInt ≤ 1 := rgz1
  replace t4 : Imp (z1.toInt = 1) (97 ≤ p0.toInt ∧ p0.toInt ≤ 122) := t4
  replace t5 : Imp (z1.toInt = 0) (p0.toInt < 97 ∨ 122 < p0.toInt) := t5
  refine lv_if_eq (tgt := 14) hx hb dX12_rank_4 (by decide) (fun c6 => ?_) (fun c6 => ?_)
  · skip
    have f7 : z1.toInt = 0 := b_eq rfl (by decide) c6
    refine lv_iload_n hx hb dX12_rank_14 rfl (lv_at hl 0 rfl) ?_
    refine lv_bipush (v := 21) hx hb dX12_rank_15 (by decide) ?_
    refine lv_isub hx hb dX12_rank_17 ?_
    have r8 := i_full p0
    refine lv_topi (fun z9 ez9 => ?_)
    have hz9 : Imp (-2147483648 ≤ p0.toInt - 21 ∧ p0.toInt - 21 ≤ 2147483647) (z9.toInt = p0.toInt - 21) := Imp.mk (fun hp => i_sub ez9 rfl (by decide) hp)
    exact W.iret (v := z9) hx hb hr (fun t ht hW => ⟨⟨z9, (), rfl, trivial, by rw [ht]; exact hP, va_K.moved hW.alike hK, hD⟩, hS.F ht⟩) hS.2.2 dX12_rank_18
  · skip
    have f10 : z1.toInt ≠ 0 := b_neq rfl (by decide) c6
    refine lv_iload_n hx hb dX12_rank_7 rfl (lv_at hl 0 rfl) ?_
    refine lv_bipush (v := 96) hx hb dX12_rank_8 (by decide) ?_
    refine lv_isub hx hb dX12_rank_10 ?_
    have r11 := i_full p0
    refine lv_topi (fun z12 ez12 => ?_)
    have hz12 : Imp (-2147483648 ≤ p0.toInt - 96 ∧ p0.toInt - 96 ≤ 2147483647) (z12.toInt = p0.toInt - 96) := Imp.mk (fun hp => i_sub ez12 rfl (by decide) hp)
    refine lv_goto (tgt := 18) hx hb dX12_rank_11 (by decide) ?_
    exact W.iret (v := z12) hx hb hr (fun t ht hW => ⟨⟨z12, (), rfl, trivial, by rw [ht]; exact hP, va_K.moved hW.alike hK, hD⟩, hS.F ht⟩) hS.2.2 dX12_rank_18
abbrev r_s_isSignOf : Room := { frames := 0, cells := 0, slots := 0, locals := 0 }
abbrev q_s_isSignOf (D : va_G) (p0 : Int32) (A : Nat → Prop) : Array Value → State → Outcome → State → Prop := va_Qi (fun (r : Int32) (_ : Unit) => (0 ≤ r.toInt ∧ r.toInt ≤ 1)) (fun _ t => gq D A [] [] t) A
set_option maxHeartbeats 4000000 in
set_option maxRecDepth 100000 in
theorem s_isSignOf (l : Launch) (D : va_G) (ks : KS) (sz : Nat) (p0 : Int32)  : Met l yX12_isSignOf (Cond.code yX12_isSignOf cX12_isSignOf 1 (some .boolean) :: GW) r_s_isSignOf (va_Pc [.int p0] (gp D ks ([]) ([]) sz)) (q_s_isSignOf D p0 (va_A ([]) sz)) 0 0 (va_A ([]) sz) := by
  refine g_met (q_s_isSignOf D p0) (by decide) (Nat.le_of_ble_eq_true rfl) ?_
  intro p e s m below meth c A ls H locs hx hb hr hml hown hg hlocks hin hnw hgk hP hK hD hS hA hl
  replace hown : s.vm.findClass RX12 = some m.cls := hown
  replace hl : lv_has ls 1 [(0, .int p0)] := hl
  refine lv_iload_n hx hb dX12_isSignOf_0 rfl (lv_at hl 0 rfl) ?_
  refine lv_bipush (v := 123) hx hb dX12_isSignOf_1 (by decide) ?_
  refine lv_icmp_eq (tgt := 72) hx hb dX12_isSignOf_3 (by decide) (fun c1 => ?_) (fun c1 => ?_)
  · skip
    have f2 : p0.toInt = 123 := b_eq rfl (by decide) c1
    refine lv_iconst (v := 1) hx hb dX12_isSignOf_72 (by decide) ?_
    refine lv_goto (tgt := 77) hx hb dX12_isSignOf_73 (by decide) ?_
    exact W.zret (v := 1) hx hb hr rfl (fun t ht hW => ⟨⟨1, (), rfl, (by decide), by rw [ht]; exact hP, va_K.moved hW.alike hK, hD⟩, hS.F ht⟩) hS.2.2 dX12_isSignOf_77
  · skip
    have f3 : p0.toInt ≠ 123 := b_neq rfl (by decide) c1
    refine lv_iload_n hx hb dX12_isSignOf_6 rfl (lv_at hl 0 rfl) ?_
    refine lv_bipush (v := 125) hx hb dX12_isSignOf_7 (by decide) ?_
    refine lv_icmp_eq (tgt := 72) hx hb dX12_isSignOf_9 (by decide) (fun c4 => ?_) (fun c4 => ?_)
    · skip
      have f5 : p0.toInt = 125 := b_eq rfl (by decide) c4
      refine lv_iconst (v := 1) hx hb dX12_isSignOf_72 (by decide) ?_
      refine lv_goto (tgt := 77) hx hb dX12_isSignOf_73 (by decide) ?_
      exact W.zret (v := 1) hx hb hr rfl (fun t ht hW => ⟨⟨1, (), rfl, (by decide), by rw [ht]; exact hP, va_K.moved hW.alike hK, hD⟩, hS.F ht⟩) hS.2.2 dX12_isSignOf_77
    · skip
      have f6 : p0.toInt ≠ 125 := b_neq rfl (by decide) c4
      refine lv_iload_n hx hb dX12_isSignOf_12 rfl (lv_at hl 0 rfl) ?_
      refine lv_bipush (v := 40) hx hb dX12_isSignOf_13 (by decide) ?_
      refine lv_icmp_eq (tgt := 72) hx hb dX12_isSignOf_15 (by decide) (fun c7 => ?_) (fun c7 => ?_)
      · skip
        have f8 : p0.toInt = 40 := b_eq rfl (by decide) c7
        refine lv_iconst (v := 1) hx hb dX12_isSignOf_72 (by decide) ?_
        refine lv_goto (tgt := 77) hx hb dX12_isSignOf_73 (by decide) ?_
        exact W.zret (v := 1) hx hb hr rfl (fun t ht hW => ⟨⟨1, (), rfl, (by decide), by rw [ht]; exact hP, va_K.moved hW.alike hK, hD⟩, hS.F ht⟩) hS.2.2 dX12_isSignOf_77
      · skip
        have f9 : p0.toInt ≠ 40 := b_neq rfl (by decide) c7
        refine lv_iload_n hx hb dX12_isSignOf_18 rfl (lv_at hl 0 rfl) ?_
        refine lv_bipush (v := 41) hx hb dX12_isSignOf_19 (by decide) ?_
        refine lv_icmp_eq (tgt := 72) hx hb dX12_isSignOf_21 (by decide) (fun c10 => ?_) (fun c10 => ?_)
        · skip
          have f11 : p0.toInt = 41 := b_eq rfl (by decide) c10
          refine lv_iconst (v := 1) hx hb dX12_isSignOf_72 (by decide) ?_
          refine lv_goto (tgt := 77) hx hb dX12_isSignOf_73 (by decide) ?_
          exact W.zret (v := 1) hx hb hr rfl (fun t ht hW => ⟨⟨1, (), rfl, (by decide), by rw [ht]; exact hP, va_K.moved hW.alike hK, hD⟩, hS.F ht⟩) hS.2.2 dX12_isSignOf_77
        · skip
          have f12 : p0.toInt ≠ 41 := b_neq rfl (by decide) c10
          refine lv_iload_n hx hb dX12_isSignOf_24 rfl (lv_at hl 0 rfl) ?_
          refine lv_bipush (v := 44) hx hb dX12_isSignOf_25 (by decide) ?_
          refine lv_icmp_eq (tgt := 72) hx hb dX12_isSignOf_27 (by decide) (fun c13 => ?_) (fun c13 => ?_)
          · skip
            have f14 : p0.toInt = 44 := b_eq rfl (by decide) c13
            refine lv_iconst (v := 1) hx hb dX12_isSignOf_72 (by decide) ?_
            refine lv_goto (tgt := 77) hx hb dX12_isSignOf_73 (by decide) ?_
            exact W.zret (v := 1) hx hb hr rfl (fun t ht hW => ⟨⟨1, (), rfl, (by decide), by rw [ht]; exact hP, va_K.moved hW.alike hK, hD⟩, hS.F ht⟩) hS.2.2 dX12_isSignOf_77
          · skip
            have f15 : p0.toInt ≠ 44 := b_neq rfl (by decide) c13
            refine lv_iload_n hx hb dX12_isSignOf_30 rfl (lv_at hl 0 rfl) ?_
            refine lv_bipush (v := 59) hx hb dX12_isSignOf_31 (by decide) ?_
            refine lv_icmp_eq (tgt := 72) hx hb dX12_isSignOf_33 (by decide) (fun c16 => ?_) (fun c16 => ?_)
            · skip
              have f17 : p0.toInt = 59 := b_eq rfl (by decide) c16
              refine lv_iconst (v := 1) hx hb dX12_isSignOf_72 (by decide) ?_
              refine lv_goto (tgt := 77) hx hb dX12_isSignOf_73 (by decide) ?_
              exact W.zret (v := 1) hx hb hr rfl (fun t ht hW => ⟨⟨1, (), rfl, (by decide), by rw [ht]; exact hP, va_K.moved hW.alike hK, hD⟩, hS.F ht⟩) hS.2.2 dX12_isSignOf_77
            · skip
              have f18 : p0.toInt ≠ 59 := b_neq rfl (by decide) c16
              refine lv_iload_n hx hb dX12_isSignOf_36 rfl (lv_at hl 0 rfl) ?_
              refine lv_bipush (v := 61) hx hb dX12_isSignOf_37 (by decide) ?_
              refine lv_icmp_eq (tgt := 72) hx hb dX12_isSignOf_39 (by decide) (fun c19 => ?_) (fun c19 => ?_)
              · skip
                have f20 : p0.toInt = 61 := b_eq rfl (by decide) c19
                refine lv_iconst (v := 1) hx hb dX12_isSignOf_72 (by decide) ?_
                refine lv_goto (tgt := 77) hx hb dX12_isSignOf_73 (by decide) ?_
                exact W.zret (v := 1) hx hb hr rfl (fun t ht hW => ⟨⟨1, (), rfl, (by decide), by rw [ht]; exact hP, va_K.moved hW.alike hK, hD⟩, hS.F ht⟩) hS.2.2 dX12_isSignOf_77
              · skip
                have f21 : p0.toInt ≠ 61 := b_neq rfl (by decide) c19
                refine lv_iload_n hx hb dX12_isSignOf_42 rfl (lv_at hl 0 rfl) ?_
                refine lv_bipush (v := 60) hx hb dX12_isSignOf_43 (by decide) ?_
                refine lv_icmp_eq (tgt := 72) hx hb dX12_isSignOf_45 (by decide) (fun c22 => ?_) (fun c22 => ?_)
                · skip
                  have f23 : p0.toInt = 60 := b_eq rfl (by decide) c22
                  refine lv_iconst (v := 1) hx hb dX12_isSignOf_72 (by decide) ?_
                  refine lv_goto (tgt := 77) hx hb dX12_isSignOf_73 (by decide) ?_
                  exact W.zret (v := 1) hx hb hr rfl (fun t ht hW => ⟨⟨1, (), rfl, (by decide), by rw [ht]; exact hP, va_K.moved hW.alike hK, hD⟩, hS.F ht⟩) hS.2.2 dX12_isSignOf_77
                · skip
                  have f24 : p0.toInt ≠ 60 := b_neq rfl (by decide) c22
                  refine lv_iload_n hx hb dX12_isSignOf_48 rfl (lv_at hl 0 rfl) ?_
                  refine lv_bipush (v := 43) hx hb dX12_isSignOf_49 (by decide) ?_
                  refine lv_icmp_eq (tgt := 72) hx hb dX12_isSignOf_51 (by decide) (fun c25 => ?_) (fun c25 => ?_)
                  · skip
                    have f26 : p0.toInt = 43 := b_eq rfl (by decide) c25
                    refine lv_iconst (v := 1) hx hb dX12_isSignOf_72 (by decide) ?_
                    refine lv_goto (tgt := 77) hx hb dX12_isSignOf_73 (by decide) ?_
                    exact W.zret (v := 1) hx hb hr rfl (fun t ht hW => ⟨⟨1, (), rfl, (by decide), by rw [ht]; exact hP, va_K.moved hW.alike hK, hD⟩, hS.F ht⟩) hS.2.2 dX12_isSignOf_77
                  · skip
                    have f27 : p0.toInt ≠ 43 := b_neq rfl (by decide) c25
                    refine lv_iload_n hx hb dX12_isSignOf_54 rfl (lv_at hl 0 rfl) ?_
                    refine lv_bipush (v := 45) hx hb dX12_isSignOf_55 (by decide) ?_
                    refine lv_icmp_eq (tgt := 72) hx hb dX12_isSignOf_57 (by decide) (fun c28 => ?_) (fun c28 => ?_)
                    · skip
                      have f29 : p0.toInt = 45 := b_eq rfl (by decide) c28
                      refine lv_iconst (v := 1) hx hb dX12_isSignOf_72 (by decide) ?_
                      refine lv_goto (tgt := 77) hx hb dX12_isSignOf_73 (by decide) ?_
                      exact W.zret (v := 1) hx hb hr rfl (fun t ht hW => ⟨⟨1, (), rfl, (by decide), by rw [ht]; exact hP, va_K.moved hW.alike hK, hD⟩, hS.F ht⟩) hS.2.2 dX12_isSignOf_77
                    · skip
                      have f30 : p0.toInt ≠ 45 := b_neq rfl (by decide) c28
                      refine lv_iload_n hx hb dX12_isSignOf_60 rfl (lv_at hl 0 rfl) ?_
                      refine lv_bipush (v := 42) hx hb dX12_isSignOf_61 (by decide) ?_
                      refine lv_icmp_eq (tgt := 72) hx hb dX12_isSignOf_63 (by decide) (fun c31 => ?_) (fun c31 => ?_)
                      · skip
                        have f32 : p0.toInt = 42 := b_eq rfl (by decide) c31
                        refine lv_iconst (v := 1) hx hb dX12_isSignOf_72 (by decide) ?_
                        refine lv_goto (tgt := 77) hx hb dX12_isSignOf_73 (by decide) ?_
                        exact W.zret (v := 1) hx hb hr rfl (fun t ht hW => ⟨⟨1, (), rfl, (by decide), by rw [ht]; exact hP, va_K.moved hW.alike hK, hD⟩, hS.F ht⟩) hS.2.2 dX12_isSignOf_77
                      · skip
                        have f33 : p0.toInt ≠ 42 := b_neq rfl (by decide) c31
                        refine lv_iload_n hx hb dX12_isSignOf_66 rfl (lv_at hl 0 rfl) ?_
                        refine lv_bipush (v := 46) hx hb dX12_isSignOf_67 (by decide) ?_
                        refine lv_icmp_ne (tgt := 76) hx hb dX12_isSignOf_69 (by decide) (fun c34 => ?_) (fun c34 => ?_)
                        · skip
                          have f35 : p0.toInt ≠ 46 := b_neq rfl (by decide) c34
                          refine lv_iconst (v := 0) hx hb dX12_isSignOf_76 (by decide) ?_
                          exact W.zret (v := 0) hx hb hr rfl (fun t ht hW => ⟨⟨0, (), rfl, (by decide), by rw [ht]; exact hP, va_K.moved hW.alike hK, hD⟩, hS.F ht⟩) hS.2.2 dX12_isSignOf_77
                        · skip
                          have f36 : p0.toInt = 46 := b_eq rfl (by decide) c34
                          refine lv_iconst (v := 1) hx hb dX12_isSignOf_72 (by decide) ?_
                          refine lv_goto (tgt := 77) hx hb dX12_isSignOf_73 (by decide) ?_
                          exact W.zret (v := 1) hx hb hr rfl (fun t ht hW => ⟨⟨1, (), rfl, (by decide), by rw [ht]; exact hP, va_K.moved hW.alike hK, hD⟩, hS.F ht⟩) hS.2.2 dX12_isSignOf_77
abbrev r_s_step : Room := { frames := 0, cells := 0, slots := 0, locals := 0 }
abbrev q_s_step (D : va_G) (ks : KS) (ad : Nat → Nat) (kk : Nat → ClassId) (V : Vf) (L : Lf) (A : Nat → Prop) : Array Value → State → Outcome → State → Prop := va_Qi (fun (r : Int32) (u : Vf × Lf) => rgd bM u.1 ∧ agr [(0, 68), (0, 69)] [] V u.1 ∧ u.2 = L ∧ (0 ≤ r.toInt ∧ r.toInt ≤ 1)) (fun u t => gq D A (mw ad kk ks.1 u.1 u.2) (mty kk) t) A
abbrev r_s_fails : Room := { frames := 0, cells := 0, slots := 0, locals := 0 }
abbrev q_s_fails (D : va_G) (ks : KS) (ad : Nat → Nat) (kk : Nat → ClassId) (V : Vf) (L : Lf) (p0 : Int32) (A : Nat → Prop) : Array Value → State → Outcome → State → Prop := va_Qi (fun (r : Int32) (u : Vf × Lf) => rgd bM u.1 ∧ agr [(0, 90), (0, 91)] [] V u.1 ∧ u.2 = L) (fun u t => gq D A (mw ad kk ks.1 u.1 u.2) (mty kk) t) A
abbrev r_s_longness : Room := { frames := 0, cells := 0, slots := 0, locals := 0 }
abbrev q_s_longness (D : va_G) (p0 : Int32) (A : Nat → Prop) : Array Value → State → Outcome → State → Prop := va_Qi (fun (r : Int32) (_ : Unit) => True) (fun _ t => gq D A [] [] t) A
set_option maxHeartbeats 4000000 in
set_option maxRecDepth 100000 in
theorem s_longness (l : Launch) (D : va_G) (ks : KS) (sz : Nat) (p0 : Int32)  : Met l yX12_longness (Cond.code yX12_longness cX12_longness 1 (some .int) :: GW) r_s_longness (va_Pc [.int p0] (gp D ks ([]) ([]) sz)) (q_s_longness D p0 (va_A ([]) sz)) 0 0 (va_A ([]) sz) := by
  refine g_met (q_s_longness D p0) (by decide) (Nat.le_of_ble_eq_true rfl) ?_
  intro p e s m below meth c A ls H locs hx hb hr hml hown hg hlocks hin hnw hgk hP hK hD hS hA hl
  replace hown : s.vm.findClass RX12 = some m.cls := hown
  replace hl : lv_has ls 1 [(0, .int p0)] := hl
  refine lv_iload_n hx hb dX12_longness_0 rfl (lv_at hl 0 rfl) ?_
  refine lv_if_ne (tgt := 8) hx hb dX12_longness_1 (by decide) (fun c1 => ?_) (fun c1 => ?_)
  · skip
    have f2 : p0.toInt ≠ 0 := b_neq rfl (by decide) c1
    refine lv_iload_n hx hb dX12_longness_8 rfl (lv_at hl 0 rfl) ?_
    refine lv_iconst (v := 1) hx hb dX12_longness_9 (by decide) ?_
    refine lv_icmp_ne (tgt := 17) hx hb dX12_longness_10 (by decide) (fun c3 => ?_) (fun c3 => ?_)
    · skip
      have f4 : p0.toInt ≠ 1 := b_neq rfl (by decide) c3
      refine lv_iconst (v := 1) hx hb dX12_longness_17 (by decide) ?_
      exact W.iret (v := 1) hx hb hr (fun t ht hW => ⟨⟨1, (), rfl, trivial, by rw [ht]; exact hP, va_K.moved hW.alike hK, hD⟩, hS.F ht⟩) hS.2.2 dX12_longness_18
    · skip
      have f5 : p0.toInt = 1 := b_eq rfl (by decide) c3
      refine lv_iconst (v := 2) hx hb dX12_longness_13 (by decide) ?_
      refine lv_goto (tgt := 18) hx hb dX12_longness_14 (by decide) ?_
      exact W.iret (v := 2) hx hb hr (fun t ht hW => ⟨⟨2, (), rfl, trivial, by rw [ht]; exact hP, va_K.moved hW.alike hK, hD⟩, hS.F ht⟩) hS.2.2 dX12_longness_18
  · skip
    have f6 : p0.toInt = 0 := b_eq rfl (by decide) c1
    refine lv_iconst (v := 3) hx hb dX12_longness_4 (by decide) ?_
    refine lv_goto (tgt := 18) hx hb dX12_longness_5 (by decide) ?_
    exact W.iret (v := 3) hx hb hr (fun t ht hW => ⟨⟨3, (), rfl, trivial, by rw [ht]; exact hP, va_K.moved hW.alike hK, hD⟩, hS.F ht⟩) hS.2.2 dX12_longness_18
abbrev r_s_cause : Room := { frames := 0, cells := 0, slots := 0, locals := 0 }
abbrev q_s_cause (D : va_G) (ks : KS) (ad : Nat → Nat) (kk : Nat → ClassId) (V : Vf) (L : Lf) (p0 : Int32) (A : Nat → Prop) : Array Value → State → Outcome → State → Prop := va_Qi (fun (r : Int32) (u : Vf × Lf) => rgd bM u.1 ∧ agr [(0, 0)] [] V u.1 ∧ u.2 = L) (fun u t => gq D A (mw ad kk ks.1 u.1 u.2) (mty kk) t) A
abbrev r_s_outcome : Room := { frames := 0, cells := 0, slots := 0, locals := 0 }
abbrev q_s_outcome (D : va_G) (ks : KS) (ad : Nat → Nat) (kk : Nat → ClassId) (V : Vf) (L : Lf) (A : Nat → Prop) : Array Value → State → Outcome → State → Prop := va_Qi (fun (r : Int32) (u : Vf × Lf) => rgd bM u.1 ∧ agr [(0, 0)] [] V u.1 ∧ u.2 = L) (fun u t => gq D A (mw ad kk ks.1 u.1 u.2) (mty kk) t) A
set_option maxHeartbeats 4000000 in
set_option maxRecDepth 100000 in
theorem s_outcome (l : Launch) (D : va_G) (ks : KS) (sz : Nat) (ad : Nat → Nat) (kk : Nat → ClassId) (V : Vf) (L : Lf)  (hMV : rgd bM V)  : Met l yX12_outcome (Cond.code yX12_outcome cX12_outcome 1 (some .int) :: GW) r_s_outcome (va_Pc [.ref (ad 0)] (gp D ks (mw ad kk ks.1 V L) (mty kk) sz)) (q_s_outcome D ks ad kk V L  (va_A (mw ad kk ks.1 V L) sz)) 0 0 (va_A (mw ad kk ks.1 V L) sz) := by
  refine g_met (q_s_outcome D ks ad kk V L) (by decide) (Nat.le_of_ble_eq_true rfl) ?_
  intro p e s m below meth c A ls H locs hx hb hr hml hown hg hlocks hin hnw hgk hP hK hD hS hA hl
  replace hown : s.vm.findClass RX12 = some m.cls := hown
  replace hl : lv_has ls 1 [(0, .ref (ad 0))] := hl
  replace hP : va_P D vwCl (mw ad kk ks.1 V L) H := hP
  replace hD : va_D A (mw ad kk ks.1 V L) := hD
  replace hK : va_K D vwCl (mty kk) s := hK
  have agV : agr [(0, 0)] [] V V := agr.rf
  refine lv_aload_n hx hb dX12_outcome_0 rfl (lv_at hl 0 rfl) ?_
  refine lv_iconst (v := 0) hx hb dX12_outcome_1 (by decide) ?_
  refine va_put (D := D) (ci := 12) (v := .int 0) (ty := tyX12 0) (C := RX12) (T := TX12) (N := 100) hx hb hg inX12 tyX12 tyX12_ok nmX12 hown hK hP hD hS 0 rfl rfl 0 (by decide) (hg _ w1706) (fun _ h9 => h9) rfl (tyX12_ok 0 (by decide)) rfl rfl (Nat.le_of_ble_eq_true rfl) dX12_outcome_2 (fun H locs hP hD hS => ?_)
  obtain ⟨V1, hV1⟩ : ∃ z, z = up2 V 0 0 0 := ⟨_, rfl⟩
  have hP : va_P D vwCl (mw ad kk ks.1 V1 L) H := by rw [hV1]; exact hP
  have hD : va_D A (mw ad kk ks.1 V1 L) := by rw [hV1]; exact hD
  have hMV1 : rgd bM V1 := hMV.put hV1 (i_full _)
  have agV1 : agr [(0, 0)] [] V V1 := agV.up hV1 rfl
  refine lv_aload_n hx hb dX12_outcome_5 rfl (lv_at hl 0 rfl) ?_
  refine va_get (D := D) (ci := 12) (v := .int (V1 0 70)) (C := RX12) (T := TX12) (N := 100) hx hb hg inX12 hown hK hP 0 rfl rfl 70 (by decide) (hg _ w1776) (fun _ h9 => h9) rfl dX12_outcome_6 ?_
  refine g_top (v := (V 0 70)) (up2_k hV1 (by decide)) ?_
  exact W.iret (v := (V 0 70)) hx hb hr (fun t ht hW => ⟨⟨(V 0 70), (V1, L), rfl, ⟨hMV1, agV1, rfl⟩, by rw [ht]; exact hP, va_K.moved hW.alike hK, hD⟩, hS.F ht⟩) hS.2.2 dX12_outcome_9
end
section
theorem w1714 : Cond.fieldLink RX12 267 "WiringHouseModel" "fault" "I" ∈ GW := gw_k tk9_7 119 (by decide +kernel) rfl
theorem w1711 : Cond.fieldLink RX12 27 "WiringHouseModel" "place" "[I" ∈ GW := gw_k tk9_7 116 (by decide +kernel) rfl
theorem w1713 : Cond.fieldLink RX12 264 "WiringHouseModel" "at" "I" ∈ GW := gw_k tk9_7 118 (by decide +kernel) rfl
theorem w1710 : Cond.fieldLink RX12 24 "WiringHouseModel" "sort" "[I" ∈ GW := gw_k tk9_7 115 (by decide +kernel) rfl
theorem w1712 : Cond.fieldLink RX12 30 "WiringHouseModel" "word" "[J" ∈ GW := gw_k tk9_7 117 (by decide +kernel) rfl
theorem w1716 : Cond.fieldLink RX12 40 "WiringHouseModel" "words" "[J" ∈ GW := gw_k tk9_7 121 (by decide +kernel) rfl
theorem w2074 : Cond.code yX12_isSign cX12_isSign 2 (some .boolean) ∈ GW := gw_k tk9_8 239 (rfl) rfl
theorem w2071 : Cond.methodLink RX12 270 yX12_isSign ∈ GW := gw_k tk9_8 236 (by decide +kernel) rfl
theorem w2073 : Cond.instanceMethod yX12_isSign ∈ GW := gw_k tk9_8 238 (by decide +kernel) rfl
theorem w95 : Cond.selects RX12 yX12_isSign yX12_isSign ∈ GW := gw_mem 95 (by decide +kernel) rfl
theorem hdV_yX12_isSign : yX12_isSign.cls = RX12 ∧ yX12_isSign.cls ≠ "java/lang/invoke/MethodHandle" ∧ yX12_isSign.cls ≠ "java/lang/invoke/VarHandle" ∧ (parseMethodDescriptor yX12_isSign.desc).map (fun d => d.parameters.length) = some 1 := by decide +kernel
theorem w2038 : Cond.code yX12_wrong cX12_wrong 2 none ∈ GW := gw_k tk9_8 203 (rfl) rfl
theorem w2035 : Cond.methodLink RX12 273 yX12_wrong ∈ GW := gw_k tk9_8 200 (by decide +kernel) rfl
theorem w2037 : Cond.instanceMethod yX12_wrong ∈ GW := gw_k tk9_8 202 (by decide +kernel) rfl
theorem w86 : Cond.selects RX12 yX12_wrong yX12_wrong ∈ GW := gw_mem 86 (by decide +kernel) rfl
theorem hdV_yX12_wrong : yX12_wrong.cls = RX12 ∧ yX12_wrong.cls ≠ "java/lang/invoke/MethodHandle" ∧ yX12_wrong.cls ≠ "java/lang/invoke/VarHandle" ∧ (parseMethodDescriptor yX12_wrong.desc).map (fun d => d.parameters.length) = some 1 := by decide +kernel
theorem w2026 : Cond.code yX12_isWord cX12_isWord 2 (some .boolean) ∈ GW := gw_k tk9_8 191 (rfl) rfl
theorem w2023 : Cond.methodLink RX12 277 yX12_isWord ∈ GW := gw_k tk9_8 188 (by decide +kernel) rfl
theorem w2025 : Cond.instanceMethod yX12_isWord ∈ GW := gw_k tk9_8 190 (by decide +kernel) rfl
theorem w83 : Cond.selects RX12 yX12_isWord yX12_isWord ∈ GW := gw_mem 83 (by decide +kernel) rfl
theorem hdV_yX12_isWord : yX12_isWord.cls = RX12 ∧ yX12_isWord.cls ≠ "java/lang/invoke/MethodHandle" ∧ yX12_isWord.cls ≠ "java/lang/invoke/VarHandle" ∧ (parseMethodDescriptor yX12_isWord.desc).map (fun d => d.parameters.length) = some 1 := by decide +kernel
theorem w2054 : Cond.code yX12_hasWord cX12_hasWord 3 (some .boolean) ∈ GW := gw_k tk9_8 219 (rfl) rfl
theorem w2051 : Cond.methodLink RX12 280 yX12_hasWord ∈ GW := gw_k tk9_8 216 (by decide +kernel) rfl
theorem w2053 : Cond.instanceMethod yX12_hasWord ∈ GW := gw_k tk9_8 218 (by decide +kernel) rfl
theorem w90 : Cond.selects RX12 yX12_hasWord yX12_hasWord ∈ GW := gw_mem 90 (by decide +kernel) rfl
theorem hdV_yX12_hasWord : yX12_hasWord.cls = RX12 ∧ yX12_hasWord.cls ≠ "java/lang/invoke/MethodHandle" ∧ yX12_hasWord.cls ≠ "java/lang/invoke/VarHandle" ∧ (parseMethodDescriptor yX12_hasWord.desc).map (fun d => d.parameters.length) = some 1 := by decide +kernel
theorem dk9_dX12_wrong_0_0 : dOk cX12_wrong [(0, .aload_n 0, 1), (1, .getfield 267, 3), (4, .ifCond .ne 21, 3), (25, .return_, 1), (7, .aload_n 0, 1), (8, .iload_n 1, 1), (9, .bipush 16, 2), (11, .aload_n 0, 1), (12, .getfield 27, 3), (15, .aload_n 0, 1), (16, .getfield 264, 3), (19, .iaload, 1), (20, .imul, 1), (21, .iadd, 1), (22, .putfield 267, 3)] = true := by decide +kernel
theorem dX12_wrong_0 : decode cX12_wrong 0 = .ok (.aload_n 0, 1) := dr9 dk9_dX12_wrong_0_0 0 (0, .aload_n 0, 1) rfl
theorem dX12_wrong_1 : decode cX12_wrong 1 = .ok (.getfield 267, 3) := dr9 dk9_dX12_wrong_0_0 1 (1, .getfield 267, 3) rfl
theorem dX12_wrong_4 : decode cX12_wrong 4 = .ok (.ifCond .ne 21, 3) := dr9 dk9_dX12_wrong_0_0 2 (4, .ifCond .ne 21, 3) rfl
theorem dX12_wrong_25 : decode cX12_wrong 25 = .ok (.return_, 1) := dr9 dk9_dX12_wrong_0_0 3 (25, .return_, 1) rfl
theorem dX12_wrong_7 : decode cX12_wrong 7 = .ok (.aload_n 0, 1) := dr9 dk9_dX12_wrong_0_0 4 (7, .aload_n 0, 1) rfl
theorem dX12_wrong_8 : decode cX12_wrong 8 = .ok (.iload_n 1, 1) := dr9 dk9_dX12_wrong_0_0 5 (8, .iload_n 1, 1) rfl
theorem dX12_wrong_9 : decode cX12_wrong 9 = .ok (.bipush 16, 2) := dr9 dk9_dX12_wrong_0_0 6 (9, .bipush 16, 2) rfl
theorem dX12_wrong_11 : decode cX12_wrong 11 = .ok (.aload_n 0, 1) := dr9 dk9_dX12_wrong_0_0 7 (11, .aload_n 0, 1) rfl
theorem dX12_wrong_12 : decode cX12_wrong 12 = .ok (.getfield 27, 3) := dr9 dk9_dX12_wrong_0_0 8 (12, .getfield 27, 3) rfl
theorem dX12_wrong_15 : decode cX12_wrong 15 = .ok (.aload_n 0, 1) := dr9 dk9_dX12_wrong_0_0 9 (15, .aload_n 0, 1) rfl
theorem dX12_wrong_16 : decode cX12_wrong 16 = .ok (.getfield 264, 3) := dr9 dk9_dX12_wrong_0_0 10 (16, .getfield 264, 3) rfl
theorem dX12_wrong_19 : decode cX12_wrong 19 = .ok (.iaload, 1) := dr9 dk9_dX12_wrong_0_0 11 (19, .iaload, 1) rfl
theorem dX12_wrong_20 : decode cX12_wrong 20 = .ok (.imul, 1) := dr9 dk9_dX12_wrong_0_0 12 (20, .imul, 1) rfl
theorem dX12_wrong_21 : decode cX12_wrong 21 = .ok (.iadd, 1) := dr9 dk9_dX12_wrong_0_0 13 (21, .iadd, 1) rfl
theorem dX12_wrong_22 : decode cX12_wrong 22 = .ok (.putfield 267, 3) := dr9 dk9_dX12_wrong_0_0 14 (22, .putfield 267, 3) rfl
theorem dk9_dX12_isSign_0_0 : dOk cX12_isSign [(0, .aload_n 0, 1), (1, .getfield 267, 3), (4, .ifCond .ne 35, 3), (39, .iconst 0, 1), (40, .ireturn, 1), (7, .aload_n 0, 1), (8, .getfield 24, 3), (11, .aload_n 0, 1), (12, .getfield 264, 3), (15, .iaload, 1), (16, .iconst 3, 1), (17, .if_icmp .ne 22, 3), (20, .aload_n 0, 1), (21, .getfield 30, 3), (24, .aload_n 0, 1), (25, .getfield 264, 3), (28, .laload, 1), (29, .iload_n 1, 1), (30, .i2l, 1), (31, .lcmp, 1), (32, .ifCond .ne 7, 3), (35, .iconst 1, 1), (36, .goto 4, 3)] = true := by decide +kernel
theorem dX12_isSign_0 : decode cX12_isSign 0 = .ok (.aload_n 0, 1) := dr9 dk9_dX12_isSign_0_0 0 (0, .aload_n 0, 1) rfl
theorem dX12_isSign_1 : decode cX12_isSign 1 = .ok (.getfield 267, 3) := dr9 dk9_dX12_isSign_0_0 1 (1, .getfield 267, 3) rfl
theorem dX12_isSign_4 : decode cX12_isSign 4 = .ok (.ifCond .ne 35, 3) := dr9 dk9_dX12_isSign_0_0 2 (4, .ifCond .ne 35, 3) rfl
theorem dX12_isSign_39 : decode cX12_isSign 39 = .ok (.iconst 0, 1) := dr9 dk9_dX12_isSign_0_0 3 (39, .iconst 0, 1) rfl
theorem dX12_isSign_40 : decode cX12_isSign 40 = .ok (.ireturn, 1) := dr9 dk9_dX12_isSign_0_0 4 (40, .ireturn, 1) rfl
theorem dX12_isSign_7 : decode cX12_isSign 7 = .ok (.aload_n 0, 1) := dr9 dk9_dX12_isSign_0_0 5 (7, .aload_n 0, 1) rfl
theorem dX12_isSign_8 : decode cX12_isSign 8 = .ok (.getfield 24, 3) := dr9 dk9_dX12_isSign_0_0 6 (8, .getfield 24, 3) rfl
theorem dX12_isSign_11 : decode cX12_isSign 11 = .ok (.aload_n 0, 1) := dr9 dk9_dX12_isSign_0_0 7 (11, .aload_n 0, 1) rfl
theorem dX12_isSign_12 : decode cX12_isSign 12 = .ok (.getfield 264, 3) := dr9 dk9_dX12_isSign_0_0 8 (12, .getfield 264, 3) rfl
theorem dX12_isSign_15 : decode cX12_isSign 15 = .ok (.iaload, 1) := dr9 dk9_dX12_isSign_0_0 9 (15, .iaload, 1) rfl
theorem dX12_isSign_16 : decode cX12_isSign 16 = .ok (.iconst 3, 1) := dr9 dk9_dX12_isSign_0_0 10 (16, .iconst 3, 1) rfl
theorem dX12_isSign_17 : decode cX12_isSign 17 = .ok (.if_icmp .ne 22, 3) := dr9 dk9_dX12_isSign_0_0 11 (17, .if_icmp .ne 22, 3) rfl
theorem dX12_isSign_20 : decode cX12_isSign 20 = .ok (.aload_n 0, 1) := dr9 dk9_dX12_isSign_0_0 12 (20, .aload_n 0, 1) rfl
theorem dX12_isSign_21 : decode cX12_isSign 21 = .ok (.getfield 30, 3) := dr9 dk9_dX12_isSign_0_0 13 (21, .getfield 30, 3) rfl
theorem dX12_isSign_24 : decode cX12_isSign 24 = .ok (.aload_n 0, 1) := dr9 dk9_dX12_isSign_0_0 14 (24, .aload_n 0, 1) rfl
theorem dX12_isSign_25 : decode cX12_isSign 25 = .ok (.getfield 264, 3) := dr9 dk9_dX12_isSign_0_0 15 (25, .getfield 264, 3) rfl
theorem dX12_isSign_28 : decode cX12_isSign 28 = .ok (.laload, 1) := dr9 dk9_dX12_isSign_0_0 16 (28, .laload, 1) rfl
theorem dX12_isSign_29 : decode cX12_isSign 29 = .ok (.iload_n 1, 1) := dr9 dk9_dX12_isSign_0_0 17 (29, .iload_n 1, 1) rfl
theorem dX12_isSign_30 : decode cX12_isSign 30 = .ok (.i2l, 1) := dr9 dk9_dX12_isSign_0_0 18 (30, .i2l, 1) rfl
theorem dX12_isSign_31 : decode cX12_isSign 31 = .ok (.lcmp, 1) := dr9 dk9_dX12_isSign_0_0 19 (31, .lcmp, 1) rfl
theorem dX12_isSign_32 : decode cX12_isSign 32 = .ok (.ifCond .ne 7, 3) := dr9 dk9_dX12_isSign_0_0 20 (32, .ifCond .ne 7, 3) rfl
theorem dX12_isSign_35 : decode cX12_isSign 35 = .ok (.iconst 1, 1) := dr9 dk9_dX12_isSign_0_0 21 (35, .iconst 1, 1) rfl
theorem dX12_isSign_36 : decode cX12_isSign 36 = .ok (.goto 4, 3) := dr9 dk9_dX12_isSign_0_0 22 (36, .goto 4, 3) rfl
theorem dk9_dX12_isWord_0_0 : dOk cX12_isWord [(0, .aload_n 0, 1), (1, .getfield 267, 3), (4, .ifCond .ne 39, 3), (43, .iconst 0, 1), (44, .ireturn, 1), (7, .aload_n 0, 1), (8, .getfield 24, 3), (11, .aload_n 0, 1), (12, .getfield 264, 3), (15, .iaload, 1), (16, .iconst 1, 1), (17, .if_icmp .ne 26, 3), (20, .aload_n 0, 1), (21, .getfield 30, 3), (24, .aload_n 0, 1), (25, .getfield 264, 3), (28, .laload, 1), (29, .aload_n 0, 1), (30, .getfield 40, 3), (33, .iload_n 1, 1), (34, .laload, 1), (35, .lcmp, 1), (36, .ifCond .ne 7, 3), (39, .iconst 1, 1)] = true ∧ dOk cX12_isWord [(40, .goto 4, 3)] = true := by decide +kernel
theorem dX12_isWord_0 : decode cX12_isWord 0 = .ok (.aload_n 0, 1) := dr9 dk9_dX12_isWord_0_0.1 0 (0, .aload_n 0, 1) rfl
theorem dX12_isWord_1 : decode cX12_isWord 1 = .ok (.getfield 267, 3) := dr9 dk9_dX12_isWord_0_0.1 1 (1, .getfield 267, 3) rfl
theorem dX12_isWord_4 : decode cX12_isWord 4 = .ok (.ifCond .ne 39, 3) := dr9 dk9_dX12_isWord_0_0.1 2 (4, .ifCond .ne 39, 3) rfl
theorem dX12_isWord_43 : decode cX12_isWord 43 = .ok (.iconst 0, 1) := dr9 dk9_dX12_isWord_0_0.1 3 (43, .iconst 0, 1) rfl
theorem dX12_isWord_44 : decode cX12_isWord 44 = .ok (.ireturn, 1) := dr9 dk9_dX12_isWord_0_0.1 4 (44, .ireturn, 1) rfl
theorem dX12_isWord_7 : decode cX12_isWord 7 = .ok (.aload_n 0, 1) := dr9 dk9_dX12_isWord_0_0.1 5 (7, .aload_n 0, 1) rfl
theorem dX12_isWord_8 : decode cX12_isWord 8 = .ok (.getfield 24, 3) := dr9 dk9_dX12_isWord_0_0.1 6 (8, .getfield 24, 3) rfl
theorem dX12_isWord_11 : decode cX12_isWord 11 = .ok (.aload_n 0, 1) := dr9 dk9_dX12_isWord_0_0.1 7 (11, .aload_n 0, 1) rfl
theorem dX12_isWord_12 : decode cX12_isWord 12 = .ok (.getfield 264, 3) := dr9 dk9_dX12_isWord_0_0.1 8 (12, .getfield 264, 3) rfl
theorem dX12_isWord_15 : decode cX12_isWord 15 = .ok (.iaload, 1) := dr9 dk9_dX12_isWord_0_0.1 9 (15, .iaload, 1) rfl
theorem dX12_isWord_16 : decode cX12_isWord 16 = .ok (.iconst 1, 1) := dr9 dk9_dX12_isWord_0_0.1 10 (16, .iconst 1, 1) rfl
theorem dX12_isWord_17 : decode cX12_isWord 17 = .ok (.if_icmp .ne 26, 3) := dr9 dk9_dX12_isWord_0_0.1 11 (17, .if_icmp .ne 26, 3) rfl
theorem dX12_isWord_20 : decode cX12_isWord 20 = .ok (.aload_n 0, 1) := dr9 dk9_dX12_isWord_0_0.1 12 (20, .aload_n 0, 1) rfl
theorem dX12_isWord_21 : decode cX12_isWord 21 = .ok (.getfield 30, 3) := dr9 dk9_dX12_isWord_0_0.1 13 (21, .getfield 30, 3) rfl
theorem dX12_isWord_24 : decode cX12_isWord 24 = .ok (.aload_n 0, 1) := dr9 dk9_dX12_isWord_0_0.1 14 (24, .aload_n 0, 1) rfl
theorem dX12_isWord_25 : decode cX12_isWord 25 = .ok (.getfield 264, 3) := dr9 dk9_dX12_isWord_0_0.1 15 (25, .getfield 264, 3) rfl
theorem dX12_isWord_28 : decode cX12_isWord 28 = .ok (.laload, 1) := dr9 dk9_dX12_isWord_0_0.1 16 (28, .laload, 1) rfl
theorem dX12_isWord_29 : decode cX12_isWord 29 = .ok (.aload_n 0, 1) := dr9 dk9_dX12_isWord_0_0.1 17 (29, .aload_n 0, 1) rfl
theorem dX12_isWord_30 : decode cX12_isWord 30 = .ok (.getfield 40, 3) := dr9 dk9_dX12_isWord_0_0.1 18 (30, .getfield 40, 3) rfl
theorem dX12_isWord_33 : decode cX12_isWord 33 = .ok (.iload_n 1, 1) := dr9 dk9_dX12_isWord_0_0.1 19 (33, .iload_n 1, 1) rfl
theorem dX12_isWord_34 : decode cX12_isWord 34 = .ok (.laload, 1) := dr9 dk9_dX12_isWord_0_0.1 20 (34, .laload, 1) rfl
theorem dX12_isWord_35 : decode cX12_isWord 35 = .ok (.lcmp, 1) := dr9 dk9_dX12_isWord_0_0.1 21 (35, .lcmp, 1) rfl
theorem dX12_isWord_36 : decode cX12_isWord 36 = .ok (.ifCond .ne 7, 3) := dr9 dk9_dX12_isWord_0_0.1 22 (36, .ifCond .ne 7, 3) rfl
theorem dX12_isWord_39 : decode cX12_isWord 39 = .ok (.iconst 1, 1) := dr9 dk9_dX12_isWord_0_0.1 23 (39, .iconst 1, 1) rfl
theorem dX12_isWord_40 : decode cX12_isWord 40 = .ok (.goto 4, 3) := dr9 dk9_dX12_isWord_0_0.2 0 (40, .goto 4, 3) rfl
theorem dk9_dX12_takeSign_0_0 : dOk cX12_takeSign [(0, .aload_n 0, 1), (1, .iload_n 1, 1), (2, .invokevirtual 270, 3), (5, .ifCond .eq 16, 3), (21, .aload_n 0, 1), (22, .iconst 1, 1), (23, .invokevirtual 273, 3), (26, .return_, 1), (8, .aload_n 0, 1), (9, .dup, 1), (10, .getfield 264, 3), (13, .iconst 1, 1), (14, .iadd, 1), (15, .putfield 264, 3), (18, .goto 8, 3)] = true := by decide +kernel
theorem dX12_takeSign_0 : decode cX12_takeSign 0 = .ok (.aload_n 0, 1) := dr9 dk9_dX12_takeSign_0_0 0 (0, .aload_n 0, 1) rfl
theorem dX12_takeSign_1 : decode cX12_takeSign 1 = .ok (.iload_n 1, 1) := dr9 dk9_dX12_takeSign_0_0 1 (1, .iload_n 1, 1) rfl
theorem dX12_takeSign_2 : decode cX12_takeSign 2 = .ok (.invokevirtual 270, 3) := dr9 dk9_dX12_takeSign_0_0 2 (2, .invokevirtual 270, 3) rfl
theorem dX12_takeSign_5 : decode cX12_takeSign 5 = .ok (.ifCond .eq 16, 3) := dr9 dk9_dX12_takeSign_0_0 3 (5, .ifCond .eq 16, 3) rfl
theorem dX12_takeSign_21 : decode cX12_takeSign 21 = .ok (.aload_n 0, 1) := dr9 dk9_dX12_takeSign_0_0 4 (21, .aload_n 0, 1) rfl
theorem dX12_takeSign_22 : decode cX12_takeSign 22 = .ok (.iconst 1, 1) := dr9 dk9_dX12_takeSign_0_0 5 (22, .iconst 1, 1) rfl
theorem dX12_takeSign_23 : decode cX12_takeSign 23 = .ok (.invokevirtual 273, 3) := dr9 dk9_dX12_takeSign_0_0 6 (23, .invokevirtual 273, 3) rfl
theorem dX12_takeSign_26 : decode cX12_takeSign 26 = .ok (.return_, 1) := dr9 dk9_dX12_takeSign_0_0 7 (26, .return_, 1) rfl
theorem dX12_takeSign_8 : decode cX12_takeSign 8 = .ok (.aload_n 0, 1) := dr9 dk9_dX12_takeSign_0_0 8 (8, .aload_n 0, 1) rfl
theorem dX12_takeSign_9 : decode cX12_takeSign 9 = .ok (.dup, 1) := dr9 dk9_dX12_takeSign_0_0 9 (9, .dup, 1) rfl
theorem dX12_takeSign_10 : decode cX12_takeSign 10 = .ok (.getfield 264, 3) := dr9 dk9_dX12_takeSign_0_0 10 (10, .getfield 264, 3) rfl
theorem dX12_takeSign_13 : decode cX12_takeSign 13 = .ok (.iconst 1, 1) := dr9 dk9_dX12_takeSign_0_0 11 (13, .iconst 1, 1) rfl
theorem dX12_takeSign_14 : decode cX12_takeSign 14 = .ok (.iadd, 1) := dr9 dk9_dX12_takeSign_0_0 12 (14, .iadd, 1) rfl
theorem dX12_takeSign_15 : decode cX12_takeSign 15 = .ok (.putfield 264, 3) := dr9 dk9_dX12_takeSign_0_0 13 (15, .putfield 264, 3) rfl
theorem dX12_takeSign_18 : decode cX12_takeSign 18 = .ok (.goto 8, 3) := dr9 dk9_dX12_takeSign_0_0 14 (18, .goto 8, 3) rfl
theorem dk9_dX12_hasSign_0_0 : dOk cX12_hasSign [(0, .aload_n 0, 1), (1, .iload_n 1, 1), (2, .invokevirtual 270, 3), (5, .istore_n 2, 1), (6, .aload_n 0, 1), (7, .dup, 1), (8, .getfield 264, 3), (11, .iload_n 2, 1), (12, .ifCond .eq 7, 3), (19, .iconst 0, 1), (20, .iadd, 1), (21, .putfield 264, 3), (24, .iload_n 2, 1), (25, .ireturn, 1), (15, .iconst 1, 1), (16, .goto 4, 3)] = true := by decide +kernel
theorem dX12_hasSign_0 : decode cX12_hasSign 0 = .ok (.aload_n 0, 1) := dr9 dk9_dX12_hasSign_0_0 0 (0, .aload_n 0, 1) rfl
theorem dX12_hasSign_1 : decode cX12_hasSign 1 = .ok (.iload_n 1, 1) := dr9 dk9_dX12_hasSign_0_0 1 (1, .iload_n 1, 1) rfl
theorem dX12_hasSign_2 : decode cX12_hasSign 2 = .ok (.invokevirtual 270, 3) := dr9 dk9_dX12_hasSign_0_0 2 (2, .invokevirtual 270, 3) rfl
theorem dX12_hasSign_5 : decode cX12_hasSign 5 = .ok (.istore_n 2, 1) := dr9 dk9_dX12_hasSign_0_0 3 (5, .istore_n 2, 1) rfl
theorem dX12_hasSign_6 : decode cX12_hasSign 6 = .ok (.aload_n 0, 1) := dr9 dk9_dX12_hasSign_0_0 4 (6, .aload_n 0, 1) rfl
theorem dX12_hasSign_7 : decode cX12_hasSign 7 = .ok (.dup, 1) := dr9 dk9_dX12_hasSign_0_0 5 (7, .dup, 1) rfl
theorem dX12_hasSign_8 : decode cX12_hasSign 8 = .ok (.getfield 264, 3) := dr9 dk9_dX12_hasSign_0_0 6 (8, .getfield 264, 3) rfl
theorem dX12_hasSign_11 : decode cX12_hasSign 11 = .ok (.iload_n 2, 1) := dr9 dk9_dX12_hasSign_0_0 7 (11, .iload_n 2, 1) rfl
theorem dX12_hasSign_12 : decode cX12_hasSign 12 = .ok (.ifCond .eq 7, 3) := dr9 dk9_dX12_hasSign_0_0 8 (12, .ifCond .eq 7, 3) rfl
theorem dX12_hasSign_19 : decode cX12_hasSign 19 = .ok (.iconst 0, 1) := dr9 dk9_dX12_hasSign_0_0 9 (19, .iconst 0, 1) rfl
theorem dX12_hasSign_20 : decode cX12_hasSign 20 = .ok (.iadd, 1) := dr9 dk9_dX12_hasSign_0_0 10 (20, .iadd, 1) rfl
theorem dX12_hasSign_21 : decode cX12_hasSign 21 = .ok (.putfield 264, 3) := dr9 dk9_dX12_hasSign_0_0 11 (21, .putfield 264, 3) rfl
theorem dX12_hasSign_24 : decode cX12_hasSign 24 = .ok (.iload_n 2, 1) := dr9 dk9_dX12_hasSign_0_0 12 (24, .iload_n 2, 1) rfl
theorem dX12_hasSign_25 : decode cX12_hasSign 25 = .ok (.ireturn, 1) := dr9 dk9_dX12_hasSign_0_0 13 (25, .ireturn, 1) rfl
theorem dX12_hasSign_15 : decode cX12_hasSign 15 = .ok (.iconst 1, 1) := dr9 dk9_dX12_hasSign_0_0 14 (15, .iconst 1, 1) rfl
theorem dX12_hasSign_16 : decode cX12_hasSign 16 = .ok (.goto 4, 3) := dr9 dk9_dX12_hasSign_0_0 15 (16, .goto 4, 3) rfl
theorem dk9_dX12_hasWord_0_0 : dOk cX12_hasWord [(0, .aload_n 0, 1), (1, .iload_n 1, 1), (2, .invokevirtual 277, 3), (5, .istore_n 2, 1), (6, .aload_n 0, 1), (7, .dup, 1), (8, .getfield 264, 3), (11, .iload_n 2, 1), (12, .ifCond .eq 7, 3), (19, .iconst 0, 1), (20, .iadd, 1), (21, .putfield 264, 3), (24, .iload_n 2, 1), (25, .ireturn, 1), (15, .iconst 1, 1), (16, .goto 4, 3)] = true := by decide +kernel
theorem dX12_hasWord_0 : decode cX12_hasWord 0 = .ok (.aload_n 0, 1) := dr9 dk9_dX12_hasWord_0_0 0 (0, .aload_n 0, 1) rfl
theorem dX12_hasWord_1 : decode cX12_hasWord 1 = .ok (.iload_n 1, 1) := dr9 dk9_dX12_hasWord_0_0 1 (1, .iload_n 1, 1) rfl
theorem dX12_hasWord_2 : decode cX12_hasWord 2 = .ok (.invokevirtual 277, 3) := dr9 dk9_dX12_hasWord_0_0 2 (2, .invokevirtual 277, 3) rfl
theorem dX12_hasWord_5 : decode cX12_hasWord 5 = .ok (.istore_n 2, 1) := dr9 dk9_dX12_hasWord_0_0 3 (5, .istore_n 2, 1) rfl
theorem dX12_hasWord_6 : decode cX12_hasWord 6 = .ok (.aload_n 0, 1) := dr9 dk9_dX12_hasWord_0_0 4 (6, .aload_n 0, 1) rfl
theorem dX12_hasWord_7 : decode cX12_hasWord 7 = .ok (.dup, 1) := dr9 dk9_dX12_hasWord_0_0 5 (7, .dup, 1) rfl
theorem dX12_hasWord_8 : decode cX12_hasWord 8 = .ok (.getfield 264, 3) := dr9 dk9_dX12_hasWord_0_0 6 (8, .getfield 264, 3) rfl
theorem dX12_hasWord_11 : decode cX12_hasWord 11 = .ok (.iload_n 2, 1) := dr9 dk9_dX12_hasWord_0_0 7 (11, .iload_n 2, 1) rfl
theorem dX12_hasWord_12 : decode cX12_hasWord 12 = .ok (.ifCond .eq 7, 3) := dr9 dk9_dX12_hasWord_0_0 8 (12, .ifCond .eq 7, 3) rfl
theorem dX12_hasWord_19 : decode cX12_hasWord 19 = .ok (.iconst 0, 1) := dr9 dk9_dX12_hasWord_0_0 9 (19, .iconst 0, 1) rfl
theorem dX12_hasWord_20 : decode cX12_hasWord 20 = .ok (.iadd, 1) := dr9 dk9_dX12_hasWord_0_0 10 (20, .iadd, 1) rfl
theorem dX12_hasWord_21 : decode cX12_hasWord 21 = .ok (.putfield 264, 3) := dr9 dk9_dX12_hasWord_0_0 11 (21, .putfield 264, 3) rfl
theorem dX12_hasWord_24 : decode cX12_hasWord 24 = .ok (.iload_n 2, 1) := dr9 dk9_dX12_hasWord_0_0 12 (24, .iload_n 2, 1) rfl
theorem dX12_hasWord_25 : decode cX12_hasWord 25 = .ok (.ireturn, 1) := dr9 dk9_dX12_hasWord_0_0 13 (25, .ireturn, 1) rfl
theorem dX12_hasWord_15 : decode cX12_hasWord 15 = .ok (.iconst 1, 1) := dr9 dk9_dX12_hasWord_0_0 14 (15, .iconst 1, 1) rfl
theorem dX12_hasWord_16 : decode cX12_hasWord 16 = .ok (.goto 4, 3) := dr9 dk9_dX12_hasWord_0_0 15 (16, .goto 4, 3) rfl
theorem dk9_dX12_takeWord_0_0 : dOk cX12_takeWord [(0, .aload_n 0, 1), (1, .iload_n 1, 1), (2, .invokevirtual 280, 3), (5, .ifCond .ne 8, 3), (13, .return_, 1), (8, .aload_n 0, 1), (9, .iconst 1, 1), (10, .invokevirtual 273, 3)] = true := by decide +kernel
theorem dX12_takeWord_0 : decode cX12_takeWord 0 = .ok (.aload_n 0, 1) := dr9 dk9_dX12_takeWord_0_0 0 (0, .aload_n 0, 1) rfl
theorem dX12_takeWord_1 : decode cX12_takeWord 1 = .ok (.iload_n 1, 1) := dr9 dk9_dX12_takeWord_0_0 1 (1, .iload_n 1, 1) rfl
theorem dX12_takeWord_2 : decode cX12_takeWord 2 = .ok (.invokevirtual 280, 3) := dr9 dk9_dX12_takeWord_0_0 2 (2, .invokevirtual 280, 3) rfl
theorem dX12_takeWord_5 : decode cX12_takeWord 5 = .ok (.ifCond .ne 8, 3) := dr9 dk9_dX12_takeWord_0_0 3 (5, .ifCond .ne 8, 3) rfl
theorem dX12_takeWord_13 : decode cX12_takeWord 13 = .ok (.return_, 1) := dr9 dk9_dX12_takeWord_0_0 4 (13, .return_, 1) rfl
theorem dX12_takeWord_8 : decode cX12_takeWord 8 = .ok (.aload_n 0, 1) := dr9 dk9_dX12_takeWord_0_0 5 (8, .aload_n 0, 1) rfl
theorem dX12_takeWord_9 : decode cX12_takeWord 9 = .ok (.iconst 1, 1) := dr9 dk9_dX12_takeWord_0_0 6 (9, .iconst 1, 1) rfl
theorem dX12_takeWord_10 : decode cX12_takeWord 10 = .ok (.invokevirtual 273, 3) := dr9 dk9_dX12_takeWord_0_0 7 (10, .invokevirtual 273, 3) rfl
abbrev r_s_wrong : Room := { frames := 0, cells := 0, slots := 0, locals := 0 }
abbrev q_s_wrong (D : va_G) (ks : KS) (ad : Nat → Nat) (kk : Nat → ClassId) (V : Vf) (L : Lf) (p0 : Int32) (n : Nat) (A : Nat → Prop) : Array Value → State → Outcome → State → Prop := va_Qv (fun (u : Vf × Lf) => rgd bM u.1 ∧ agr [(0, 8)] [] V u.1 ∧ u.2 = L ∧ (1 ≤ (u.1 0 8).toInt)) (fun u t => gq D A (mw ad kk ks.1 u.1 u.2) (mty kk) t) A
set_option maxHeartbeats 4000000 in
set_option maxRecDepth 100000 in
theorem s_wrong (l : Launch) (D : va_G) (ks : KS) (sz : Nat) (ad : Nat → Nat) (kk : Nat → ClassId) (V : Vf) (L : Lf) (p0 : Int32) (n : Nat) (hMV : rgd bM V) (rg_p0 : 1 ≤ p0.toInt ∧ p0.toInt ≤ 5) (x1 : (V 4 n).toInt = 0) (x2 : n ≤ 4000) (x3 : Imp ((V 0 8).toInt = 0) (0 ≤ (V 0 7).toInt ∧ (V 0 7).toInt ≤ n))  : Met l yX12_wrong (Cond.code yX12_wrong cX12_wrong 2 none :: GW) r_s_wrong (va_Pc [.ref (ad 0), .int p0] (gp D ks (mw ad kk ks.1 V L) (mty kk) sz)) (q_s_wrong D ks ad kk V L p0 n (va_A (mw ad kk ks.1 V L) sz)) 0 0 (va_A (mw ad kk ks.1 V L) sz) := by
  refine g_met (q_s_wrong D ks ad kk V L p0 n) (by decide) (Nat.le_of_ble_eq_true rfl) ?_
  intro p e s m below meth c A ls H locs hx hb hr hml hown hg hlocks hin hnw hgk hP hK hD hS hA hl
  replace hown : s.vm.findClass RX12 = some m.cls := hown
  replace hl : lv_has ls 2 [(0, .ref (ad 0)), (1, .int p0)] := hl
  replace hP : va_P D vwCl (mw ad kk ks.1 V L) H := hP
  replace hD : va_D A (mw ad kk ks.1 V L) := hD
  replace hK : va_K D vwCl (mty kk) s := hK
  have agV : agr [(0, 8)] [] V V := agr.rf
  have r1 : 0 ≤ ((V 0 8)).toInt ∧ ((V 0 8)).toInt ≤ 70000 := hMV 0 8
  refine lv_aload_n hx hb dX12_wrong_0 rfl (lv_at hl 0 rfl) ?_
  refine va_get (D := D) (ci := 12) (v := .int (V 0 8)) (C := RX12) (T := TX12) (N := 100) hx hb hg inX12 hown hK hP 0 rfl rfl 8 (by decide) (hg _ w1714) (fun _ h9 => h9) rfl dX12_wrong_1 ?_
  refine lv_if_ne (tgt := 25) hx hb dX12_wrong_4 (by decide) (fun c2 => ?_) (fun c2 => ?_)
  · skip
    have f3 : ((V 0 8)).toInt ≠ 0 := b_neq rfl (by decide) c2
    exact W.vret hx hb hr (fun t ht hW => ⟨⟨(V, L), rfl, ⟨hMV, agV, rfl, (show 1 ≤ (V 0 8).toInt from by first | exact om_76052c512981 r1.1 f3 | first | omega | ((try (have i_x3 := Imp.go x3 (by omega))); omega))⟩, by rw [ht]; exact hP, va_K.moved hW.alike hK, hD⟩, hS.F ht⟩) hS.2.2 dX12_wrong_25
  · skip
    have f4 : ((V 0 8)).toInt = 0 := b_eq rfl (by decide) c2
    refine lv_aload_n hx hb dX12_wrong_7 rfl (lv_at hl 0 rfl) ?_
    refine lv_iload_n hx hb dX12_wrong_8 rfl (lv_at hl 1 rfl) ?_
    refine lv_bipush (v := 16) hx hb dX12_wrong_9 (by decide) ?_
    refine lv_aload_n hx hb dX12_wrong_11 rfl (lv_at hl 0 rfl) ?_
    refine va_get (D := D) (ci := 12) (v := .ref (ad 5)) (C := RX12) (T := TX12) (N := 100) hx hb hg inX12 hown hK hP 0 rfl rfl 5 (by decide) (hg _ w1711) (fun _ h9 => h9) rfl dX12_wrong_12 ?_
    refine lv_aload_n hx hb dX12_wrong_15 rfl (lv_at hl 0 rfl) ?_
    refine va_get (D := D) (ci := 12) (v := .int (V 0 7)) (C := RX12) (T := TX12) (N := 100) hx hb hg inX12 hown hK hP 0 rfl rfl 7 (by decide) (hg _ w1713) (fun _ h9 => h9) rfl dX12_wrong_16 ?_
    refine va_iald (D := D) (i := (V 0 7)) hx hb hK hP 3 2 rfl rfl (i_in (a := ((V 0 7)).toInt) rfl (by first | exact om_04c3762723a1 x2 ((Imp.go x3 (f4)).1) ((Imp.go x3 (f4)).2) | first | omega | ((try (have i_x3 := Imp.go x3 (by omega))); omega))) dX12_wrong_19 ?_
    have r5 : 0 ≤ ((V 5 (Int32.toNatClampNeg (V 0 7)))).toInt ∧ ((V 5 (Int32.toNatClampNeg (V 0 7)))).toInt ≤ 4000 := hMV 5 (Int32.toNatClampNeg (V 0 7))
    refine lv_imul hx hb dX12_wrong_20 ?_
    refine lv_topi (fun z6 ez6 => ?_)
    have hz6 : z6.toInt = 16 * ((V 5 (Int32.toNatClampNeg (V 0 7)))).toInt := i_mul ez6 (by decide) rfl (by (first | exact om_6843b3d39a18 r5.1 r5.2 | omega))
    refine lv_iadd hx hb dX12_wrong_21 ?_
    refine lv_topi (fun z7 ez7 => ?_)
    have hz7 : z7.toInt = p0.toInt + z6.toInt := i_add ez7 rfl rfl (by (first | exact om_ddbdbfc8487c rg_p0.1 rg_p0.2 r5.1 r5.2 hz6 | omega))
    refine va_put (D := D) (ci := 12) (v := .int z7) (ty := tyX12 8) (C := RX12) (T := TX12) (N := 100) hx hb hg inX12 tyX12 tyX12_ok nmX12 hown hK hP hD hS 0 rfl rfl 8 (by decide) (hg _ w1714) (fun _ h9 => h9) rfl (tyX12_ok 8 (by decide)) rfl rfl (Nat.le_of_ble_eq_true rfl) dX12_wrong_22 (fun H locs hP hD hS => ?_)
    obtain ⟨V8, hV8⟩ : ∃ z, z = up2 V 0 8 z7 := ⟨_, rfl⟩
    have hP : va_P D vwCl (mw ad kk ks.1 V8 L) H := by rw [hV8]; exact hP
    have hD : va_D A (mw ad kk ks.1 V8 L) := by rw [hV8]; exact hD
    have hMV8 : rgd bM V8 := hMV.put hV8 (show 0 ≤ z7.toInt ∧ z7.toInt ≤ 70000 from by first | exact om_eaaaa04a7877 rg_p0.1 rg_p0.2 r5.1 r5.2 hz6 hz7 | first | omega | ((try (have i_x3 := Imp.go x3 (by omega))); omega))
    have agV8 : agr [(0, 8)] [] V V8 := agV.up hV8 rfl
    have pq9 : (V8 0 8).toInt = z7.toInt := congrArg Int32.toInt (up2_s hV8)
    exact W.vret hx hb hr (fun t ht hW => ⟨⟨(V8, L), rfl, ⟨hMV8, agV8, rfl, (show 1 ≤ (V8 0 8).toInt from by first | exact om_48d376e72754 rg_p0.1 r5.1 hz6 hz7 pq9 | first | omega | ((try (have i_x3 := Imp.go x3 (by omega))); omega))⟩, by rw [ht]; exact hP, va_K.moved hW.alike hK, hD⟩, hS.F ht⟩) hS.2.2 dX12_wrong_25
abbrev r_s_isSign : Room := { frames := 0, cells := 0, slots := 0, locals := 0 }
abbrev q_s_isSign (D : va_G) (ks : KS) (ad : Nat → Nat) (kk : Nat → ClassId) (V : Vf) (L : Lf) (p0 : Int32) (n : Nat) (A : Nat → Prop) : Array Value → State → Outcome → State → Prop := va_Qi (fun (r : Int32) (_ : Unit) => (0 ≤ r.toInt ∧ r.toInt ≤ 1) ∧ (Imp (r.toInt = 1) ((V 0 8).toInt = 0 ∧ 0 ≤ (V 0 7).toInt ∧ (V 0 7).toInt < n))) (fun _ t => gq D A (mw ad kk ks.1 V L) (mty kk) t) A
abbrev r_s_isWord : Room := { frames := 0, cells := 0, slots := 0, locals := 0 }
abbrev q_s_isWord (D : va_G) (ks : KS) (ad : Nat → Nat) (kk : Nat → ClassId) (V : Vf) (L : Lf) (p0 : Int32) (n : Nat) (A : Nat → Prop) : Array Value → State → Outcome → State → Prop := va_Qi (fun (r : Int32) (_ : Unit) => (0 ≤ r.toInt ∧ r.toInt ≤ 1) ∧ (Imp (r.toInt = 1) ((V 0 8).toInt = 0 ∧ 0 ≤ (V 0 7).toInt ∧ (V 0 7).toInt < n))) (fun _ t => gq D A (mw ad kk ks.1 V L) (mty kk) t) A
set_option maxHeartbeats 4000000 in
set_option maxRecDepth 100000 in
theorem s_isWord (l : Launch) (D : va_G) (ks : KS) (sz : Nat) (ad : Nat → Nat) (kk : Nat → ClassId) (V : Vf) (L : Lf) (p0 : Int32) (n : Nat) (hMV : rgd bM V) (rg_p0 : 0 ≤ p0.toInt ∧ p0.toInt ≤ 29) (x1 : (V 4 n).toInt = 0) (x2 : n ≤ 4000) (x3 : Imp ((V 0 8).toInt = 0) (0 ≤ (V 0 7).toInt ∧ (V 0 7).toInt ≤ n))  : Met l yX12_isWord (Cond.code yX12_isWord cX12_isWord 2 (some .boolean) :: GW) r_s_isWord (va_Pc [.ref (ad 0), .int p0] (gp D ks (mw ad kk ks.1 V L) (mty kk) sz)) (q_s_isWord D ks ad kk V L p0 n (va_A (mw ad kk ks.1 V L) sz)) 0 0 (va_A (mw ad kk ks.1 V L) sz) := by
  refine g_met (q_s_isWord D ks ad kk V L p0 n) (by decide) (Nat.le_of_ble_eq_true rfl) ?_
  intro p e s m below meth c A ls H locs hx hb hr hml hown hg hlocks hin hnw hgk hP hK hD hS hA hl
  replace hown : s.vm.findClass RX12 = some m.cls := hown
  replace hl : lv_has ls 2 [(0, .ref (ad 0)), (1, .int p0)] := hl
  replace hP : va_P D vwCl (mw ad kk ks.1 V L) H := hP
  replace hD : va_D A (mw ad kk ks.1 V L) := hD
  replace hK : va_K D vwCl (mty kk) s := hK
  have r1 : 0 ≤ ((V 0 8)).toInt ∧ ((V 0 8)).toInt ≤ 70000 := hMV 0 8
  refine lv_aload_n hx hb dX12_isWord_0 rfl (lv_at hl 0 rfl) ?_
  refine va_get (D := D) (ci := 12) (v := .int (V 0 8)) (C := RX12) (T := TX12) (N := 100) hx hb hg inX12 hown hK hP 0 rfl rfl 8 (by decide) (hg _ w1714) (fun _ h9 => h9) rfl dX12_isWord_1 ?_
  refine lv_if_ne (tgt := 43) hx hb dX12_isWord_4 (by decide) (fun c2 => ?_) (fun c2 => ?_)
  · skip
    have f3 : ((V 0 8)).toInt ≠ 0 := b_neq rfl (by decide) c2
    refine lv_iconst (v := 0) hx hb dX12_isWord_43 (by decide) ?_
    exact W.zret (v := 0) hx hb hr rfl (fun t ht hW => ⟨⟨0, (), rfl, ⟨(by decide), (Imp.mk (fun hp => absurd hp (by decide)))⟩, by rw [ht]; exact hP, va_K.moved hW.alike hK, hD⟩, hS.F ht⟩) hS.2.2 dX12_isWord_44
  · skip
    have f4 : ((V 0 8)).toInt = 0 := b_eq rfl (by decide) c2
    refine lv_aload_n hx hb dX12_isWord_7 rfl (lv_at hl 0 rfl) ?_
    refine va_get (D := D) (ci := 12) (v := .ref (ad 4)) (C := RX12) (T := TX12) (N := 100) hx hb hg inX12 hown hK hP 0 rfl rfl 4 (by decide) (hg _ w1710) (fun _ h9 => h9) rfl dX12_isWord_8 ?_
    refine lv_aload_n hx hb dX12_isWord_11 rfl (lv_at hl 0 rfl) ?_
    refine va_get (D := D) (ci := 12) (v := .int (V 0 7)) (C := RX12) (T := TX12) (N := 100) hx hb hg inX12 hown hK hP 0 rfl rfl 7 (by decide) (hg _ w1713) (fun _ h9 => h9) rfl dX12_isWord_12 ?_
    refine va_iald (D := D) (i := (V 0 7)) hx hb hK hP 2 1 rfl rfl (i_in (a := ((V 0 7)).toInt) rfl (by first | exact om_04c3762723a1 x2 ((Imp.go x3 (f4)).1) ((Imp.go x3 (f4)).2) | first | omega | ((try (have i_x3 := Imp.go x3 (by omega))); omega))) dX12_isWord_15 ?_
    have t5 := tok_ne (V := V) (x := (V 0 7)) (n := n) x1 (by first | omega | ((try (have i_x3 := Imp.go x3 (by omega))); omega))
    refine lv_iconst (v := 1) hx hb dX12_isWord_16 (by decide) ?_
    refine lv_icmp_ne (tgt := 43) hx hb dX12_isWord_17 (by decide) (fun c6 => ?_) (fun c6 => ?_)
    · skip
      have f7 : ((V 4 (Int32.toNatClampNeg (V 0 7)))).toInt ≠ 1 := b_neq rfl (by decide) c6
      refine lv_iconst (v := 0) hx hb dX12_isWord_43 (by decide) ?_
      exact W.zret (v := 0) hx hb hr rfl (fun t ht hW => ⟨⟨0, (), rfl, ⟨(by decide), (Imp.mk (fun hp => absurd hp (by decide)))⟩, by rw [ht]; exact hP, va_K.moved hW.alike hK, hD⟩, hS.F ht⟩) hS.2.2 dX12_isWord_44
    · skip
      have f8 : ((V 4 (Int32.toNatClampNeg (V 0 7)))).toInt = 1 := b_eq rfl (by decide) c6
      refine lv_aload_n hx hb dX12_isWord_20 rfl (lv_at hl 0 rfl) ?_
      refine va_get (D := D) (ci := 12) (v := .ref (ad 6)) (C := RX12) (T := TX12) (N := 100) hx hb hg inX12 hown hK hP 0 rfl rfl 6 (by decide) (hg _ w1712) (fun _ h9 => h9) rfl dX12_isWord_21 ?_
      refine lv_aload_n hx hb dX12_isWord_24 rfl (lv_at hl 0 rfl) ?_
      refine va_get (D := D) (ci := 12) (v := .int (V 0 7)) (C := RX12) (T := TX12) (N := 100) hx hb hg inX12 hown hK hP 0 rfl rfl 7 (by decide) (hg _ w1713) (fun _ h9 => h9) rfl dX12_isWord_25 ?_
      refine va_lald (D := D) (i := (V 0 7)) hx hb hK hP 4 3 rfl rfl (i_in (a := ((V 0 7)).toInt) rfl (by first | exact om_04c3762723a1 x2 ((Imp.go x3 (f4)).1) ((Imp.go x3 (f4)).2) | first | omega | ((try (have i_t5 := Imp.go t5 (by omega))); (try (have i_x3 := Imp.go x3 (by omega))); (try (have i_x3 := Imp.go x3 (by omega))); (try (have i_t5 := Imp.go t5 (by omega))); omega))) dX12_isWord_28 ?_
      refine lv_topl (fun w9 ew9 => ?_)
      refine lv_aload_n hx hb dX12_isWord_29 rfl (lv_at hl 0 rfl) ?_
      refine va_get (D := D) (ci := 12) (v := .ref (ad 10)) (C := RX12) (T := TX12) (N := 100) hx hb hg inX12 hown hK hP 0 rfl rfl 10 (by decide) (hg _ w1716) (fun _ h9 => h9) rfl dX12_isWord_30 ?_
      refine lv_iload_n hx hb dX12_isWord_33 rfl (lv_at hl 1 rfl) ?_
      refine va_lald (D := D) (i := p0) hx hb hK hP 5 4 rfl rfl (i_in (a := p0.toInt) rfl (by first | exact om_6649754ab818 rg_p0.1 rg_p0.2 | first | omega | ((try (have i_t5 := Imp.go t5 (by omega))); (try (have i_x3 := Imp.go x3 (by omega))); (try (have i_x3 := Imp.go x3 (by omega))); (try (have i_t5 := Imp.go t5 (by omega))); omega))) dX12_isWord_34 ?_
      refine lv_topl (fun w10 ew10 => ?_)
      refine W.lcmp hx hb dX12_isWord_35 ?_
      refine lv_topi (fun z11 ez11 => ?_)
      have hz11 : -1 ≤ z11.toInt ∧ z11.toInt ≤ 1 := lcmp_r ez11
      refine lv_if_ne (tgt := 43) hx hb dX12_isWord_36 (by decide) (fun c12 => ?_) (fun c12 => ?_)
      · skip
        have f13 : z11.toInt ≠ 0 := b_neq rfl (by decide) c12
        refine lv_iconst (v := 0) hx hb dX12_isWord_43 (by decide) ?_
        exact W.zret (v := 0) hx hb hr rfl (fun t ht hW => ⟨⟨0, (), rfl, ⟨(by decide), (Imp.mk (fun hp => absurd hp (by decide)))⟩, by rw [ht]; exact hP, va_K.moved hW.alike hK, hD⟩, hS.F ht⟩) hS.2.2 dX12_isWord_44
      · skip
        have f14 : z11.toInt = 0 := b_eq rfl (by decide) c12
        refine lv_iconst (v := 1) hx hb dX12_isWord_39 (by decide) ?_
        refine lv_goto (tgt := 44) hx hb dX12_isWord_40 (by decide) ?_
        exact W.zret (v := 1) hx hb hr rfl (fun t ht hW => ⟨⟨1, (), rfl, ⟨(by decide), (Imp.mk (fun _ => (show (V 0 8).toInt = 0 ∧ 0 ≤ (V 0 7).toInt ∧ (V 0 7).toInt < n from by first | omega | ((try (have i_t5 := Imp.go t5 (by omega))); (try (have i_x3 := Imp.go x3 (by omega))); (try (have i_x3 := Imp.go x3 (by omega))); (try (have i_t5 := Imp.go t5 (by omega))); omega))))⟩, by rw [ht]; exact hP, va_K.moved hW.alike hK, hD⟩, hS.F ht⟩) hS.2.2 dX12_isWord_44
abbrev r_s_takeSign : Room := { frames := 1, cells := 0, slots := 0, locals := 21 }
abbrev q_s_takeSign (D : va_G) (ks : KS) (ad : Nat → Nat) (kk : Nat → ClassId) (V : Vf) (L : Lf) (p0 : Int32) (n : Nat) (A : Nat → Prop) : Array Value → State → Outcome → State → Prop := va_Qv (fun (u : Vf × Lf) => rgd bM u.1 ∧ agr [(0, 7), (0, 8)] [] V u.1 ∧ u.2 = L ∧ (Imp ((u.1 0 8).toInt = 0) (0 ≤ (u.1 0 7).toInt ∧ (u.1 0 7).toInt ≤ n ∧ (V 0 8).toInt = 0 ∧ (V 0 7).toInt ≤ (u.1 0 7).toInt))) (fun u t => gq D A (mw ad kk ks.1 u.1 u.2) (mty kk) t) A
abbrev r_s_hasSign : Room := { frames := 1, cells := 0, slots := 0, locals := 21 }
abbrev q_s_hasSign (D : va_G) (ks : KS) (ad : Nat → Nat) (kk : Nat → ClassId) (V : Vf) (L : Lf) (p0 : Int32) (n : Nat) (A : Nat → Prop) : Array Value → State → Outcome → State → Prop := va_Qi (fun (r : Int32) (u : Vf × Lf) => rgd bM u.1 ∧ agr [(0, 7)] [] V u.1 ∧ u.2 = L ∧ (0 ≤ r.toInt ∧ r.toInt ≤ 1) ∧ (Imp ((u.1 0 8).toInt = 0) (0 ≤ (u.1 0 7).toInt ∧ (u.1 0 7).toInt ≤ n ∧ (V 0 8).toInt = 0 ∧ (V 0 7).toInt ≤ (u.1 0 7).toInt)) ∧ (Imp (r.toInt = 1) ((u.1 0 8).toInt = 0 ∧ (V 0 7).toInt + 1 ≤ (u.1 0 7).toInt))) (fun u t => gq D A (mw ad kk ks.1 u.1 u.2) (mty kk) t) A
abbrev r_s_hasWord : Room := { frames := 1, cells := 0, slots := 0, locals := 21 }
abbrev q_s_hasWord (D : va_G) (ks : KS) (ad : Nat → Nat) (kk : Nat → ClassId) (V : Vf) (L : Lf) (p0 : Int32) (n : Nat) (A : Nat → Prop) : Array Value → State → Outcome → State → Prop := va_Qi (fun (r : Int32) (u : Vf × Lf) => rgd bM u.1 ∧ agr [(0, 7)] [] V u.1 ∧ u.2 = L ∧ (0 ≤ r.toInt ∧ r.toInt ≤ 1) ∧ (Imp ((u.1 0 8).toInt = 0) (0 ≤ (u.1 0 7).toInt ∧ (u.1 0 7).toInt ≤ n ∧ (V 0 8).toInt = 0 ∧ (V 0 7).toInt ≤ (u.1 0 7).toInt)) ∧ (Imp (r.toInt = 1) ((u.1 0 8).toInt = 0 ∧ (V 0 7).toInt + 1 ≤ (u.1 0 7).toInt))) (fun u t => gq D A (mw ad kk ks.1 u.1 u.2) (mty kk) t) A
set_option maxHeartbeats 4000000 in
set_option maxRecDepth 100000 in
theorem s_hasWord (l : Launch) (D : va_G) (ks : KS) (sz : Nat) (ad : Nat → Nat) (kk : Nat → ClassId) (V : Vf) (L : Lf) (p0 : Int32) (n : Nat) (hMV : rgd bM V) (rg_p0 : 0 ≤ p0.toInt ∧ p0.toInt ≤ 29) (x1 : (V 4 n).toInt = 0) (x2 : n ≤ 4000) (x3 : Imp ((V 0 8).toInt = 0) (0 ≤ (V 0 7).toInt ∧ (V 0 7).toInt ≤ n))  : Met l yX12_hasWord (Cond.code yX12_hasWord cX12_hasWord 3 (some .boolean) :: GW) r_s_hasWord (va_Pc [.ref (ad 0), .int p0] (gp D ks (mw ad kk ks.1 V L) (mty kk) sz)) (q_s_hasWord D ks ad kk V L p0 n (va_A (mw ad kk ks.1 V L) sz)) 0 0 (va_A (mw ad kk ks.1 V L) sz) := by
  refine g_met (q_s_hasWord D ks ad kk V L p0 n) (by decide) (Nat.le_of_ble_eq_true rfl) ?_
  intro p e s m below meth c A ls H locs hx hb hr hml hown hg hlocks hin hnw hgk hP hK hD hS hA hl
  replace hown : s.vm.findClass RX12 = some m.cls := hown
  replace hl : lv_has ls 3 [(0, .ref (ad 0)), (1, .int p0)] := hl
  replace hP : va_P D vwCl (mw ad kk ks.1 V L) H := hP
  replace hD : va_D A (mw ad kk ks.1 V L) := hD
  replace hK : va_K D vwCl (mty kk) s := hK
  have agV : agr [(0, 7)] [] V V := agr.rf
  have r1 : 0 ≤ ((V 0 8)).toInt ∧ ((V 0 8)).toInt ≤ 70000 := hMV 0 8
  refine lv_aload_n hx hb dX12_hasWord_0 rfl (lv_at hl 0 rfl) ?_
  refine lv_iload_n hx hb dX12_hasWord_1 rfl (lv_at hl 1 rfl) ?_
  refine gA_int (gA_runV (As := [.int p0]) (rest := []) (ci := 12) (q0 := 0) hx hb hml hown hg hP hD hK hS hA hnw hgk (s_isWord l D ks H.size ad kk V L p0 (n) hMV (by first | exact om_dcb26408844e rg_p0.1 rg_p0.2 | first | omega | ((try (have i_x3 := Imp.go x3 (by omega))); omega)) (show (V 4 (n)).toInt = 0 from by first | exact om_b66ba74381d5 x1 | first | omega | ((try (have i_x3 := Imp.go x3 (by omega))); omega)) (show (n) ≤ 4000 from by first | exact om_af64e361c991 x2 | first | omega | ((try (have i_x3 := Imp.go x3 (by omega))); omega)) (Imp.mk (fun hp => have hp : (V 0 8).toInt = 0 := hp; (show 0 ≤ (V 0 7).toInt ∧ (V 0 7).toInt ≤ (n) from by first | exact om_408b46baf51e ((Imp.go x3 (hp)).1) ((Imp.go x3 (hp)).2) | first | omega | ((try (have i_x3 := Imp.go x3 (by omega))); omega))))) w2023 w2025 w83 w172 w2026 rfl rfl hdV_yX12_isWord ⟨Nat.le_of_ble_eq_true rfl, Nat.le_of_ble_eq_true rfl⟩ rfl hl.1 rfl (Nat.le_of_ble_eq_true rfl) dX12_hasWord_2 ⟨Nat.le_of_ble_eq_true rfl, Nat.le_of_ble_eq_true rfl⟩) hP hD hK hS hA (fun z2 u3 H locs w4 hP hD hK hS => ?_)
  obtain ⟨rgz2, t5⟩ := w4
  replace rgz2 : 0 ≤ z2.toInt ∧ z2.toInt ≤ 1 := rgz2
  replace t5 : Imp (z2.toInt = 1) ((V 0 8).toInt = 0 ∧ 0 ≤ (V 0 7).toInt ∧ (V 0 7).toInt < (n)) := t5
  refine lv_istore_n (lv' := [(2, .int z2), (0, .ref (ad 0)), (1, .int p0)]) hx hb dX12_hasWord_5 rfl hl (by decide) rfl (fun ls hl => ?_)
  refine lv_aload_n hx hb dX12_hasWord_6 rfl (lv_at hl 1 rfl) ?_
  refine lv_dup hx hb dX12_hasWord_7 rfl ?_
  refine va_get (D := D) (ci := 12) (v := .int (V 0 7)) (C := RX12) (T := TX12) (N := 100) hx hb hg inX12 hown hK hP 0 rfl rfl 7 (by decide) (hg _ w1713) (fun _ h9 => h9) rfl dX12_hasWord_8 ?_
  refine lv_iload_n hx hb dX12_hasWord_11 rfl (lv_at hl 0 rfl) ?_
  refine lv_if_eq (tgt := 19) hx hb dX12_hasWord_12 (by decide) (fun c6 => ?_) (fun c6 => ?_)
  · skip
    have f7 : z2.toInt = 0 := b_eq rfl (by decide) c6
    refine lv_iconst (v := 0) hx hb dX12_hasWord_19 (by decide) ?_
    refine lv_iadd hx hb dX12_hasWord_20 ?_
    have r8 := i_full (V 0 7)
    refine lv_topi (fun z9 ez9 => ?_)
    have hz9 : z9.toInt = ((V 0 7)).toInt + 0 := i_add ez9 rfl (by decide) (by (first | exact om_1db51938ff5e r8.1 r8.2 | omega))
    refine va_put (D := D) (ci := 12) (v := .int z9) (ty := tyX12 7) (C := RX12) (T := TX12) (N := 100) hx hb hg inX12 tyX12 tyX12_ok nmX12 hown hK hP hD hS 0 rfl rfl 7 (by decide) (hg _ w1713) (fun _ h9 => h9) rfl (tyX12_ok 7 (by decide)) rfl rfl (Nat.le_of_ble_eq_true rfl) dX12_hasWord_21 (fun H locs hP hD hS => ?_)
    obtain ⟨V10, hV10⟩ : ∃ z, z = up2 V 0 7 z9 := ⟨_, rfl⟩
    have hP : va_P D vwCl (mw ad kk ks.1 V10 L) H := by rw [hV10]; exact hP
    have hD : va_D A (mw ad kk ks.1 V10 L) := by rw [hV10]; exact hD
    have hMV10 : rgd bM V10 := hMV.put hV10 (i_full _)
    have agV10 : agr [(0, 7)] [] V V10 := agV.up hV10 rfl
    refine lv_iload_n hx hb dX12_hasWord_24 rfl (lv_at hl 0 rfl) ?_
    have pq11 : (V10 0 7).toInt = z9.toInt := congrArg Int32.toInt (up2_s hV10)
    have pq12 : (V10 0 8).toInt = ((V 0 8)).toInt := congrArg Int32.toInt (up2_k hV10 (by decide))
    exact W.zret (v := z2) hx hb hr (nb_ok (by omega)) (fun t ht hW => ⟨⟨z2, (V10, L), rfl, ⟨hMV10, agV10, rfl, (show 0 ≤ z2.toInt ∧ z2.toInt ≤ 1 from by first | exact om_85296d547285 rgz2.1 f7 | first | omega | ((try (have i_t5 := Imp.go t5 (by omega))); (try (have i_x3 := Imp.go x3 (by omega))); (try (have i_x3 := Imp.go x3 (by omega))); (try (have i_t5 := Imp.go t5 (by omega))); omega)), (Imp.mk (fun hp => have hp : (V10 0 8).toInt = 0 := hp; (show 0 ≤ (V10 0 7).toInt ∧ (V10 0 7).toInt ≤ n ∧ (V 0 8).toInt = 0 ∧ (V 0 7).toInt ≤ (V10 0 7).toInt from by first | exact om_da797f2a8102 r1.1 hz9 pq11 pq12 hp ((Imp.go x3 ((pq12.symm).trans (hp))).1) ((Imp.go x3 ((pq12.symm).trans (hp))).2) | first | omega | ((try (have i_t5 := Imp.go t5 (by omega))); (try (have i_x3 := Imp.go x3 (by omega))); (try (have i_x3 := Imp.go x3 (by omega))); (try (have i_t5 := Imp.go t5 (by omega))); omega)))), (Imp.mk (fun hp => have hp : z2.toInt = 1 := hp; (show (V10 0 8).toInt = 0 ∧ (V 0 7).toInt + 1 ≤ (V10 0 7).toInt from by first | omega | ((try (have i_t5 := Imp.go t5 (by omega))); (try (have i_x3 := Imp.go x3 (by omega))); (try (have i_x3 := Imp.go x3 (by omega))); (try (have i_t5 := Imp.go t5 (by omega))); omega))))⟩, by rw [ht]; exact hP, va_K.moved hW.alike hK, hD⟩, hS.F ht⟩) hS.2.2 dX12_hasWord_25
  · skip
    have f13 : z2.toInt ≠ 0 := b_neq rfl (by decide) c6
    refine lv_iconst (v := 1) hx hb dX12_hasWord_15 (by decide) ?_
    refine lv_goto (tgt := 20) hx hb dX12_hasWord_16 (by decide) ?_
    refine lv_iadd hx hb dX12_hasWord_20 ?_
    have r14 := i_full (V 0 7)
    refine lv_topi (fun z15 ez15 => ?_)
    have hz15 : Imp (-2147483648 ≤ ((V 0 7)).toInt + 1 ∧ ((V 0 7)).toInt + 1 ≤ 2147483647) (z15.toInt = ((V 0 7)).toInt + 1) := Imp.mk (fun hp => i_add ez15 rfl (by decide) hp)
    refine va_put (D := D) (ci := 12) (v := .int z15) (ty := tyX12 7) (C := RX12) (T := TX12) (N := 100) hx hb hg inX12 tyX12 tyX12_ok nmX12 hown hK hP hD hS 0 rfl rfl 7 (by decide) (hg _ w1713) (fun _ h9 => h9) rfl (tyX12_ok 7 (by decide)) rfl rfl (Nat.le_of_ble_eq_true rfl) dX12_hasWord_21 (fun H locs hP hD hS => ?_)
    obtain ⟨V16, hV16⟩ : ∃ z, z = up2 V 0 7 z15 := ⟨_, rfl⟩
    have hP : va_P D vwCl (mw ad kk ks.1 V16 L) H := by rw [hV16]; exact hP
    have hD : va_D A (mw ad kk ks.1 V16 L) := by rw [hV16]; exact hD
    have hMV16 : rgd bM V16 := hMV.put hV16 (i_full _)
    have agV16 : agr [(0, 7)] [] V V16 := agV.up hV16 rfl
    refine lv_iload_n hx hb dX12_hasWord_24 rfl (lv_at hl 0 rfl) ?_
    have pq17 : (V16 0 7).toInt = z15.toInt := congrArg Int32.toInt (up2_s hV16)
    have pq18 : (V16 0 8).toInt = ((V 0 8)).toInt := congrArg Int32.toInt (up2_k hV16 (by decide))
    exact W.zret (v := z2) hx hb hr (nb_ok (by omega)) (fun t ht hW => ⟨⟨z2, (V16, L), rfl, ⟨hMV16, agV16, rfl, (show 0 ≤ z2.toInt ∧ z2.toInt ≤ 1 from by first | exact om_a5282aae22c7 rgz2.1 rgz2.2 f13 | first | omega | ((try (have i_hz15 := Imp.go hz15 (by omega))); (try (have i_t5 := Imp.go t5 (by omega))); (try (have i_x3 := Imp.go x3 (by omega))); (try (have i_x3 := Imp.go x3 (by omega))); (try (have i_t5 := Imp.go t5 (by omega))); (try (have i_hz15 := Imp.go hz15 (by omega))); omega)), (Imp.mk (fun hp => have hp : (V16 0 8).toInt = 0 := hp; (show 0 ≤ (V16 0 7).toInt ∧ (V16 0 7).toInt ≤ n ∧ (V 0 8).toInt = 0 ∧ (V 0 7).toInt ≤ (V16 0 7).toInt from by first | exact om_dab5df2139f7 r1.1 pq17 ((Imp.go x3 ((pq18.symm).trans (hp))).1) ((Imp.go t5 (imp_a (rgz2.1) (rgz2.2) (f13))).1) ((Imp.go t5 (imp_a (rgz2.1) (rgz2.2) (f13))).2.2) ((Imp.go hz15 (om_053a02be3074 x2 ((Imp.go x3 ((pq18.symm).trans (hp))).1) ((Imp.go t5 (imp_a (rgz2.1) (rgz2.2) (f13))).2.2)))) | first | omega | ((try (have i_hz15 := Imp.go hz15 (by omega))); (try (have i_t5 := Imp.go t5 (by omega))); (try (have i_x3 := Imp.go x3 (by omega))); (try (have i_x3 := Imp.go x3 (by omega))); (try (have i_t5 := Imp.go t5 (by omega))); (try (have i_hz15 := Imp.go hz15 (by omega))); omega)))), (Imp.mk (fun hp => have hp : z2.toInt = 1 := hp; (show (V16 0 8).toInt = 0 ∧ (V 0 7).toInt + 1 ≤ (V16 0 7).toInt from by first | exact om_a9c835541e67 r1.1 pq17 pq18 ((Imp.go t5 (hp)).1) ((Imp.go hz15 (om_053a02be3074 x2 ((Imp.go t5 (hp)).2.1) ((Imp.go t5 (hp)).2.2)))) | first | omega | ((try (have i_hz15 := Imp.go hz15 (by omega))); (try (have i_t5 := Imp.go t5 (by omega))); (try (have i_x3 := Imp.go x3 (by omega))); (try (have i_x3 := Imp.go x3 (by omega))); (try (have i_t5 := Imp.go t5 (by omega))); (try (have i_hz15 := Imp.go hz15 (by omega))); omega))))⟩, by rw [ht]; exact hP, va_K.moved hW.alike hK, hD⟩, hS.F ht⟩) hS.2.2 dX12_hasWord_25
abbrev r_s_takeWord : Room := { frames := 2, cells := 0, slots := 0, locals := 43 }
abbrev q_s_takeWord (D : va_G) (ks : KS) (ad : Nat → Nat) (kk : Nat → ClassId) (V : Vf) (L : Lf) (p0 : Int32) (n : Nat) (A : Nat → Prop) : Array Value → State → Outcome → State → Prop := va_Qv (fun (u : Vf × Lf) => rgd bM u.1 ∧ agr [(0, 7), (0, 8)] [] V u.1 ∧ u.2 = L ∧ (Imp ((u.1 0 8).toInt = 0) (0 ≤ (u.1 0 7).toInt ∧ (u.1 0 7).toInt ≤ n ∧ (V 0 8).toInt = 0 ∧ (V 0 7).toInt ≤ (u.1 0 7).toInt))) (fun u t => gq D A (mw ad kk ks.1 u.1 u.2) (mty kk) t) A
end
