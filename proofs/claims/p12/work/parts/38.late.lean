theorem w2238 : Cond.code yX12_getsWhole cX12_getsWhole 8 (some .int) ∈ GW := gw_mem 2238 (by decide +kernel) rfl
theorem w2235 : Cond.methodLink RX12 568 yX12_getsWhole ∈ GW := gw_mem 2235 (by decide +kernel) rfl
theorem w2237 : Cond.instanceMethod yX12_getsWhole ∈ GW := gw_mem 2237 (by decide +kernel) rfl
theorem w128 : Cond.selects RX12 yX12_getsWhole yX12_getsWhole ∈ GW := gw_mem 128 (by decide +kernel) rfl
theorem hdV_yX12_getsWhole : yX12_getsWhole.cls = RX12 ∧ yX12_getsWhole.cls ≠ "java/lang/invoke/MethodHandle" ∧ yX12_getsWhole.cls ≠ "java/lang/invoke/VarHandle" ∧ (parseMethodDescriptor yX12_getsWhole.desc).map (fun d => d.parameters.length) = some 2 := by decide +kernel
theorem dX12_ofLate_0 : decode cX12_ofLate 0 = .ok (.aload_n 0, 1) := by decide +kernel
theorem dX12_ofLate_1 : decode cX12_ofLate 1 = .ok (.iload_n 3, 1) := by decide +kernel
theorem dX12_ofLate_2 : decode cX12_ofLate 2 = .ok (.invokevirtual 455, 3) := by decide +kernel
theorem dX12_ofLate_5 : decode cX12_ofLate 5 = .ok (.istore 7, 2) := by decide +kernel
theorem dX12_ofLate_7 : decode cX12_ofLate 7 = .ok (.aload_n 0, 1) := by decide +kernel
theorem dX12_ofLate_8 : decode cX12_ofLate 8 = .ok (.getfield 198, 3) := by decide +kernel
theorem dX12_ofLate_11 : decode cX12_ofLate 11 = .ok (.iconst 0, 1) := by decide +kernel
theorem dX12_ofLate_12 : decode cX12_ofLate 12 = .ok (.iaload, 1) := by decide +kernel
theorem dX12_ofLate_13 : decode cX12_ofLate 13 = .ok (.istore 8, 2) := by decide +kernel
theorem dX12_ofLate_15 : decode cX12_ofLate 15 = .ok (.aload_n 0, 1) := by decide +kernel
theorem dX12_ofLate_16 : decode cX12_ofLate 16 = .ok (.getfield 71, 3) := by decide +kernel
theorem dX12_ofLate_19 : decode cX12_ofLate 19 = .ok (.bipush 24, 2) := by decide +kernel
theorem dX12_ofLate_21 : decode cX12_ofLate 21 = .ok (.aload_n 0, 1) := by decide +kernel
theorem dX12_ofLate_22 : decode cX12_ofLate 22 = .ok (.getfield 286, 3) := by decide +kernel
theorem dX12_ofLate_25 : decode cX12_ofLate 25 = .ok (.imul, 1) := by decide +kernel
theorem dX12_ofLate_26 : decode cX12_ofLate 26 = .ok (.iload 8, 2) := by decide +kernel
theorem dX12_ofLate_28 : decode cX12_ofLate 28 = .ok (.iadd, 1) := by decide +kernel
theorem dX12_ofLate_29 : decode cX12_ofLate 29 = .ok (.iaload, 1) := by decide +kernel
theorem dX12_ofLate_30 : decode cX12_ofLate 30 = .ok (.iconst 3, 1) := by decide +kernel
theorem dX12_ofLate_31 : decode cX12_ofLate 31 = .ok (.if_icmp .ne 7, 3) := by decide +kernel
theorem dX12_ofLate_38 : decode cX12_ofLate 38 = .ok (.iconst 0, 1) := by decide +kernel
theorem dX12_ofLate_39 : decode cX12_ofLate 39 = .ok (.istore 9, 2) := by decide +kernel
theorem dX12_ofLate_41 : decode cX12_ofLate 41 = .ok (.iload 9, 2) := by decide +kernel
theorem dX12_ofLate_43 : decode cX12_ofLate 43 = .ok (.ifCond .eq 17, 3) := by decide +kernel
theorem dX12_ofLate_60 : decode cX12_ofLate 60 = .ok (.aload_n 0, 1) := by decide +kernel
theorem dX12_ofLate_61 : decode cX12_ofLate 61 = .ok (.getfield 520, 3) := by decide +kernel
theorem dX12_ofLate_64 : decode cX12_ofLate 64 = .ok (.bipush 10, 2) := by decide +kernel
theorem dX12_ofLate_66 : decode cX12_ofLate 66 = .ok (.if_icmp .ne 10, 3) := by decide +kernel
theorem dX12_ofLate_76 : decode cX12_ofLate 76 = .ok (.aload_n 0, 1) := by decide +kernel
theorem dX12_ofLate_77 : decode cX12_ofLate 77 = .ok (.dup, 1) := by decide +kernel
theorem dX12_ofLate_78 : decode cX12_ofLate 78 = .ok (.getfield 520, 3) := by decide +kernel
theorem dX12_ofLate_81 : decode cX12_ofLate 81 = .ok (.iconst 1, 1) := by decide +kernel
theorem dX12_ofLate_82 : decode cX12_ofLate 82 = .ok (.iadd, 1) := by decide +kernel
theorem dX12_ofLate_83 : decode cX12_ofLate 83 = .ok (.putfield 520, 3) := by decide +kernel
theorem dX12_ofLate_86 : decode cX12_ofLate 86 = .ok (.aload_n 0, 1) := by decide +kernel
theorem dX12_ofLate_87 : decode cX12_ofLate 87 = .ok (.iload 8, 2) := by decide +kernel
theorem dX12_ofLate_89 : decode cX12_ofLate 89 = .ok (.iload 5, 2) := by decide +kernel
theorem dX12_ofLate_91 : decode cX12_ofLate 91 = .ok (.invokevirtual 568, 3) := by decide +kernel
theorem dX12_ofLate_94 : decode cX12_ofLate 94 = .ok (.istore 10, 2) := by decide +kernel
theorem dX12_ofLate_96 : decode cX12_ofLate 96 = .ok (.aload_n 0, 1) := by decide +kernel
theorem dX12_ofLate_97 : decode cX12_ofLate 97 = .ok (.dup, 1) := by decide +kernel
theorem dX12_ofLate_98 : decode cX12_ofLate 98 = .ok (.getfield 520, 3) := by decide +kernel
theorem dX12_ofLate_101 : decode cX12_ofLate 101 = .ok (.iconst 1, 1) := by decide +kernel
theorem dX12_ofLate_102 : decode cX12_ofLate 102 = .ok (.isub, 1) := by decide +kernel
theorem dX12_ofLate_103 : decode cX12_ofLate 103 = .ok (.putfield 520, 3) := by decide +kernel
theorem dX12_ofLate_106 : decode cX12_ofLate 106 = .ok (.iload 10, 2) := by decide +kernel
theorem dX12_ofLate_108 : decode cX12_ofLate 108 = .ok (.ifCond .le 6, 3) := by decide +kernel
theorem dX12_ofLate_114 : decode cX12_ofLate 114 = .ok (.iload 9, 2) := by decide +kernel
theorem dX12_ofLate_116 : decode cX12_ofLate 116 = .ok (.ifCond .eq 47, 3) := by decide +kernel
theorem dX12_ofLate_163 : decode cX12_ofLate 163 = .ok (.aload_n 0, 1) := by decide +kernel
theorem dX12_ofLate_164 : decode cX12_ofLate 164 = .ok (.aload_n 0, 1) := by decide +kernel
theorem dX12_ofLate_165 : decode cX12_ofLate 165 = .ok (.getfield 490, 3) := by decide +kernel
theorem dX12_ofLate_168 : decode cX12_ofLate 168 = .ok (.iload 4, 2) := by decide +kernel
theorem dX12_ofLate_170 : decode cX12_ofLate 170 = .ok (.iload 5, 2) := by decide +kernel
theorem dX12_ofLate_172 : decode cX12_ofLate 172 = .ok (.iload 6, 2) := by decide +kernel
theorem dX12_ofLate_174 : decode cX12_ofLate 174 = .ok (.invokevirtual 566, 3) := by decide +kernel
theorem dX12_ofLate_177 : decode cX12_ofLate 177 = .ok (.ireturn, 1) := by decide +kernel
theorem dX12_ofLate_111 : decode cX12_ofLate 111 = .ok (.iload 10, 2) := by decide +kernel
theorem dX12_ofLate_113 : decode cX12_ofLate 113 = .ok (.ireturn, 1) := by decide +kernel
theorem dX12_ofLate_69 : decode cX12_ofLate 69 = .ok (.aload_n 0, 1) := by decide +kernel
theorem dX12_ofLate_70 : decode cX12_ofLate 70 = .ok (.bipush 13, 2) := by decide +kernel
theorem dX12_ofLate_72 : decode cX12_ofLate 72 = .ok (.invokevirtual 484, 3) := by decide +kernel
theorem dX12_ofLate_75 : decode cX12_ofLate 75 = .ok (.ireturn, 1) := by decide +kernel
theorem dX12_ofLate_34 : decode cX12_ofLate 34 = .ok (.iconst 1, 1) := by decide +kernel
theorem dX12_ofLate_35 : decode cX12_ofLate 35 = .ok (.goto 4, 3) := by decide +kernel
theorem dX12_ofLate_46 : decode cX12_ofLate 46 = .ok (.aload_n 0, 1) := by decide +kernel
theorem dX12_ofLate_47 : decode cX12_ofLate 47 = .ok (.getfield 176, 3) := by decide +kernel
theorem dX12_ofLate_50 : decode cX12_ofLate 50 = .ok (.bipush 8, 2) := by decide +kernel
theorem dX12_ofLate_52 : decode cX12_ofLate 52 = .ok (.iload_n 1, 1) := by decide +kernel
theorem dX12_ofLate_53 : decode cX12_ofLate 53 = .ok (.imul, 1) := by decide +kernel
theorem dX12_ofLate_54 : decode cX12_ofLate 54 = .ok (.iload_n 2, 1) := by decide +kernel
theorem dX12_ofLate_55 : decode cX12_ofLate 55 = .ok (.iadd, 1) := by decide +kernel
theorem dX12_ofLate_56 : decode cX12_ofLate 56 = .ok (.iaload, 1) := by decide +kernel
theorem dX12_ofLate_57 : decode cX12_ofLate 57 = .ok (.ifCond .ne 121, 3) := by decide +kernel
theorem dX12_ofLate_178 : decode cX12_ofLate 178 = .ok (.aload_n 0, 1) := by decide +kernel
theorem dX12_ofLate_179 : decode cX12_ofLate 179 = .ok (.aload_n 0, 1) := by decide +kernel
theorem dX12_ofLate_180 : decode cX12_ofLate 180 = .ok (.getfield 180, 3) := by decide +kernel
theorem dX12_ofLate_183 : decode cX12_ofLate 183 = .ok (.bipush 24, 2) := by decide +kernel
theorem dX12_ofLate_185 : decode cX12_ofLate 185 = .ok (.bipush 8, 2) := by decide +kernel
theorem dX12_ofLate_187 : decode cX12_ofLate 187 = .ok (.iload_n 1, 1) := by decide +kernel
theorem dX12_ofLate_188 : decode cX12_ofLate 188 = .ok (.imul, 1) := by decide +kernel
theorem dX12_ofLate_189 : decode cX12_ofLate 189 = .ok (.iload_n 2, 1) := by decide +kernel
theorem dX12_ofLate_190 : decode cX12_ofLate 190 = .ok (.iadd, 1) := by decide +kernel
theorem dX12_ofLate_191 : decode cX12_ofLate 191 = .ok (.imul, 1) := by decide +kernel
theorem dX12_ofLate_192 : decode cX12_ofLate 192 = .ok (.iaload, 1) := by decide +kernel
theorem dX12_ofLate_193 : decode cX12_ofLate 193 = .ok (.iload 4, 2) := by decide +kernel
theorem dX12_ofLate_195 : decode cX12_ofLate 195 = .ok (.iload 5, 2) := by decide +kernel
theorem dX12_ofLate_197 : decode cX12_ofLate 197 = .ok (.iload 6, 2) := by decide +kernel
theorem dX12_ofLate_199 : decode cX12_ofLate 199 = .ok (.invokevirtual 566, 3) := by decide +kernel
theorem dX12_ofLate_202 : decode cX12_ofLate 202 = .ok (.ireturn, 1) := by decide +kernel
theorem dX12_ofLate_119 : decode cX12_ofLate 119 = .ok (.aload_n 0, 1) := by decide +kernel
theorem dX12_ofLate_120 : decode cX12_ofLate 120 = .ok (.getfield 176, 3) := by decide +kernel
theorem dX12_ofLate_123 : decode cX12_ofLate 123 = .ok (.bipush 8, 2) := by decide +kernel
theorem dX12_ofLate_125 : decode cX12_ofLate 125 = .ok (.iload_n 1, 1) := by decide +kernel
theorem dX12_ofLate_126 : decode cX12_ofLate 126 = .ok (.imul, 1) := by decide +kernel
theorem dX12_ofLate_127 : decode cX12_ofLate 127 = .ok (.iload_n 2, 1) := by decide +kernel
theorem dX12_ofLate_128 : decode cX12_ofLate 128 = .ok (.iadd, 1) := by decide +kernel
theorem dX12_ofLate_129 : decode cX12_ofLate 129 = .ok (.iaload, 1) := by decide +kernel
theorem dX12_ofLate_130 : decode cX12_ofLate 130 = .ok (.ifCond .ne 33, 3) := by decide +kernel
theorem dX12_ofLate_133 : decode cX12_ofLate 133 = .ok (.aload_n 0, 1) := by decide +kernel
theorem dX12_ofLate_134 : decode cX12_ofLate 134 = .ok (.getfield 180, 3) := by decide +kernel
theorem dX12_ofLate_137 : decode cX12_ofLate 137 = .ok (.bipush 24, 2) := by decide +kernel
theorem dX12_ofLate_139 : decode cX12_ofLate 139 = .ok (.bipush 8, 2) := by decide +kernel
theorem dX12_ofLate_141 : decode cX12_ofLate 141 = .ok (.iload_n 1, 1) := by decide +kernel
theorem dX12_ofLate_142 : decode cX12_ofLate 142 = .ok (.imul, 1) := by decide +kernel
theorem dX12_ofLate_143 : decode cX12_ofLate 143 = .ok (.iload_n 2, 1) := by decide +kernel
theorem dX12_ofLate_144 : decode cX12_ofLate 144 = .ok (.iadd, 1) := by decide +kernel
theorem dX12_ofLate_145 : decode cX12_ofLate 145 = .ok (.imul, 1) := by decide +kernel
theorem dX12_ofLate_146 : decode cX12_ofLate 146 = .ok (.aload_n 0, 1) := by decide +kernel
theorem dX12_ofLate_147 : decode cX12_ofLate 147 = .ok (.getfield 490, 3) := by decide +kernel
theorem dX12_ofLate_150 : decode cX12_ofLate 150 = .ok (.iastore, 1) := by decide +kernel
theorem dX12_ofLate_151 : decode cX12_ofLate 151 = .ok (.aload_n 0, 1) := by decide +kernel
theorem dX12_ofLate_152 : decode cX12_ofLate 152 = .ok (.getfield 176, 3) := by decide +kernel
theorem dX12_ofLate_155 : decode cX12_ofLate 155 = .ok (.bipush 8, 2) := by decide +kernel
theorem dX12_ofLate_157 : decode cX12_ofLate 157 = .ok (.iload_n 1, 1) := by decide +kernel
theorem dX12_ofLate_158 : decode cX12_ofLate 158 = .ok (.imul, 1) := by decide +kernel
theorem dX12_ofLate_159 : decode cX12_ofLate 159 = .ok (.iload_n 2, 1) := by decide +kernel
theorem dX12_ofLate_160 : decode cX12_ofLate 160 = .ok (.iadd, 1) := by decide +kernel
theorem dX12_ofLate_161 : decode cX12_ofLate 161 = .ok (.iconst 1, 1) := by decide +kernel
theorem dX12_ofLate_162 : decode cX12_ofLate 162 = .ok (.iastore, 1) := by decide +kernel