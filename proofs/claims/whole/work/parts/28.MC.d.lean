theorem k_MO_105 : Cond.fieldLink R_MO 105 R_MO "place" "I" ∈ AW := aw_mem (List.mem_of_getElem? (i := 583) (by decide +kernel)) (by decide +kernel)
theorem vw_MO_108 : VW R_MO 108 R_MO y_MO_readPart b_MO_readPart 10 (some .boolean) := ⟨aw_mem (List.mem_of_getElem? (i := 728) (by decide +kernel)) (by decide +kernel), aw_mem (List.mem_of_getElem? (i := 730) (by decide +kernel)) (by decide +kernel), aw_mem (List.mem_of_getElem? (i := 24) (by decide +kernel)) (by decide +kernel), aw_mem (List.mem_of_getElem? (i := 33) (by decide +kernel)) (by decide +kernel), aw_mem (List.mem_of_getElem? (i := 731) (by decide +kernel)) (by decide +kernel)⟩
theorem md_MO_readPart : MD y_MO_readPart 0 := by decide +kernel
theorem vw_MO_115 : VW R_MO 115 R_MO y_MO_readParts b_MO_readParts 2 (some .int) := ⟨aw_mem (List.mem_of_getElem? (i := 724) (by decide +kernel)) (by decide +kernel), aw_mem (List.mem_of_getElem? (i := 726) (by decide +kernel)) (by decide +kernel), aw_mem (List.mem_of_getElem? (i := 23) (by decide +kernel)) (by decide +kernel), aw_mem (List.mem_of_getElem? (i := 33) (by decide +kernel)) (by decide +kernel), aw_mem (List.mem_of_getElem? (i := 727) (by decide +kernel)) (by decide +kernel)⟩
theorem md_MO_readParts : MD y_MO_readParts 0 := by decide +kernel
theorem vw_MO_112 : VW R_MO 112 R_MO y_MO_readPlain b_MO_readPlain 2 (some .int) := ⟨aw_mem (List.mem_of_getElem? (i := 720) (by decide +kernel)) (by decide +kernel), aw_mem (List.mem_of_getElem? (i := 722) (by decide +kernel)) (by decide +kernel), aw_mem (List.mem_of_getElem? (i := 22) (by decide +kernel)) (by decide +kernel), aw_mem (List.mem_of_getElem? (i := 33) (by decide +kernel)) (by decide +kernel), aw_mem (List.mem_of_getElem? (i := 723) (by decide +kernel)) (by decide +kernel)⟩
theorem md_MO_readPlain : MD y_MO_readPlain 0 := by decide +kernel
theorem vw_MO_118 : VW R_MO 118 R_MO y_MO_readRun b_MO_readRun 5 (some .boolean) := ⟨aw_mem (List.mem_of_getElem? (i := 740) (by decide +kernel)) (by decide +kernel), aw_mem (List.mem_of_getElem? (i := 742) (by decide +kernel)) (by decide +kernel), aw_mem (List.mem_of_getElem? (i := 25) (by decide +kernel)) (by decide +kernel), aw_mem (List.mem_of_getElem? (i := 33) (by decide +kernel)) (by decide +kernel), aw_mem (List.mem_of_getElem? (i := 743) (by decide +kernel)) (by decide +kernel)⟩
theorem md_MO_readRun : MD y_MO_readRun 0 := by decide +kernel
theorem d_MO_readPlain_0 : decode b_MO_readPlain 0 = .ok (.iconst 0, 1) := by decide +kernel
theorem d_MO_readPlain_1 : decode b_MO_readPlain 1 = .ok (.istore_n 1, 1) := by decide +kernel
theorem d_MO_readPlain_2 : decode b_MO_readPlain 2 = .ok (.iload_n 1, 1) := by decide +kernel
theorem d_MO_readPlain_3 : decode b_MO_readPlain 3 = .ok (.aload_n 0, 1) := by decide +kernel
theorem d_MO_readPlain_4 : decode b_MO_readPlain 4 = .ok (.invokevirtual 50, 3) := by decide +kernel
theorem d_MO_readPlain_7 : decode b_MO_readPlain 7 = .ok (.if_icmp .ge 38, 3) := by decide +kernel
theorem d_MO_readPlain_10 : decode b_MO_readPlain 10 = .ok (.iconst 1, 1) := by decide +kernel
theorem d_MO_readPlain_11 : decode b_MO_readPlain 11 = .ok (.iload_n 1, 1) := by decide +kernel
theorem d_MO_readPlain_12 : decode b_MO_readPlain 12 = .ok (.iadd, 1) := by decide +kernel
theorem d_MO_readPlain_13 : decode b_MO_readPlain 13 = .ok (.aload_n 0, 1) := by decide +kernel
theorem d_MO_readPlain_14 : decode b_MO_readPlain 14 = .ok (.getfield 102, 3) := by decide +kernel
theorem d_MO_readPlain_17 : decode b_MO_readPlain 17 = .ok (.if_icmp .lt 8, 3) := by decide +kernel
theorem d_MO_readPlain_20 : decode b_MO_readPlain 20 = .ok (.aload_n 0, 1) := by decide +kernel
theorem d_MO_readPlain_21 : decode b_MO_readPlain 21 = .ok (.getfield 102, 3) := by decide +kernel
theorem d_MO_readPlain_24 : decode b_MO_readPlain 24 = .ok (.ireturn, 1) := by decide +kernel
theorem d_MO_readPlain_25 : decode b_MO_readPlain 25 = .ok (.aload_n 0, 1) := by decide +kernel
theorem d_MO_readPlain_26 : decode b_MO_readPlain 26 = .ok (.getfield 20, 3) := by decide +kernel
theorem d_MO_readPlain_29 : decode b_MO_readPlain 29 = .ok (.iload_n 1, 1) := by decide +kernel
theorem d_MO_readPlain_30 : decode b_MO_readPlain 30 = .ok (.aload_n 0, 1) := by decide +kernel
theorem d_MO_readPlain_31 : decode b_MO_readPlain 31 = .ok (.getfield 26, 3) := by decide +kernel
theorem d_MO_readPlain_34 : decode b_MO_readPlain 34 = .ok (.iconst 1, 1) := by decide +kernel
theorem d_MO_readPlain_35 : decode b_MO_readPlain 35 = .ok (.iload_n 1, 1) := by decide +kernel
theorem d_MO_readPlain_36 : decode b_MO_readPlain 36 = .ok (.iadd, 1) := by decide +kernel
theorem d_MO_readPlain_37 : decode b_MO_readPlain 37 = .ok (.iaload, 1) := by decide +kernel
theorem d_MO_readPlain_38 : decode b_MO_readPlain 38 = .ok (.iastore, 1) := by decide +kernel
theorem d_MO_readPlain_39 : decode b_MO_readPlain 39 = .ok (.iinc 1 1, 3) := by decide +kernel
theorem d_MO_readPlain_42 : decode b_MO_readPlain 42 = .ok (.goto (-40), 3) := by decide +kernel
theorem d_MO_readPlain_45 : decode b_MO_readPlain 45 = .ok (.aload_n 0, 1) := by decide +kernel
theorem d_MO_readPlain_46 : decode b_MO_readPlain 46 = .ok (.getfield 102, 3) := by decide +kernel
theorem d_MO_readPlain_49 : decode b_MO_readPlain 49 = .ok (.iconst 1, 1) := by decide +kernel
theorem d_MO_readPlain_50 : decode b_MO_readPlain 50 = .ok (.aload_n 0, 1) := by decide +kernel
theorem d_MO_readPlain_51 : decode b_MO_readPlain 51 = .ok (.invokevirtual 50, 3) := by decide +kernel
theorem d_MO_readPlain_54 : decode b_MO_readPlain 54 = .ok (.iadd, 1) := by decide +kernel
theorem d_MO_readPlain_55 : decode b_MO_readPlain 55 = .ok (.if_icmp .le 12, 3) := by decide +kernel
theorem d_MO_readPlain_58 : decode b_MO_readPlain 58 = .ok (.iconst 1, 1) := by decide +kernel
theorem d_MO_readPlain_59 : decode b_MO_readPlain 59 = .ok (.aload_n 0, 1) := by decide +kernel
theorem d_MO_readPlain_60 : decode b_MO_readPlain 60 = .ok (.invokevirtual 50, 3) := by decide +kernel
theorem d_MO_readPlain_63 : decode b_MO_readPlain 63 = .ok (.iadd, 1) := by decide +kernel
theorem d_MO_readPlain_64 : decode b_MO_readPlain 64 = .ok (.goto 4, 3) := by decide +kernel
theorem d_MO_readPlain_67 : decode b_MO_readPlain 67 = .ok (.iconst (-1), 1) := by decide +kernel
theorem d_MO_readPlain_68 : decode b_MO_readPlain 68 = .ok (.ireturn, 1) := by decide +kernel
theorem d_MO_readPart_0 : decode b_MO_readPart 0 = .ok (.aload_n 0, 1) := by decide +kernel
theorem d_MO_readPart_1 : decode b_MO_readPart 1 = .ok (.getfield 26, 3) := by decide +kernel
theorem d_MO_readPart_4 : decode b_MO_readPart 4 = .ok (.aload_n 0, 1) := by decide +kernel
theorem d_MO_readPart_5 : decode b_MO_readPart 5 = .ok (.getfield 105, 3) := by decide +kernel
theorem d_MO_readPart_8 : decode b_MO_readPart 8 = .ok (.iaload, 1) := by decide +kernel
theorem d_MO_readPart_9 : decode b_MO_readPart 9 = .ok (.istore_n 1, 1) := by decide +kernel
theorem d_MO_readPart_10 : decode b_MO_readPart 10 = .ok (.iload_n 1, 1) := by decide +kernel
theorem d_MO_readPart_11 : decode b_MO_readPart 11 = .ok (.iconst 1, 1) := by decide +kernel
theorem d_MO_readPart_12 : decode b_MO_readPart 12 = .ok (.iconst 3, 1) := by decide +kernel
theorem d_MO_readPart_13 : decode b_MO_readPart 13 = .ok (.invokestatic 42, 3) := by decide +kernel
theorem d_MO_readPart_16 : decode b_MO_readPart 16 = .ok (.ifCond .eq 26, 3) := by decide +kernel
theorem d_MO_readPart_19 : decode b_MO_readPart 19 = .ok (.aload_n 0, 1) := by decide +kernel
theorem d_MO_readPart_20 : decode b_MO_readPart 20 = .ok (.getfield 105, 3) := by decide +kernel
theorem d_MO_readPart_23 : decode b_MO_readPart 23 = .ok (.iload_n 1, 1) := by decide +kernel
theorem d_MO_readPart_24 : decode b_MO_readPart 24 = .ok (.iconst 3, 1) := by decide +kernel
theorem d_MO_readPart_25 : decode b_MO_readPart 25 = .ok (.if_icmp .ne 7, 3) := by decide +kernel
theorem d_MO_readPart_28 : decode b_MO_readPart 28 = .ok (.iconst 5, 1) := by decide +kernel
theorem d_MO_readPart_29 : decode b_MO_readPart 29 = .ok (.goto 5, 3) := by decide +kernel
theorem d_MO_readPart_32 : decode b_MO_readPart 32 = .ok (.bipush 6, 2) := by decide +kernel
theorem d_MO_readPart_34 : decode b_MO_readPart 34 = .ok (.iadd, 1) := by decide +kernel
theorem d_MO_readPart_35 : decode b_MO_readPart 35 = .ok (.aload_n 0, 1) := by decide +kernel
theorem d_MO_readPart_36 : decode b_MO_readPart 36 = .ok (.getfield 102, 3) := by decide +kernel
theorem d_MO_readPart_39 : decode b_MO_readPart 39 = .ok (.if_icmp .le 5, 3) := by decide +kernel
theorem d_MO_readPart_42 : decode b_MO_readPart 42 = .ok (.iconst 0, 1) := by decide +kernel
theorem d_MO_readPart_43 : decode b_MO_readPart 43 = .ok (.ireturn, 1) := by decide +kernel
theorem d_MO_readPart_44 : decode b_MO_readPart 44 = .ok (.aload_n 0, 1) := by decide +kernel
theorem d_MO_readPart_45 : decode b_MO_readPart 45 = .ok (.getfield 26, 3) := by decide +kernel
theorem d_MO_readPart_48 : decode b_MO_readPart 48 = .ok (.aload_n 0, 1) := by decide +kernel
theorem d_MO_readPart_49 : decode b_MO_readPart 49 = .ok (.getfield 105, 3) := by decide +kernel
theorem d_MO_readPart_52 : decode b_MO_readPart 52 = .ok (.iconst 1, 1) := by decide +kernel
theorem d_MO_readPart_53 : decode b_MO_readPart 53 = .ok (.iadd, 1) := by decide +kernel
theorem d_MO_readPart_54 : decode b_MO_readPart 54 = .ok (.iaload, 1) := by decide +kernel
theorem d_MO_readPart_55 : decode b_MO_readPart 55 = .ok (.istore_n 2, 1) := by decide +kernel
theorem d_MO_readPart_56 : decode b_MO_readPart 56 = .ok (.aload_n 0, 1) := by decide +kernel
theorem d_MO_readPart_57 : decode b_MO_readPart 57 = .ok (.getfield 26, 3) := by decide +kernel
theorem d_MO_readPart_60 : decode b_MO_readPart 60 = .ok (.aload_n 0, 1) := by decide +kernel
theorem d_MO_readPart_61 : decode b_MO_readPart 61 = .ok (.getfield 105, 3) := by decide +kernel
theorem d_MO_readPart_64 : decode b_MO_readPart 64 = .ok (.iconst 2, 1) := by decide +kernel
theorem d_MO_readPart_65 : decode b_MO_readPart 65 = .ok (.iadd, 1) := by decide +kernel
theorem d_MO_readPart_66 : decode b_MO_readPart 66 = .ok (.iaload, 1) := by decide +kernel
theorem d_MO_readPart_67 : decode b_MO_readPart 67 = .ok (.istore_n 3, 1) := by decide +kernel
theorem d_MO_readPart_68 : decode b_MO_readPart 68 = .ok (.aload_n 0, 1) := by decide +kernel
theorem d_MO_readPart_69 : decode b_MO_readPart 69 = .ok (.getfield 26, 3) := by decide +kernel
theorem d_MO_readPart_72 : decode b_MO_readPart 72 = .ok (.aload_n 0, 1) := by decide +kernel
theorem d_MO_readPart_73 : decode b_MO_readPart 73 = .ok (.getfield 105, 3) := by decide +kernel
theorem d_MO_readPart_76 : decode b_MO_readPart 76 = .ok (.iconst 3, 1) := by decide +kernel
theorem d_MO_readPart_77 : decode b_MO_readPart 77 = .ok (.iadd, 1) := by decide +kernel
theorem d_MO_readPart_78 : decode b_MO_readPart 78 = .ok (.iaload, 1) := by decide +kernel
theorem d_MO_readPart_79 : decode b_MO_readPart 79 = .ok (.istore 4, 2) := by decide +kernel
theorem d_MO_readPart_81 : decode b_MO_readPart 81 = .ok (.aload_n 0, 1) := by decide +kernel
theorem d_MO_readPart_82 : decode b_MO_readPart 82 = .ok (.getfield 26, 3) := by decide +kernel
theorem d_MO_readPart_85 : decode b_MO_readPart 85 = .ok (.aload_n 0, 1) := by decide +kernel
theorem d_MO_readPart_86 : decode b_MO_readPart 86 = .ok (.getfield 105, 3) := by decide +kernel
theorem d_MO_readPart_89 : decode b_MO_readPart 89 = .ok (.iconst 4, 1) := by decide +kernel
theorem d_MO_readPart_90 : decode b_MO_readPart 90 = .ok (.iadd, 1) := by decide +kernel
theorem d_MO_readPart_91 : decode b_MO_readPart 91 = .ok (.iaload, 1) := by decide +kernel
theorem d_MO_readPart_92 : decode b_MO_readPart 92 = .ok (.istore 5, 2) := by decide +kernel
theorem d_MO_readPart_94 : decode b_MO_readPart 94 = .ok (.iload_n 1, 1) := by decide +kernel
theorem d_MO_readPart_95 : decode b_MO_readPart 95 = .ok (.iconst 3, 1) := by decide +kernel
theorem d_MO_readPart_96 : decode b_MO_readPart 96 = .ok (.if_icmp .ne 7, 3) := by decide +kernel
theorem d_MO_readPart_99 : decode b_MO_readPart 99 = .ok (.iconst 0, 1) := by decide +kernel
theorem d_MO_readPart_100 : decode b_MO_readPart 100 = .ok (.goto 14, 3) := by decide +kernel
theorem d_MO_readPart_103 : decode b_MO_readPart 103 = .ok (.aload_n 0, 1) := by decide +kernel
theorem d_MO_readPart_104 : decode b_MO_readPart 104 = .ok (.getfield 26, 3) := by decide +kernel
theorem d_MO_readPart_107 : decode b_MO_readPart 107 = .ok (.aload_n 0, 1) := by decide +kernel
theorem d_MO_readPart_108 : decode b_MO_readPart 108 = .ok (.getfield 105, 3) := by decide +kernel
theorem d_MO_readPart_111 : decode b_MO_readPart 111 = .ok (.iconst 5, 1) := by decide +kernel
theorem d_MO_readPart_112 : decode b_MO_readPart 112 = .ok (.iadd, 1) := by decide +kernel
theorem d_MO_readPart_113 : decode b_MO_readPart 113 = .ok (.iaload, 1) := by decide +kernel
theorem d_MO_readPart_114 : decode b_MO_readPart 114 = .ok (.istore 6, 2) := by decide +kernel
theorem d_MO_readPart_116 : decode b_MO_readPart 116 = .ok (.iload_n 1, 1) := by decide +kernel
theorem d_MO_readPart_117 : decode b_MO_readPart 117 = .ok (.iconst 1, 1) := by decide +kernel
theorem d_MO_readPart_118 : decode b_MO_readPart 118 = .ok (.if_icmp .ne 8, 3) := by decide +kernel
theorem d_MO_readPart_121 : decode b_MO_readPart 121 = .ok (.iload 5, 2) := by decide +kernel
theorem d_MO_readPart_123 : decode b_MO_readPart 123 = .ok (.goto 4, 3) := by decide +kernel
theorem d_MO_readPart_126 : decode b_MO_readPart 126 = .ok (.iconst 1, 1) := by decide +kernel
theorem d_MO_readPart_127 : decode b_MO_readPart 127 = .ok (.istore 7, 2) := by decide +kernel
theorem d_MO_readPart_129 : decode b_MO_readPart 129 = .ok (.aload_n 0, 1) := by decide +kernel
theorem d_MO_readPart_130 : decode b_MO_readPart 130 = .ok (.iload_n 2, 1) := by decide +kernel
theorem d_MO_readPart_131 : decode b_MO_readPart 131 = .ok (.iload_n 3, 1) := by decide +kernel
theorem d_MO_readPart_132 : decode b_MO_readPart 132 = .ok (.invokevirtual 46, 3) := by decide +kernel
theorem d_MO_readPart_135 : decode b_MO_readPart 135 = .ok (.ifCond .eq 37, 3) := by decide +kernel
theorem d_MO_readPart_138 : decode b_MO_readPart 138 = .ok (.iload 4, 2) := by decide +kernel
theorem d_MO_readPart_140 : decode b_MO_readPart 140 = .ok (.iconst 1, 1) := by decide +kernel
theorem d_MO_readPart_141 : decode b_MO_readPart 141 = .ok (.if_icmp .lt 31, 3) := by decide +kernel
theorem d_MO_readPart_144 : decode b_MO_readPart 144 = .ok (.iload 7, 2) := by decide +kernel
theorem d_MO_readPart_146 : decode b_MO_readPart 146 = .ok (.iconst 1, 1) := by decide +kernel
theorem d_MO_readPart_147 : decode b_MO_readPart 147 = .ok (.if_icmp .lt 25, 3) := by decide +kernel
theorem d_MO_readPart_150 : decode b_MO_readPart 150 = .ok (.iload_n 2, 1) := by decide +kernel
theorem d_MO_readPart_151 : decode b_MO_readPart 151 = .ok (.iload 4, 2) := by decide +kernel
theorem d_MO_readPart_153 : decode b_MO_readPart 153 = .ok (.iadd, 1) := by decide +kernel
theorem d_MO_readPart_154 : decode b_MO_readPart 154 = .ok (.aload_n 0, 1) := by decide +kernel
theorem d_MO_readPart_155 : decode b_MO_readPart 155 = .ok (.getfield 32, 3) := by decide +kernel
theorem d_MO_readPart_158 : decode b_MO_readPart 158 = .ok (.if_icmp .gt 14, 3) := by decide +kernel
theorem d_MO_readPart_161 : decode b_MO_readPart 161 = .ok (.iload_n 3, 1) := by decide +kernel
theorem d_MO_readPart_162 : decode b_MO_readPart 162 = .ok (.iload 7, 2) := by decide +kernel
theorem d_MO_readPart_164 : decode b_MO_readPart 164 = .ok (.iadd, 1) := by decide +kernel
theorem d_MO_readPart_165 : decode b_MO_readPart 165 = .ok (.aload_n 0, 1) := by decide +kernel
theorem d_MO_readPart_166 : decode b_MO_readPart 166 = .ok (.getfield 36, 3) := by decide +kernel
theorem d_MO_readPart_169 : decode b_MO_readPart 169 = .ok (.if_icmp .le 5, 3) := by decide +kernel
theorem d_MO_readPart_172 : decode b_MO_readPart 172 = .ok (.iconst 0, 1) := by decide +kernel
theorem d_MO_readPart_173 : decode b_MO_readPart 173 = .ok (.ireturn, 1) := by decide +kernel
theorem d_MO_readPart_174 : decode b_MO_readPart 174 = .ok (.iload_n 1, 1) := by decide +kernel
theorem d_MO_readPart_175 : decode b_MO_readPart 175 = .ok (.iconst 2, 1) := by decide +kernel
theorem d_MO_readPart_176 : decode b_MO_readPart 176 = .ok (.if_icmp .ne 56, 3) := by decide +kernel
theorem d_MO_readPart_179 : decode b_MO_readPart 179 = .ok (.iload 5, 2) := by decide +kernel
theorem d_MO_readPart_181 : decode b_MO_readPart 181 = .ok (.bipush 8, 2) := by decide +kernel
theorem d_MO_readPart_183 : decode b_MO_readPart 183 = .ok (.if_icmp .gt 47, 3) := by decide +kernel
theorem d_MO_readPart_186 : decode b_MO_readPart 186 = .ok (.iload 6, 2) := by decide +kernel
theorem d_MO_readPart_188 : decode b_MO_readPart 188 = .ok (.iconst 1, 1) := by decide +kernel
theorem d_MO_readPart_189 : decode b_MO_readPart 189 = .ok (.if_icmp .lt 41, 3) := by decide +kernel
theorem d_MO_readPart_192 : decode b_MO_readPart 192 = .ok (.iload 6, 2) := by decide +kernel
theorem d_MO_readPart_194 : decode b_MO_readPart 194 = .ok (.iconst 4, 1) := by decide +kernel
theorem d_MO_readPart_195 : decode b_MO_readPart 195 = .ok (.if_icmp .gt 35, 3) := by decide +kernel
theorem d_MO_readPart_198 : decode b_MO_readPart 198 = .ok (.iload_n 3, 1) := by decide +kernel
theorem d_MO_readPart_199 : decode b_MO_readPart 199 = .ok (.iload 6, 2) := by decide +kernel
theorem d_MO_readPart_201 : decode b_MO_readPart 201 = .ok (.isub, 1) := by decide +kernel
theorem d_MO_readPart_202 : decode b_MO_readPart 202 = .ok (.ifCond .lt 28, 3) := by decide +kernel
theorem d_MO_readPart_205 : decode b_MO_readPart 205 = .ok (.iload_n 2, 1) := by decide +kernel
theorem d_MO_readPart_206 : decode b_MO_readPart 206 = .ok (.iload 5, 2) := by decide +kernel
theorem d_MO_readPart_208 : decode b_MO_readPart 208 = .ok (.iadd, 1) := by decide +kernel
theorem d_MO_readPart_209 : decode b_MO_readPart 209 = .ok (.iconst 4, 1) := by decide +kernel
theorem d_MO_readPart_210 : decode b_MO_readPart 210 = .ok (.isub, 1) := by decide +kernel
theorem d_MO_readPart_211 : decode b_MO_readPart 211 = .ok (.ifCond .lt 19, 3) := by decide +kernel
theorem d_MO_readPart_214 : decode b_MO_readPart 214 = .ok (.iload_n 2, 1) := by decide +kernel
theorem d_MO_readPart_215 : decode b_MO_readPart 215 = .ok (.iload 4, 2) := by decide +kernel
theorem d_MO_readPart_217 : decode b_MO_readPart 217 = .ok (.iadd, 1) := by decide +kernel
theorem d_MO_readPart_218 : decode b_MO_readPart 218 = .ok (.iload 5, 2) := by decide +kernel
theorem d_MO_readPart_220 : decode b_MO_readPart 220 = .ok (.iadd, 1) := by decide +kernel
theorem d_MO_readPart_221 : decode b_MO_readPart 221 = .ok (.iconst 4, 1) := by decide +kernel
theorem d_MO_readPart_222 : decode b_MO_readPart 222 = .ok (.isub, 1) := by decide +kernel
theorem d_MO_readPart_223 : decode b_MO_readPart 223 = .ok (.aload_n 0, 1) := by decide +kernel
theorem d_MO_readPart_224 : decode b_MO_readPart 224 = .ok (.getfield 32, 3) := by decide +kernel
theorem d_MO_readPart_227 : decode b_MO_readPart 227 = .ok (.if_icmp .le 5, 3) := by decide +kernel
theorem d_MO_readPart_230 : decode b_MO_readPart 230 = .ok (.iconst 0, 1) := by decide +kernel
theorem d_MO_readPart_231 : decode b_MO_readPart 231 = .ok (.ireturn, 1) := by decide +kernel
theorem d_MO_readPart_232 : decode b_MO_readPart 232 = .ok (.iload_n 3, 1) := by decide +kernel
theorem d_MO_readPart_233 : decode b_MO_readPart 233 = .ok (.istore 8, 2) := by decide +kernel
theorem d_MO_readPart_235 : decode b_MO_readPart 235 = .ok (.iload 8, 2) := by decide +kernel
theorem d_MO_readPart_237 : decode b_MO_readPart 237 = .ok (.iload_n 3, 1) := by decide +kernel
theorem d_MO_readPart_238 : decode b_MO_readPart 238 = .ok (.iload 7, 2) := by decide +kernel
theorem d_MO_readPart_240 : decode b_MO_readPart 240 = .ok (.iadd, 1) := by decide +kernel
theorem d_MO_readPart_241 : decode b_MO_readPart 241 = .ok (.if_icmp .ge 85, 3) := by decide +kernel
theorem d_MO_readPart_244 : decode b_MO_readPart 244 = .ok (.iload_n 2, 1) := by decide +kernel
theorem d_MO_readPart_245 : decode b_MO_readPart 245 = .ok (.istore 9, 2) := by decide +kernel
theorem d_MO_readPart_247 : decode b_MO_readPart 247 = .ok (.iload 9, 2) := by decide +kernel
theorem d_MO_readPart_249 : decode b_MO_readPart 249 = .ok (.iload_n 2, 1) := by decide +kernel
theorem d_MO_readPart_250 : decode b_MO_readPart 250 = .ok (.iload 4, 2) := by decide +kernel
theorem d_MO_readPart_252 : decode b_MO_readPart 252 = .ok (.iadd, 1) := by decide +kernel
theorem d_MO_readPart_253 : decode b_MO_readPart 253 = .ok (.if_icmp .ge 67, 3) := by decide +kernel
theorem d_MO_readPart_256 : decode b_MO_readPart 256 = .ok (.aload_n 0, 1) := by decide +kernel
theorem d_MO_readPart_257 : decode b_MO_readPart 257 = .ok (.getfield 20, 3) := by decide +kernel
theorem d_MO_readPart_260 : decode b_MO_readPart 260 = .ok (.aload_n 0, 1) := by decide +kernel
theorem d_MO_readPart_261 : decode b_MO_readPart 261 = .ok (.getfield 32, 3) := by decide +kernel
theorem d_MO_readPart_264 : decode b_MO_readPart 264 = .ok (.iload 8, 2) := by decide +kernel
theorem d_MO_readPart_266 : decode b_MO_readPart 266 = .ok (.imul, 1) := by decide +kernel
theorem d_MO_readPart_267 : decode b_MO_readPart 267 = .ok (.iload 9, 2) := by decide +kernel
theorem d_MO_readPart_269 : decode b_MO_readPart 269 = .ok (.iadd, 1) := by decide +kernel
theorem d_MO_readPart_270 : decode b_MO_readPart 270 = .ok (.iload_n 1, 1) := by decide +kernel
theorem d_MO_readPart_271 : decode b_MO_readPart 271 = .ok (.iconst 1, 1) := by decide +kernel
theorem d_MO_readPart_272 : decode b_MO_readPart 272 = .ok (.if_icmp .ne 8, 3) := by decide +kernel
theorem d_MO_readPart_275 : decode b_MO_readPart 275 = .ok (.iload 6, 2) := by decide +kernel
theorem d_MO_readPart_277 : decode b_MO_readPart 277 = .ok (.goto 36, 3) := by decide +kernel
theorem d_MO_readPart_280 : decode b_MO_readPart 280 = .ok (.iload_n 1, 1) := by decide +kernel
theorem d_MO_readPart_281 : decode b_MO_readPart 281 = .ok (.iconst 3, 1) := by decide +kernel
theorem d_MO_readPart_282 : decode b_MO_readPart 282 = .ok (.if_icmp .ne 8, 3) := by decide +kernel
theorem d_MO_readPart_285 : decode b_MO_readPart 285 = .ok (.iload 5, 2) := by decide +kernel
theorem d_MO_readPart_287 : decode b_MO_readPart 287 = .ok (.goto 26, 3) := by decide +kernel
theorem d_MO_readPart_290 : decode b_MO_readPart 290 = .ok (.aload_n 0, 1) := by decide +kernel
theorem d_MO_readPart_291 : decode b_MO_readPart 291 = .ok (.getfield 20, 3) := by decide +kernel
theorem d_MO_readPart_294 : decode b_MO_readPart 294 = .ok (.aload_n 0, 1) := by decide +kernel
theorem d_MO_readPart_295 : decode b_MO_readPart 295 = .ok (.getfield 32, 3) := by decide +kernel
theorem d_MO_readPart_298 : decode b_MO_readPart 298 = .ok (.iload 8, 2) := by decide +kernel
theorem d_MO_readPart_300 : decode b_MO_readPart 300 = .ok (.iload 6, 2) := by decide +kernel
theorem d_MO_readPart_302 : decode b_MO_readPart 302 = .ok (.isub, 1) := by decide +kernel
theorem d_MO_readPart_303 : decode b_MO_readPart 303 = .ok (.imul, 1) := by decide +kernel
theorem d_MO_readPart_304 : decode b_MO_readPart 304 = .ok (.iload 9, 2) := by decide +kernel
theorem d_MO_readPart_306 : decode b_MO_readPart 306 = .ok (.iadd, 1) := by decide +kernel
theorem d_MO_readPart_307 : decode b_MO_readPart 307 = .ok (.iload 5, 2) := by decide +kernel
theorem d_MO_readPart_309 : decode b_MO_readPart 309 = .ok (.iadd, 1) := by decide +kernel
theorem d_MO_readPart_310 : decode b_MO_readPart 310 = .ok (.iconst 4, 1) := by decide +kernel
theorem d_MO_readPart_311 : decode b_MO_readPart 311 = .ok (.isub, 1) := by decide +kernel
theorem d_MO_readPart_312 : decode b_MO_readPart 312 = .ok (.iaload, 1) := by decide +kernel
theorem d_MO_readPart_313 : decode b_MO_readPart 313 = .ok (.iastore, 1) := by decide +kernel
theorem d_MO_readPart_314 : decode b_MO_readPart 314 = .ok (.iinc 9 1, 3) := by decide +kernel
theorem d_MO_readPart_317 : decode b_MO_readPart 317 = .ok (.goto (-70), 3) := by decide +kernel
theorem d_MO_readPart_320 : decode b_MO_readPart 320 = .ok (.iinc 8 1, 3) := by decide +kernel
theorem d_MO_readPart_323 : decode b_MO_readPart 323 = .ok (.goto (-88), 3) := by decide +kernel
theorem d_MO_readPart_326 : decode b_MO_readPart 326 = .ok (.aload_n 0, 1) := by decide +kernel
theorem d_MO_readPart_327 : decode b_MO_readPart 327 = .ok (.dup, 1) := by decide +kernel
theorem d_MO_readPart_328 : decode b_MO_readPart 328 = .ok (.getfield 105, 3) := by decide +kernel
theorem d_MO_readPart_331 : decode b_MO_readPart 331 = .ok (.iload_n 1, 1) := by decide +kernel
theorem d_MO_readPart_332 : decode b_MO_readPart 332 = .ok (.iconst 3, 1) := by decide +kernel
theorem d_MO_readPart_333 : decode b_MO_readPart 333 = .ok (.if_icmp .ne 7, 3) := by decide +kernel
theorem d_MO_readPart_336 : decode b_MO_readPart 336 = .ok (.iconst 5, 1) := by decide +kernel
theorem d_MO_readPart_337 : decode b_MO_readPart 337 = .ok (.goto 5, 3) := by decide +kernel
theorem d_MO_readPart_340 : decode b_MO_readPart 340 = .ok (.bipush 6, 2) := by decide +kernel
theorem d_MO_readPart_342 : decode b_MO_readPart 342 = .ok (.iadd, 1) := by decide +kernel
theorem d_MO_readPart_343 : decode b_MO_readPart 343 = .ok (.putfield 105, 3) := by decide +kernel
theorem d_MO_readPart_346 : decode b_MO_readPart 346 = .ok (.iconst 1, 1) := by decide +kernel
theorem d_MO_readPart_347 : decode b_MO_readPart 347 = .ok (.ireturn, 1) := by decide +kernel
theorem d_MO_readParts_0 : decode b_MO_readParts 0 = .ok (.aload_n 0, 1) := by decide +kernel
theorem d_MO_readParts_1 : decode b_MO_readParts 1 = .ok (.getfield 102, 3) := by decide +kernel
theorem d_MO_readParts_4 : decode b_MO_readParts 4 = .ok (.iconst 2, 1) := by decide +kernel
theorem d_MO_readParts_5 : decode b_MO_readParts 5 = .ok (.if_icmp .ge 5, 3) := by decide +kernel
theorem d_MO_readParts_8 : decode b_MO_readParts 8 = .ok (.iconst 1, 1) := by decide +kernel
theorem d_MO_readParts_9 : decode b_MO_readParts 9 = .ok (.ireturn, 1) := by decide +kernel
theorem d_MO_readParts_10 : decode b_MO_readParts 10 = .ok (.iconst 0, 1) := by decide +kernel
theorem d_MO_readParts_11 : decode b_MO_readParts 11 = .ok (.istore_n 1, 1) := by decide +kernel
theorem d_MO_readParts_12 : decode b_MO_readParts 12 = .ok (.iload_n 1, 1) := by decide +kernel
theorem d_MO_readParts_13 : decode b_MO_readParts 13 = .ok (.aload_n 0, 1) := by decide +kernel
theorem d_MO_readParts_14 : decode b_MO_readParts 14 = .ok (.invokevirtual 50, 3) := by decide +kernel
theorem d_MO_readParts_17 : decode b_MO_readParts 17 = .ok (.if_icmp .ge 21, 3) := by decide +kernel
theorem d_MO_readParts_20 : decode b_MO_readParts 20 = .ok (.aload_n 0, 1) := by decide +kernel
theorem d_MO_readParts_21 : decode b_MO_readParts 21 = .ok (.getfield 20, 3) := by decide +kernel
theorem d_MO_readParts_24 : decode b_MO_readParts 24 = .ok (.iload_n 1, 1) := by decide +kernel
theorem d_MO_readParts_25 : decode b_MO_readParts 25 = .ok (.aload_n 0, 1) := by decide +kernel
theorem d_MO_readParts_26 : decode b_MO_readParts 26 = .ok (.getfield 26, 3) := by decide +kernel
theorem d_MO_readParts_29 : decode b_MO_readParts 29 = .ok (.iconst 1, 1) := by decide +kernel
theorem d_MO_readParts_30 : decode b_MO_readParts 30 = .ok (.iaload, 1) := by decide +kernel
theorem d_MO_readParts_31 : decode b_MO_readParts 31 = .ok (.iastore, 1) := by decide +kernel
theorem d_MO_readParts_32 : decode b_MO_readParts 32 = .ok (.iinc 1 1, 3) := by decide +kernel
theorem d_MO_readParts_35 : decode b_MO_readParts 35 = .ok (.goto (-23), 3) := by decide +kernel
theorem d_MO_readParts_38 : decode b_MO_readParts 38 = .ok (.aload_n 0, 1) := by decide +kernel
theorem d_MO_readParts_39 : decode b_MO_readParts 39 = .ok (.iconst 2, 1) := by decide +kernel
theorem d_MO_readParts_40 : decode b_MO_readParts 40 = .ok (.putfield 105, 3) := by decide +kernel
theorem d_MO_readParts_43 : decode b_MO_readParts 43 = .ok (.aload_n 0, 1) := by decide +kernel
theorem d_MO_readParts_44 : decode b_MO_readParts 44 = .ok (.iconst 0, 1) := by decide +kernel
theorem d_MO_readParts_45 : decode b_MO_readParts 45 = .ok (.putfield 57, 3) := by decide +kernel
theorem d_MO_readParts_48 : decode b_MO_readParts 48 = .ok (.aload_n 0, 1) := by decide +kernel
theorem d_MO_readParts_49 : decode b_MO_readParts 49 = .ok (.getfield 105, 3) := by decide +kernel
theorem d_MO_readParts_52 : decode b_MO_readParts 52 = .ok (.aload_n 0, 1) := by decide +kernel
theorem d_MO_readParts_53 : decode b_MO_readParts 53 = .ok (.getfield 102, 3) := by decide +kernel
theorem d_MO_readParts_56 : decode b_MO_readParts 56 = .ok (.if_icmp .ge 40, 3) := by decide +kernel
theorem d_MO_readParts_59 : decode b_MO_readParts 59 = .ok (.aload_n 0, 1) := by decide +kernel
theorem d_MO_readParts_60 : decode b_MO_readParts 60 = .ok (.getfield 26, 3) := by decide +kernel
theorem d_MO_readParts_63 : decode b_MO_readParts 63 = .ok (.aload_n 0, 1) := by decide +kernel
theorem d_MO_readParts_64 : decode b_MO_readParts 64 = .ok (.getfield 105, 3) := by decide +kernel
theorem d_MO_readParts_67 : decode b_MO_readParts 67 = .ok (.iaload, 1) := by decide +kernel
theorem d_MO_readParts_68 : decode b_MO_readParts 68 = .ok (.ifCond .eq 28, 3) := by decide +kernel
theorem d_MO_readParts_71 : decode b_MO_readParts 71 = .ok (.aload_n 0, 1) := by decide +kernel
theorem d_MO_readParts_72 : decode b_MO_readParts 72 = .ok (.invokevirtual 108, 3) := by decide +kernel
theorem d_MO_readParts_75 : decode b_MO_readParts 75 = .ok (.ifCond .ne 8, 3) := by decide +kernel
theorem d_MO_readParts_78 : decode b_MO_readParts 78 = .ok (.aload_n 0, 1) := by decide +kernel
theorem d_MO_readParts_79 : decode b_MO_readParts 79 = .ok (.getfield 105, 3) := by decide +kernel
theorem d_MO_readParts_82 : decode b_MO_readParts 82 = .ok (.ireturn, 1) := by decide +kernel
theorem d_MO_readParts_83 : decode b_MO_readParts 83 = .ok (.aload_n 0, 1) := by decide +kernel
theorem d_MO_readParts_84 : decode b_MO_readParts 84 = .ok (.dup, 1) := by decide +kernel
theorem d_MO_readParts_85 : decode b_MO_readParts 85 = .ok (.getfield 57, 3) := by decide +kernel
theorem d_MO_readParts_88 : decode b_MO_readParts 88 = .ok (.iconst 1, 1) := by decide +kernel
theorem d_MO_readParts_89 : decode b_MO_readParts 89 = .ok (.iadd, 1) := by decide +kernel
theorem d_MO_readParts_90 : decode b_MO_readParts 90 = .ok (.putfield 57, 3) := by decide +kernel
theorem d_MO_readParts_93 : decode b_MO_readParts 93 = .ok (.goto (-45), 3) := by decide +kernel
theorem d_MO_readParts_96 : decode b_MO_readParts 96 = .ok (.aload_n 0, 1) := by decide +kernel
theorem d_MO_readParts_97 : decode b_MO_readParts 97 = .ok (.getfield 105, 3) := by decide +kernel
theorem d_MO_readParts_100 : decode b_MO_readParts 100 = .ok (.aload_n 0, 1) := by decide +kernel
theorem d_MO_readParts_101 : decode b_MO_readParts 101 = .ok (.getfield 102, 3) := by decide +kernel
theorem d_MO_readParts_104 : decode b_MO_readParts 104 = .ok (.if_icmp .lt 10, 3) := by decide +kernel
theorem d_MO_readParts_107 : decode b_MO_readParts 107 = .ok (.aload_n 0, 1) := by decide +kernel
theorem d_MO_readParts_108 : decode b_MO_readParts 108 = .ok (.getfield 102, 3) := by decide +kernel
theorem d_MO_readParts_111 : decode b_MO_readParts 111 = .ok (.goto 26, 3) := by decide +kernel
theorem d_MO_readParts_114 : decode b_MO_readParts 114 = .ok (.aload_n 0, 1) := by decide +kernel
theorem d_MO_readParts_115 : decode b_MO_readParts 115 = .ok (.getfield 105, 3) := by decide +kernel
theorem d_MO_readParts_118 : decode b_MO_readParts 118 = .ok (.iconst 1, 1) := by decide +kernel
theorem d_MO_readParts_119 : decode b_MO_readParts 119 = .ok (.iadd, 1) := by decide +kernel
theorem d_MO_readParts_120 : decode b_MO_readParts 120 = .ok (.aload_n 0, 1) := by decide +kernel
theorem d_MO_readParts_121 : decode b_MO_readParts 121 = .ok (.getfield 102, 3) := by decide +kernel
theorem d_MO_readParts_124 : decode b_MO_readParts 124 = .ok (.if_icmp .ge 12, 3) := by decide +kernel
theorem d_MO_readParts_127 : decode b_MO_readParts 127 = .ok (.aload_n 0, 1) := by decide +kernel
theorem d_MO_readParts_128 : decode b_MO_readParts 128 = .ok (.getfield 105, 3) := by decide +kernel
theorem d_MO_readParts_131 : decode b_MO_readParts 131 = .ok (.iconst 1, 1) := by decide +kernel
theorem d_MO_readParts_132 : decode b_MO_readParts 132 = .ok (.iadd, 1) := by decide +kernel
theorem d_MO_readParts_133 : decode b_MO_readParts 133 = .ok (.goto 4, 3) := by decide +kernel
theorem d_MO_readParts_136 : decode b_MO_readParts 136 = .ok (.iconst (-1), 1) := by decide +kernel
theorem d_MO_readParts_137 : decode b_MO_readParts 137 = .ok (.ireturn, 1) := by decide +kernel
theorem d_MO_decode_0 : decode b_MO_decode 0 = .ok (.aload_n 0, 1) := by decide +kernel
theorem d_MO_decode_1 : decode b_MO_decode 1 = .ok (.iconst 0, 1) := by decide +kernel
theorem d_MO_decode_2 : decode b_MO_decode 2 = .ok (.putfield 39, 3) := by decide +kernel
theorem d_MO_decode_5 : decode b_MO_decode 5 = .ok (.aload_n 0, 1) := by decide +kernel
theorem d_MO_decode_6 : decode b_MO_decode 6 = .ok (.iconst 0, 1) := by decide +kernel
theorem d_MO_decode_7 : decode b_MO_decode 7 = .ok (.putfield 57, 3) := by decide +kernel
theorem d_MO_decode_10 : decode b_MO_decode 10 = .ok (.aload_n 0, 1) := by decide +kernel
theorem d_MO_decode_11 : decode b_MO_decode 11 = .ok (.getfield 102, 3) := by decide +kernel
theorem d_MO_decode_14 : decode b_MO_decode 14 = .ok (.ifCond .eq 13, 3) := by decide +kernel
theorem d_MO_decode_17 : decode b_MO_decode 17 = .ok (.aload_n 0, 1) := by decide +kernel
theorem d_MO_decode_18 : decode b_MO_decode 18 = .ok (.getfield 26, 3) := by decide +kernel
theorem d_MO_decode_21 : decode b_MO_decode 21 = .ok (.iconst 0, 1) := by decide +kernel
theorem d_MO_decode_22 : decode b_MO_decode 22 = .ok (.iaload, 1) := by decide +kernel
theorem d_MO_decode_23 : decode b_MO_decode 23 = .ok (.iconst 1, 1) := by decide +kernel
theorem d_MO_decode_24 : decode b_MO_decode 24 = .ok (.if_icmp .le 7, 3) := by decide +kernel
theorem d_MO_decode_27 : decode b_MO_decode 27 = .ok (.iconst 0, 1) := by decide +kernel
theorem d_MO_decode_28 : decode b_MO_decode 28 = .ok (.goto 23, 3) := by decide +kernel
theorem d_MO_decode_31 : decode b_MO_decode 31 = .ok (.aload_n 0, 1) := by decide +kernel
theorem d_MO_decode_32 : decode b_MO_decode 32 = .ok (.getfield 26, 3) := by decide +kernel
theorem d_MO_decode_35 : decode b_MO_decode 35 = .ok (.iconst 0, 1) := by decide +kernel
theorem d_MO_decode_36 : decode b_MO_decode 36 = .ok (.iaload, 1) := by decide +kernel
theorem d_MO_decode_37 : decode b_MO_decode 37 = .ok (.ifCond .ne 10, 3) := by decide +kernel
theorem d_MO_decode_40 : decode b_MO_decode 40 = .ok (.aload_n 0, 1) := by decide +kernel
theorem d_MO_decode_41 : decode b_MO_decode 41 = .ok (.invokevirtual 112, 3) := by decide +kernel
theorem d_MO_decode_44 : decode b_MO_decode 44 = .ok (.goto 7, 3) := by decide +kernel
theorem d_MO_decode_47 : decode b_MO_decode 47 = .ok (.aload_n 0, 1) := by decide +kernel
theorem d_MO_decode_48 : decode b_MO_decode 48 = .ok (.invokevirtual 115, 3) := by decide +kernel
theorem d_MO_decode_51 : decode b_MO_decode 51 = .ok (.istore_n 1, 1) := by decide +kernel
theorem d_MO_decode_52 : decode b_MO_decode 52 = .ok (.aload_n 0, 1) := by decide +kernel
theorem d_MO_decode_53 : decode b_MO_decode 53 = .ok (.iconst 0, 1) := by decide +kernel
theorem d_MO_decode_54 : decode b_MO_decode 54 = .ok (.putfield 102, 3) := by decide +kernel
theorem d_MO_decode_57 : decode b_MO_decode 57 = .ok (.iload_n 1, 1) := by decide +kernel
theorem d_MO_decode_58 : decode b_MO_decode 58 = .ok (.ifCond .lt 7, 3) := by decide +kernel
theorem d_MO_decode_61 : decode b_MO_decode 61 = .ok (.iconst (-1), 1) := by decide +kernel
theorem d_MO_decode_62 : decode b_MO_decode 62 = .ok (.iload_n 1, 1) := by decide +kernel
theorem d_MO_decode_63 : decode b_MO_decode 63 = .ok (.isub, 1) := by decide +kernel
theorem d_MO_decode_64 : decode b_MO_decode 64 = .ok (.ireturn, 1) := by decide +kernel
theorem d_MO_decode_65 : decode b_MO_decode 65 = .ok (.iconst 0, 1) := by decide +kernel
theorem d_MO_decode_66 : decode b_MO_decode 66 = .ok (.istore_n 2, 1) := by decide +kernel
theorem d_MO_decode_67 : decode b_MO_decode 67 = .ok (.iload_n 2, 1) := by decide +kernel
theorem d_MO_decode_68 : decode b_MO_decode 68 = .ok (.aload_n 0, 1) := by decide +kernel
theorem d_MO_decode_69 : decode b_MO_decode 69 = .ok (.invokevirtual 50, 3) := by decide +kernel
theorem d_MO_decode_72 : decode b_MO_decode 72 = .ok (.if_icmp .ge 21, 3) := by decide +kernel
theorem d_MO_decode_75 : decode b_MO_decode 75 = .ok (.aload_n 0, 1) := by decide +kernel
theorem d_MO_decode_76 : decode b_MO_decode 76 = .ok (.getfield 7, 3) := by decide +kernel
theorem d_MO_decode_79 : decode b_MO_decode 79 = .ok (.iload_n 2, 1) := by decide +kernel
theorem d_MO_decode_80 : decode b_MO_decode 80 = .ok (.aload_n 0, 1) := by decide +kernel
theorem d_MO_decode_81 : decode b_MO_decode 81 = .ok (.getfield 20, 3) := by decide +kernel
theorem d_MO_decode_84 : decode b_MO_decode 84 = .ok (.iload_n 2, 1) := by decide +kernel
theorem d_MO_decode_85 : decode b_MO_decode 85 = .ok (.iaload, 1) := by decide +kernel
theorem d_MO_decode_86 : decode b_MO_decode 86 = .ok (.iastore, 1) := by decide +kernel
theorem d_MO_decode_87 : decode b_MO_decode 87 = .ok (.iinc 2 1, 3) := by decide +kernel
theorem d_MO_decode_90 : decode b_MO_decode 90 = .ok (.goto (-23), 3) := by decide +kernel
theorem d_MO_decode_93 : decode b_MO_decode 93 = .ok (.aload_n 0, 1) := by decide +kernel
theorem d_MO_decode_94 : decode b_MO_decode 94 = .ok (.getfield 57, 3) := by decide +kernel
theorem d_MO_decode_97 : decode b_MO_decode 97 = .ok (.ireturn, 1) := by decide +kernel
theorem d_MO_change_0 : decode b_MO_change 0 = .ok (.aload_n 0, 1) := by decide +kernel
theorem d_MO_change_1 : decode b_MO_change 1 = .ok (.iconst 0, 1) := by decide +kernel
theorem d_MO_change_2 : decode b_MO_change 2 = .ok (.putfield 39, 3) := by decide +kernel
theorem d_MO_change_5 : decode b_MO_change 5 = .ok (.aload_n 0, 1) := by decide +kernel
theorem d_MO_change_6 : decode b_MO_change 6 = .ok (.iconst 0, 1) := by decide +kernel
theorem d_MO_change_7 : decode b_MO_change 7 = .ok (.putfield 81, 3) := by decide +kernel
theorem d_MO_change_10 : decode b_MO_change 10 = .ok (.iconst 0, 1) := by decide +kernel
theorem d_MO_change_11 : decode b_MO_change 11 = .ok (.istore_n 1, 1) := by decide +kernel
theorem d_MO_change_12 : decode b_MO_change 12 = .ok (.iload_n 1, 1) := by decide +kernel
theorem d_MO_change_13 : decode b_MO_change 13 = .ok (.aload_n 0, 1) := by decide +kernel
theorem d_MO_change_14 : decode b_MO_change 14 = .ok (.getfield 36, 3) := by decide +kernel
theorem d_MO_change_17 : decode b_MO_change 17 = .ok (.if_icmp .ge 133, 3) := by decide +kernel
theorem d_MO_change_20 : decode b_MO_change 20 = .ok (.iconst 0, 1) := by decide +kernel
theorem d_MO_change_21 : decode b_MO_change 21 = .ok (.istore_n 2, 1) := by decide +kernel
theorem d_MO_change_22 : decode b_MO_change 22 = .ok (.iload_n 2, 1) := by decide +kernel
theorem d_MO_change_23 : decode b_MO_change 23 = .ok (.aload_n 0, 1) := by decide +kernel
theorem d_MO_change_24 : decode b_MO_change 24 = .ok (.getfield 32, 3) := by decide +kernel
theorem d_MO_change_27 : decode b_MO_change 27 = .ok (.if_icmp .ge 117, 3) := by decide +kernel
theorem d_MO_change_30 : decode b_MO_change 30 = .ok (.iconst 0, 1) := by decide +kernel
theorem d_MO_change_31 : decode b_MO_change 31 = .ok (.istore_n 3, 1) := by decide +kernel
theorem d_MO_change_32 : decode b_MO_change 32 = .ok (.iload_n 2, 1) := by decide +kernel
theorem d_MO_change_33 : decode b_MO_change 33 = .ok (.iload_n 3, 1) := by decide +kernel
theorem d_MO_change_34 : decode b_MO_change 34 = .ok (.iadd, 1) := by decide +kernel
theorem d_MO_change_35 : decode b_MO_change 35 = .ok (.aload_n 0, 1) := by decide +kernel
theorem d_MO_change_36 : decode b_MO_change 36 = .ok (.getfield 32, 3) := by decide +kernel
theorem d_MO_change_39 : decode b_MO_change 39 = .ok (.if_icmp .ge 42, 3) := by decide +kernel
theorem d_MO_change_42 : decode b_MO_change 42 = .ok (.aload_n 0, 1) := by decide +kernel
theorem d_MO_change_43 : decode b_MO_change 43 = .ok (.getfield 7, 3) := by decide +kernel
theorem d_MO_change_46 : decode b_MO_change 46 = .ok (.aload_n 0, 1) := by decide +kernel
theorem d_MO_change_47 : decode b_MO_change 47 = .ok (.getfield 32, 3) := by decide +kernel
theorem d_MO_change_50 : decode b_MO_change 50 = .ok (.iload_n 1, 1) := by decide +kernel
theorem d_MO_change_51 : decode b_MO_change 51 = .ok (.imul, 1) := by decide +kernel
theorem d_MO_change_52 : decode b_MO_change 52 = .ok (.iload_n 2, 1) := by decide +kernel
theorem d_MO_change_53 : decode b_MO_change 53 = .ok (.iadd, 1) := by decide +kernel
theorem d_MO_change_54 : decode b_MO_change 54 = .ok (.iload_n 3, 1) := by decide +kernel
theorem d_MO_change_55 : decode b_MO_change 55 = .ok (.iadd, 1) := by decide +kernel
theorem d_MO_change_56 : decode b_MO_change 56 = .ok (.iaload, 1) := by decide +kernel
theorem d_MO_change_57 : decode b_MO_change 57 = .ok (.aload_n 0, 1) := by decide +kernel
theorem d_MO_change_58 : decode b_MO_change 58 = .ok (.getfield 13, 3) := by decide +kernel
theorem d_MO_change_61 : decode b_MO_change 61 = .ok (.aload_n 0, 1) := by decide +kernel
theorem d_MO_change_62 : decode b_MO_change 62 = .ok (.getfield 32, 3) := by decide +kernel
theorem d_MO_change_65 : decode b_MO_change 65 = .ok (.iload_n 1, 1) := by decide +kernel
theorem d_MO_change_66 : decode b_MO_change 66 = .ok (.imul, 1) := by decide +kernel
theorem d_MO_change_67 : decode b_MO_change 67 = .ok (.iload_n 2, 1) := by decide +kernel
theorem d_MO_change_68 : decode b_MO_change 68 = .ok (.iadd, 1) := by decide +kernel
theorem d_MO_change_69 : decode b_MO_change 69 = .ok (.iload_n 3, 1) := by decide +kernel
theorem d_MO_change_70 : decode b_MO_change 70 = .ok (.iadd, 1) := by decide +kernel
theorem d_MO_change_71 : decode b_MO_change 71 = .ok (.iaload, 1) := by decide +kernel
theorem d_MO_change_72 : decode b_MO_change 72 = .ok (.if_icmp .eq 9, 3) := by decide +kernel
theorem d_MO_change_75 : decode b_MO_change 75 = .ok (.iinc 3 1, 3) := by decide +kernel
theorem d_MO_change_78 : decode b_MO_change 78 = .ok (.goto (-46), 3) := by decide +kernel
theorem d_MO_change_81 : decode b_MO_change 81 = .ok (.iload_n 3, 1) := by decide +kernel
theorem d_MO_change_82 : decode b_MO_change 82 = .ok (.ifCond .le 53, 3) := by decide +kernel
theorem d_MO_change_85 : decode b_MO_change 85 = .ok (.aload_n 0, 1) := by decide +kernel
theorem d_MO_change_86 : decode b_MO_change 86 = .ok (.iload_n 2, 1) := by decide +kernel
theorem d_MO_change_87 : decode b_MO_change 87 = .ok (.invokevirtual 98, 3) := by decide +kernel
theorem d_MO_change_90 : decode b_MO_change 90 = .ok (.aload_n 0, 1) := by decide +kernel
theorem d_MO_change_91 : decode b_MO_change 91 = .ok (.iload_n 1, 1) := by decide +kernel
theorem d_MO_change_92 : decode b_MO_change 92 = .ok (.invokevirtual 98, 3) := by decide +kernel
theorem d_MO_change_95 : decode b_MO_change 95 = .ok (.aload_n 0, 1) := by decide +kernel
theorem d_MO_change_96 : decode b_MO_change 96 = .ok (.iload_n 3, 1) := by decide +kernel
theorem d_MO_change_97 : decode b_MO_change 97 = .ok (.invokevirtual 98, 3) := by decide +kernel
theorem d_MO_change_100 : decode b_MO_change 100 = .ok (.iconst 0, 1) := by decide +kernel
theorem d_MO_change_101 : decode b_MO_change 101 = .ok (.istore 4, 2) := by decide +kernel
theorem d_MO_change_103 : decode b_MO_change 103 = .ok (.iload 4, 2) := by decide +kernel
theorem d_MO_change_105 : decode b_MO_change 105 = .ok (.iload_n 3, 1) := by decide +kernel
theorem d_MO_change_106 : decode b_MO_change 106 = .ok (.if_icmp .ge 29, 3) := by decide +kernel
theorem d_MO_change_109 : decode b_MO_change 109 = .ok (.aload_n 0, 1) := by decide +kernel
theorem d_MO_change_110 : decode b_MO_change 110 = .ok (.aload_n 0, 1) := by decide +kernel
theorem d_MO_change_111 : decode b_MO_change 111 = .ok (.getfield 13, 3) := by decide +kernel
theorem d_MO_change_114 : decode b_MO_change 114 = .ok (.aload_n 0, 1) := by decide +kernel
theorem d_MO_change_115 : decode b_MO_change 115 = .ok (.getfield 32, 3) := by decide +kernel
theorem d_MO_change_118 : decode b_MO_change 118 = .ok (.iload_n 1, 1) := by decide +kernel
theorem d_MO_change_119 : decode b_MO_change 119 = .ok (.imul, 1) := by decide +kernel
theorem d_MO_change_120 : decode b_MO_change 120 = .ok (.iload_n 2, 1) := by decide +kernel
theorem d_MO_change_121 : decode b_MO_change 121 = .ok (.iadd, 1) := by decide +kernel
theorem d_MO_change_122 : decode b_MO_change 122 = .ok (.iload 4, 2) := by decide +kernel
theorem d_MO_change_124 : decode b_MO_change 124 = .ok (.iadd, 1) := by decide +kernel
theorem d_MO_change_125 : decode b_MO_change 125 = .ok (.iaload, 1) := by decide +kernel
theorem d_MO_change_126 : decode b_MO_change 126 = .ok (.invokevirtual 98, 3) := by decide +kernel
theorem d_MO_change_129 : decode b_MO_change 129 = .ok (.iinc 4 1, 3) := by decide +kernel
theorem d_MO_change_132 : decode b_MO_change 132 = .ok (.goto (-29), 3) := by decide +kernel
theorem d_MO_change_135 : decode b_MO_change 135 = .ok (.iload_n 2, 1) := by decide +kernel
theorem d_MO_change_136 : decode b_MO_change 136 = .ok (.iload_n 3, 1) := by decide +kernel
theorem d_MO_change_137 : decode b_MO_change 137 = .ok (.iconst 1, 1) := by decide +kernel
theorem d_MO_change_138 : decode b_MO_change 138 = .ok (.iadd, 1) := by decide +kernel
theorem d_MO_change_139 : decode b_MO_change 139 = .ok (.iadd, 1) := by decide +kernel
theorem d_MO_change_140 : decode b_MO_change 140 = .ok (.istore_n 2, 1) := by decide +kernel
theorem d_MO_change_141 : decode b_MO_change 141 = .ok (.goto (-119), 3) := by decide +kernel
theorem d_MO_change_144 : decode b_MO_change 144 = .ok (.iinc 1 1, 3) := by decide +kernel
theorem d_MO_change_147 : decode b_MO_change 147 = .ok (.goto (-135), 3) := by decide +kernel
theorem d_MO_change_150 : decode b_MO_change 150 = .ok (.aload_n 0, 1) := by decide +kernel
theorem d_MO_change_151 : decode b_MO_change 151 = .ok (.sipush 255, 3) := by decide +kernel
theorem d_MO_change_154 : decode b_MO_change 154 = .ok (.invokevirtual 98, 3) := by decide +kernel
theorem d_MO_change_157 : decode b_MO_change 157 = .ok (.aload_n 0, 1) := by decide +kernel
theorem d_MO_change_158 : decode b_MO_change 158 = .ok (.getfield 81, 3) := by decide +kernel
theorem d_MO_change_161 : decode b_MO_change 161 = .ok (.ireturn, 1) := by decide +kernel
theorem d_MO_readRun_0 : decode b_MO_readRun 0 = .ok (.aload_n 0, 1) := by decide +kernel
theorem d_MO_readRun_1 : decode b_MO_readRun 1 = .ok (.getfield 105, 3) := by decide +kernel
theorem d_MO_readRun_4 : decode b_MO_readRun 4 = .ok (.iconst 3, 1) := by decide +kernel
theorem d_MO_readRun_5 : decode b_MO_readRun 5 = .ok (.iadd, 1) := by decide +kernel
theorem d_MO_readRun_6 : decode b_MO_readRun 6 = .ok (.aload_n 0, 1) := by decide +kernel
theorem d_MO_readRun_7 : decode b_MO_readRun 7 = .ok (.getfield 102, 3) := by decide +kernel
theorem d_MO_readRun_10 : decode b_MO_readRun 10 = .ok (.if_icmp .le 5, 3) := by decide +kernel
theorem d_MO_readRun_13 : decode b_MO_readRun 13 = .ok (.iconst 0, 1) := by decide +kernel
theorem d_MO_readRun_14 : decode b_MO_readRun 14 = .ok (.ireturn, 1) := by decide +kernel
theorem d_MO_readRun_15 : decode b_MO_readRun 15 = .ok (.aload_n 0, 1) := by decide +kernel
theorem d_MO_readRun_16 : decode b_MO_readRun 16 = .ok (.getfield 26, 3) := by decide +kernel
theorem d_MO_readRun_19 : decode b_MO_readRun 19 = .ok (.aload_n 0, 1) := by decide +kernel
theorem d_MO_readRun_20 : decode b_MO_readRun 20 = .ok (.getfield 105, 3) := by decide +kernel
theorem d_MO_readRun_23 : decode b_MO_readRun 23 = .ok (.iaload, 1) := by decide +kernel
theorem d_MO_readRun_24 : decode b_MO_readRun 24 = .ok (.istore_n 1, 1) := by decide +kernel
theorem d_MO_readRun_25 : decode b_MO_readRun 25 = .ok (.aload_n 0, 1) := by decide +kernel
theorem d_MO_readRun_26 : decode b_MO_readRun 26 = .ok (.getfield 26, 3) := by decide +kernel
theorem d_MO_readRun_29 : decode b_MO_readRun 29 = .ok (.aload_n 0, 1) := by decide +kernel
theorem d_MO_readRun_30 : decode b_MO_readRun 30 = .ok (.getfield 105, 3) := by decide +kernel
theorem d_MO_readRun_33 : decode b_MO_readRun 33 = .ok (.iconst 1, 1) := by decide +kernel
theorem d_MO_readRun_34 : decode b_MO_readRun 34 = .ok (.iadd, 1) := by decide +kernel
theorem d_MO_readRun_35 : decode b_MO_readRun 35 = .ok (.iaload, 1) := by decide +kernel
theorem d_MO_readRun_36 : decode b_MO_readRun 36 = .ok (.istore_n 2, 1) := by decide +kernel
theorem d_MO_readRun_37 : decode b_MO_readRun 37 = .ok (.aload_n 0, 1) := by decide +kernel
theorem d_MO_readRun_38 : decode b_MO_readRun 38 = .ok (.getfield 26, 3) := by decide +kernel
theorem d_MO_readRun_41 : decode b_MO_readRun 41 = .ok (.aload_n 0, 1) := by decide +kernel
theorem d_MO_readRun_42 : decode b_MO_readRun 42 = .ok (.getfield 105, 3) := by decide +kernel
theorem d_MO_readRun_45 : decode b_MO_readRun 45 = .ok (.iconst 2, 1) := by decide +kernel
theorem d_MO_readRun_46 : decode b_MO_readRun 46 = .ok (.iadd, 1) := by decide +kernel
theorem d_MO_readRun_47 : decode b_MO_readRun 47 = .ok (.iaload, 1) := by decide +kernel
theorem d_MO_readRun_48 : decode b_MO_readRun 48 = .ok (.istore_n 3, 1) := by decide +kernel
theorem d_MO_readRun_49 : decode b_MO_readRun 49 = .ok (.aload_n 0, 1) := by decide +kernel
theorem d_MO_readRun_50 : decode b_MO_readRun 50 = .ok (.iload_n 1, 1) := by decide +kernel
theorem d_MO_readRun_51 : decode b_MO_readRun 51 = .ok (.iload_n 2, 1) := by decide +kernel
theorem d_MO_readRun_52 : decode b_MO_readRun 52 = .ok (.invokevirtual 46, 3) := by decide +kernel
theorem d_MO_readRun_55 : decode b_MO_readRun 55 = .ok (.ifCond .eq 33, 3) := by decide +kernel
theorem d_MO_readRun_58 : decode b_MO_readRun 58 = .ok (.iload_n 3, 1) := by decide +kernel
theorem d_MO_readRun_59 : decode b_MO_readRun 59 = .ok (.iconst 1, 1) := by decide +kernel
theorem d_MO_readRun_60 : decode b_MO_readRun 60 = .ok (.if_icmp .lt 28, 3) := by decide +kernel
theorem d_MO_readRun_63 : decode b_MO_readRun 63 = .ok (.iload_n 1, 1) := by decide +kernel
theorem d_MO_readRun_64 : decode b_MO_readRun 64 = .ok (.iload_n 3, 1) := by decide +kernel
theorem d_MO_readRun_65 : decode b_MO_readRun 65 = .ok (.iadd, 1) := by decide +kernel
theorem d_MO_readRun_66 : decode b_MO_readRun 66 = .ok (.aload_n 0, 1) := by decide +kernel
theorem d_MO_readRun_67 : decode b_MO_readRun 67 = .ok (.getfield 32, 3) := by decide +kernel
theorem d_MO_readRun_70 : decode b_MO_readRun 70 = .ok (.if_icmp .gt 18, 3) := by decide +kernel
theorem d_MO_readRun_73 : decode b_MO_readRun 73 = .ok (.aload_n 0, 1) := by decide +kernel
theorem d_MO_readRun_74 : decode b_MO_readRun 74 = .ok (.getfield 105, 3) := by decide +kernel
theorem d_MO_readRun_77 : decode b_MO_readRun 77 = .ok (.iconst 3, 1) := by decide +kernel
theorem d_MO_readRun_78 : decode b_MO_readRun 78 = .ok (.iadd, 1) := by decide +kernel
theorem d_MO_readRun_79 : decode b_MO_readRun 79 = .ok (.iload_n 3, 1) := by decide +kernel
theorem d_MO_readRun_80 : decode b_MO_readRun 80 = .ok (.iadd, 1) := by decide +kernel
theorem d_MO_readRun_81 : decode b_MO_readRun 81 = .ok (.aload_n 0, 1) := by decide +kernel
theorem d_MO_readRun_82 : decode b_MO_readRun 82 = .ok (.getfield 102, 3) := by decide +kernel
theorem d_MO_readRun_85 : decode b_MO_readRun 85 = .ok (.if_icmp .le 5, 3) := by decide +kernel
theorem d_MO_readRun_88 : decode b_MO_readRun 88 = .ok (.iconst 0, 1) := by decide +kernel
theorem d_MO_readRun_89 : decode b_MO_readRun 89 = .ok (.ireturn, 1) := by decide +kernel
theorem d_MO_readRun_90 : decode b_MO_readRun 90 = .ok (.iconst 0, 1) := by decide +kernel
theorem d_MO_readRun_91 : decode b_MO_readRun 91 = .ok (.istore 4, 2) := by decide +kernel
theorem d_MO_readRun_93 : decode b_MO_readRun 93 = .ok (.iload 4, 2) := by decide +kernel
theorem d_MO_readRun_95 : decode b_MO_readRun 95 = .ok (.iload_n 3, 1) := by decide +kernel
theorem d_MO_readRun_96 : decode b_MO_readRun 96 = .ok (.if_icmp .ge 39, 3) := by decide +kernel
theorem d_MO_readRun_99 : decode b_MO_readRun 99 = .ok (.aload_n 0, 1) := by decide +kernel
theorem d_MO_readRun_100 : decode b_MO_readRun 100 = .ok (.getfield 20, 3) := by decide +kernel
theorem d_MO_readRun_103 : decode b_MO_readRun 103 = .ok (.aload_n 0, 1) := by decide +kernel
theorem d_MO_readRun_104 : decode b_MO_readRun 104 = .ok (.getfield 32, 3) := by decide +kernel
theorem d_MO_readRun_107 : decode b_MO_readRun 107 = .ok (.iload_n 2, 1) := by decide +kernel
theorem d_MO_readRun_108 : decode b_MO_readRun 108 = .ok (.imul, 1) := by decide +kernel
theorem d_MO_readRun_109 : decode b_MO_readRun 109 = .ok (.iload_n 1, 1) := by decide +kernel
theorem d_MO_readRun_110 : decode b_MO_readRun 110 = .ok (.iadd, 1) := by decide +kernel
theorem d_MO_readRun_111 : decode b_MO_readRun 111 = .ok (.iload 4, 2) := by decide +kernel
theorem d_MO_readRun_113 : decode b_MO_readRun 113 = .ok (.iadd, 1) := by decide +kernel
theorem d_MO_readRun_114 : decode b_MO_readRun 114 = .ok (.aload_n 0, 1) := by decide +kernel
theorem d_MO_readRun_115 : decode b_MO_readRun 115 = .ok (.getfield 26, 3) := by decide +kernel
theorem d_MO_readRun_118 : decode b_MO_readRun 118 = .ok (.aload_n 0, 1) := by decide +kernel
theorem d_MO_readRun_119 : decode b_MO_readRun 119 = .ok (.getfield 105, 3) := by decide +kernel
theorem d_MO_readRun_122 : decode b_MO_readRun 122 = .ok (.iconst 3, 1) := by decide +kernel
theorem d_MO_readRun_123 : decode b_MO_readRun 123 = .ok (.iadd, 1) := by decide +kernel
theorem d_MO_readRun_124 : decode b_MO_readRun 124 = .ok (.iload 4, 2) := by decide +kernel
theorem d_MO_readRun_126 : decode b_MO_readRun 126 = .ok (.iadd, 1) := by decide +kernel
theorem d_MO_readRun_127 : decode b_MO_readRun 127 = .ok (.iaload, 1) := by decide +kernel
theorem d_MO_readRun_128 : decode b_MO_readRun 128 = .ok (.iastore, 1) := by decide +kernel
theorem d_MO_readRun_129 : decode b_MO_readRun 129 = .ok (.iinc 4 1, 3) := by decide +kernel
theorem d_MO_readRun_132 : decode b_MO_readRun 132 = .ok (.goto (-39), 3) := by decide +kernel
theorem d_MO_readRun_135 : decode b_MO_readRun 135 = .ok (.aload_n 0, 1) := by decide +kernel
theorem d_MO_readRun_136 : decode b_MO_readRun 136 = .ok (.dup, 1) := by decide +kernel
theorem d_MO_readRun_137 : decode b_MO_readRun 137 = .ok (.getfield 105, 3) := by decide +kernel
theorem d_MO_readRun_140 : decode b_MO_readRun 140 = .ok (.iconst 3, 1) := by decide +kernel
theorem d_MO_readRun_141 : decode b_MO_readRun 141 = .ok (.iload_n 3, 1) := by decide +kernel
theorem d_MO_readRun_142 : decode b_MO_readRun 142 = .ok (.iadd, 1) := by decide +kernel
theorem d_MO_readRun_143 : decode b_MO_readRun 143 = .ok (.iadd, 1) := by decide +kernel
theorem d_MO_readRun_144 : decode b_MO_readRun 144 = .ok (.putfield 105, 3) := by decide +kernel
theorem d_MO_readRun_147 : decode b_MO_readRun 147 = .ok (.aload_n 0, 1) := by decide +kernel
theorem d_MO_readRun_148 : decode b_MO_readRun 148 = .ok (.dup, 1) := by decide +kernel
theorem d_MO_readRun_149 : decode b_MO_readRun 149 = .ok (.getfield 57, 3) := by decide +kernel
theorem d_MO_readRun_152 : decode b_MO_readRun 152 = .ok (.iload_n 3, 1) := by decide +kernel
theorem d_MO_readRun_153 : decode b_MO_readRun 153 = .ok (.iadd, 1) := by decide +kernel
theorem d_MO_readRun_154 : decode b_MO_readRun 154 = .ok (.putfield 57, 3) := by decide +kernel
theorem d_MO_readRun_157 : decode b_MO_readRun 157 = .ok (.iconst 1, 1) := by decide +kernel
theorem d_MO_readRun_158 : decode b_MO_readRun 158 = .ok (.ireturn, 1) := by decide +kernel
theorem d_MO_apply_0 : decode b_MO_apply 0 = .ok (.aload_n 0, 1) := by decide +kernel
theorem d_MO_apply_1 : decode b_MO_apply 1 = .ok (.iconst 0, 1) := by decide +kernel
theorem d_MO_apply_2 : decode b_MO_apply 2 = .ok (.putfield 39, 3) := by decide +kernel
theorem d_MO_apply_5 : decode b_MO_apply 5 = .ok (.iconst 0, 1) := by decide +kernel
theorem d_MO_apply_6 : decode b_MO_apply 6 = .ok (.istore_n 1, 1) := by decide +kernel
theorem d_MO_apply_7 : decode b_MO_apply 7 = .ok (.iload_n 1, 1) := by decide +kernel
theorem d_MO_apply_8 : decode b_MO_apply 8 = .ok (.aload_n 0, 1) := by decide +kernel
theorem d_MO_apply_9 : decode b_MO_apply 9 = .ok (.invokevirtual 50, 3) := by decide +kernel
theorem d_MO_apply_12 : decode b_MO_apply 12 = .ok (.if_icmp .ge 21, 3) := by decide +kernel
theorem d_MO_apply_15 : decode b_MO_apply 15 = .ok (.aload_n 0, 1) := by decide +kernel
theorem d_MO_apply_16 : decode b_MO_apply 16 = .ok (.getfield 20, 3) := by decide +kernel
theorem d_MO_apply_19 : decode b_MO_apply 19 = .ok (.iload_n 1, 1) := by decide +kernel
theorem d_MO_apply_20 : decode b_MO_apply 20 = .ok (.aload_n 0, 1) := by decide +kernel
theorem d_MO_apply_21 : decode b_MO_apply 21 = .ok (.getfield 7, 3) := by decide +kernel
theorem d_MO_apply_24 : decode b_MO_apply 24 = .ok (.iload_n 1, 1) := by decide +kernel
theorem d_MO_apply_25 : decode b_MO_apply 25 = .ok (.iaload, 1) := by decide +kernel
theorem d_MO_apply_26 : decode b_MO_apply 26 = .ok (.iastore, 1) := by decide +kernel
theorem d_MO_apply_27 : decode b_MO_apply 27 = .ok (.iinc 1 1, 3) := by decide +kernel
theorem d_MO_apply_30 : decode b_MO_apply 30 = .ok (.goto (-23), 3) := by decide +kernel
theorem d_MO_apply_33 : decode b_MO_apply 33 = .ok (.aload_n 0, 1) := by decide +kernel
theorem d_MO_apply_34 : decode b_MO_apply 34 = .ok (.iconst 0, 1) := by decide +kernel
theorem d_MO_apply_35 : decode b_MO_apply 35 = .ok (.putfield 105, 3) := by decide +kernel
theorem d_MO_apply_38 : decode b_MO_apply 38 = .ok (.aload_n 0, 1) := by decide +kernel
theorem d_MO_apply_39 : decode b_MO_apply 39 = .ok (.iconst 0, 1) := by decide +kernel
theorem d_MO_apply_40 : decode b_MO_apply 40 = .ok (.putfield 57, 3) := by decide +kernel
theorem d_MO_apply_43 : decode b_MO_apply 43 = .ok (.iconst (-1), 1) := by decide +kernel
theorem d_MO_apply_44 : decode b_MO_apply 44 = .ok (.istore_n 1, 1) := by decide +kernel
theorem d_MO_apply_45 : decode b_MO_apply 45 = .ok (.iload_n 1, 1) := by decide +kernel
theorem d_MO_apply_46 : decode b_MO_apply 46 = .ok (.ifCond .ge 48, 3) := by decide +kernel
theorem d_MO_apply_49 : decode b_MO_apply 49 = .ok (.aload_n 0, 1) := by decide +kernel
theorem d_MO_apply_50 : decode b_MO_apply 50 = .ok (.getfield 105, 3) := by decide +kernel
theorem d_MO_apply_53 : decode b_MO_apply 53 = .ok (.aload_n 0, 1) := by decide +kernel
theorem d_MO_apply_54 : decode b_MO_apply 54 = .ok (.getfield 102, 3) := by decide +kernel
theorem d_MO_apply_57 : decode b_MO_apply 57 = .ok (.if_icmp .ge 37, 3) := by decide +kernel
theorem d_MO_apply_60 : decode b_MO_apply 60 = .ok (.aload_n 0, 1) := by decide +kernel
theorem d_MO_apply_61 : decode b_MO_apply 61 = .ok (.getfield 26, 3) := by decide +kernel
theorem d_MO_apply_64 : decode b_MO_apply 64 = .ok (.aload_n 0, 1) := by decide +kernel
theorem d_MO_apply_65 : decode b_MO_apply 65 = .ok (.getfield 105, 3) := by decide +kernel
theorem d_MO_apply_68 : decode b_MO_apply 68 = .ok (.iaload, 1) := by decide +kernel
theorem d_MO_apply_69 : decode b_MO_apply 69 = .ok (.sipush 255, 3) := by decide +kernel
theorem d_MO_apply_72 : decode b_MO_apply 72 = .ok (.if_icmp .eq 22, 3) := by decide +kernel
theorem d_MO_apply_75 : decode b_MO_apply 75 = .ok (.aload_n 0, 1) := by decide +kernel
theorem d_MO_apply_76 : decode b_MO_apply 76 = .ok (.invokevirtual 118, 3) := by decide +kernel
theorem d_MO_apply_79 : decode b_MO_apply 79 = .ok (.ifCond .eq 7, 3) := by decide +kernel
theorem d_MO_apply_82 : decode b_MO_apply 82 = .ok (.iconst (-1), 1) := by decide +kernel
theorem d_MO_apply_83 : decode b_MO_apply 83 = .ok (.goto 7, 3) := by decide +kernel
theorem d_MO_apply_86 : decode b_MO_apply 86 = .ok (.aload_n 0, 1) := by decide +kernel
theorem d_MO_apply_87 : decode b_MO_apply 87 = .ok (.getfield 105, 3) := by decide +kernel
theorem d_MO_apply_90 : decode b_MO_apply 90 = .ok (.istore_n 1, 1) := by decide +kernel
theorem d_MO_apply_91 : decode b_MO_apply 91 = .ok (.goto (-46), 3) := by decide +kernel
theorem d_MO_apply_94 : decode b_MO_apply 94 = .ok (.iload_n 1, 1) := by decide +kernel
theorem d_MO_apply_95 : decode b_MO_apply 95 = .ok (.ifCond .ge 45, 3) := by decide +kernel
theorem d_MO_apply_98 : decode b_MO_apply 98 = .ok (.aload_n 0, 1) := by decide +kernel
theorem d_MO_apply_99 : decode b_MO_apply 99 = .ok (.getfield 105, 3) := by decide +kernel
theorem d_MO_apply_102 : decode b_MO_apply 102 = .ok (.aload_n 0, 1) := by decide +kernel
theorem d_MO_apply_103 : decode b_MO_apply 103 = .ok (.getfield 102, 3) := by decide +kernel
theorem d_MO_apply_106 : decode b_MO_apply 106 = .ok (.if_icmp .lt 10, 3) := by decide +kernel
theorem d_MO_apply_109 : decode b_MO_apply 109 = .ok (.aload_n 0, 1) := by decide +kernel
theorem d_MO_apply_110 : decode b_MO_apply 110 = .ok (.getfield 102, 3) := by decide +kernel
theorem d_MO_apply_113 : decode b_MO_apply 113 = .ok (.goto 26, 3) := by decide +kernel
theorem d_MO_apply_116 : decode b_MO_apply 116 = .ok (.aload_n 0, 1) := by decide +kernel
theorem d_MO_apply_117 : decode b_MO_apply 117 = .ok (.getfield 105, 3) := by decide +kernel
theorem d_MO_apply_120 : decode b_MO_apply 120 = .ok (.iconst 1, 1) := by decide +kernel
theorem d_MO_apply_121 : decode b_MO_apply 121 = .ok (.iadd, 1) := by decide +kernel
theorem d_MO_apply_122 : decode b_MO_apply 122 = .ok (.aload_n 0, 1) := by decide +kernel
theorem d_MO_apply_123 : decode b_MO_apply 123 = .ok (.getfield 102, 3) := by decide +kernel
theorem d_MO_apply_126 : decode b_MO_apply 126 = .ok (.if_icmp .ge 12, 3) := by decide +kernel
theorem d_MO_apply_129 : decode b_MO_apply 129 = .ok (.aload_n 0, 1) := by decide +kernel
theorem d_MO_apply_130 : decode b_MO_apply 130 = .ok (.getfield 105, 3) := by decide +kernel
theorem d_MO_apply_133 : decode b_MO_apply 133 = .ok (.iconst 1, 1) := by decide +kernel
theorem d_MO_apply_134 : decode b_MO_apply 134 = .ok (.iadd, 1) := by decide +kernel
theorem d_MO_apply_135 : decode b_MO_apply 135 = .ok (.goto 4, 3) := by decide +kernel
theorem d_MO_apply_138 : decode b_MO_apply 138 = .ok (.iconst (-1), 1) := by decide +kernel
theorem d_MO_apply_139 : decode b_MO_apply 139 = .ok (.istore_n 1, 1) := by decide +kernel
theorem d_MO_apply_140 : decode b_MO_apply 140 = .ok (.aload_n 0, 1) := by decide +kernel
theorem d_MO_apply_141 : decode b_MO_apply 141 = .ok (.iconst 0, 1) := by decide +kernel
theorem d_MO_apply_142 : decode b_MO_apply 142 = .ok (.putfield 102, 3) := by decide +kernel
theorem d_MO_apply_145 : decode b_MO_apply 145 = .ok (.iload_n 1, 1) := by decide +kernel
theorem d_MO_apply_146 : decode b_MO_apply 146 = .ok (.ifCond .lt 7, 3) := by decide +kernel
theorem d_MO_apply_149 : decode b_MO_apply 149 = .ok (.iconst (-1), 1) := by decide +kernel
theorem d_MO_apply_150 : decode b_MO_apply 150 = .ok (.iload_n 1, 1) := by decide +kernel
theorem d_MO_apply_151 : decode b_MO_apply 151 = .ok (.isub, 1) := by decide +kernel
theorem d_MO_apply_152 : decode b_MO_apply 152 = .ok (.ireturn, 1) := by decide +kernel
theorem d_MO_apply_153 : decode b_MO_apply 153 = .ok (.iconst 0, 1) := by decide +kernel
theorem d_MO_apply_154 : decode b_MO_apply 154 = .ok (.istore_n 2, 1) := by decide +kernel
theorem d_MO_apply_155 : decode b_MO_apply 155 = .ok (.iload_n 2, 1) := by decide +kernel
theorem d_MO_apply_156 : decode b_MO_apply 156 = .ok (.aload_n 0, 1) := by decide +kernel
theorem d_MO_apply_157 : decode b_MO_apply 157 = .ok (.invokevirtual 50, 3) := by decide +kernel
theorem d_MO_apply_160 : decode b_MO_apply 160 = .ok (.if_icmp .ge 21, 3) := by decide +kernel
theorem d_MO_apply_163 : decode b_MO_apply 163 = .ok (.aload_n 0, 1) := by decide +kernel
theorem d_MO_apply_164 : decode b_MO_apply 164 = .ok (.getfield 7, 3) := by decide +kernel
theorem d_MO_apply_167 : decode b_MO_apply 167 = .ok (.iload_n 2, 1) := by decide +kernel
theorem d_MO_apply_168 : decode b_MO_apply 168 = .ok (.aload_n 0, 1) := by decide +kernel
theorem d_MO_apply_169 : decode b_MO_apply 169 = .ok (.getfield 20, 3) := by decide +kernel
theorem d_MO_apply_172 : decode b_MO_apply 172 = .ok (.iload_n 2, 1) := by decide +kernel
theorem d_MO_apply_173 : decode b_MO_apply 173 = .ok (.iaload, 1) := by decide +kernel
theorem d_MO_apply_174 : decode b_MO_apply 174 = .ok (.iastore, 1) := by decide +kernel
theorem d_MO_apply_175 : decode b_MO_apply 175 = .ok (.iinc 2 1, 3) := by decide +kernel
theorem d_MO_apply_178 : decode b_MO_apply 178 = .ok (.goto (-23), 3) := by decide +kernel
theorem d_MO_apply_181 : decode b_MO_apply 181 = .ok (.aload_n 0, 1) := by decide +kernel
theorem d_MO_apply_182 : decode b_MO_apply 182 = .ok (.getfield 57, 3) := by decide +kernel
theorem d_MO_apply_185 : decode b_MO_apply 185 = .ok (.ireturn, 1) := by decide +kernel
theorem d_MO_told_0 : decode b_MO_told 0 = .ok (.aload_n 0, 1) := by decide +kernel
theorem d_MO_told_1 : decode b_MO_told 1 = .ok (.iconst 0, 1) := by decide +kernel
theorem d_MO_told_2 : decode b_MO_told 2 = .ok (.putfield 39, 3) := by decide +kernel
theorem d_MO_told_5 : decode b_MO_told 5 = .ok (.iload_n 1, 1) := by decide +kernel
theorem d_MO_told_6 : decode b_MO_told 6 = .ok (.tableswitch 59 0 4 #[34, 39, 44, 49, 54], 34) := by decide +kernel
theorem d_MO_told_40 : decode b_MO_told 40 = .ok (.aload_n 0, 1) := by decide +kernel
theorem d_MO_told_41 : decode b_MO_told 41 = .ok (.getfield 32, 3) := by decide +kernel
theorem d_MO_told_44 : decode b_MO_told 44 = .ok (.ireturn, 1) := by decide +kernel
theorem d_MO_told_45 : decode b_MO_told 45 = .ok (.aload_n 0, 1) := by decide +kernel
theorem d_MO_told_46 : decode b_MO_told 46 = .ok (.getfield 36, 3) := by decide +kernel
theorem d_MO_told_49 : decode b_MO_told 49 = .ok (.ireturn, 1) := by decide +kernel
theorem d_MO_told_50 : decode b_MO_told 50 = .ok (.aload_n 0, 1) := by decide +kernel
theorem d_MO_told_51 : decode b_MO_told 51 = .ok (.getfield 81, 3) := by decide +kernel
theorem d_MO_told_54 : decode b_MO_told 54 = .ok (.ireturn, 1) := by decide +kernel
theorem d_MO_told_55 : decode b_MO_told 55 = .ok (.aload_n 0, 1) := by decide +kernel
theorem d_MO_told_56 : decode b_MO_told 56 = .ok (.getfield 102, 3) := by decide +kernel
theorem d_MO_told_59 : decode b_MO_told 59 = .ok (.ireturn, 1) := by decide +kernel
theorem d_MO_told_60 : decode b_MO_told 60 = .ok (.aload_n 0, 1) := by decide +kernel
theorem d_MO_told_61 : decode b_MO_told 61 = .ok (.invokevirtual 84, 3) := by decide +kernel
theorem d_MO_told_64 : decode b_MO_told 64 = .ok (.ireturn, 1) := by decide +kernel
theorem d_MO_told_65 : decode b_MO_told 65 = .ok (.iconst (-1), 1) := by decide +kernel
theorem d_MO_told_66 : decode b_MO_told 66 = .ok (.ireturn, 1) := by decide +kernel
theorem d_MO_clear_0 : decode b_MO_clear 0 = .ok (.aload_n 0, 1) := by decide +kernel
theorem d_MO_clear_1 : decode b_MO_clear 1 = .ok (.iconst 0, 1) := by decide +kernel
theorem d_MO_clear_2 : decode b_MO_clear 2 = .ok (.putfield 39, 3) := by decide +kernel
theorem d_MO_clear_5 : decode b_MO_clear 5 = .ok (.iconst 0, 1) := by decide +kernel
theorem d_MO_clear_6 : decode b_MO_clear 6 = .ok (.istore_n 1, 1) := by decide +kernel
theorem d_MO_clear_7 : decode b_MO_clear 7 = .ok (.iload_n 1, 1) := by decide +kernel
theorem d_MO_clear_8 : decode b_MO_clear 8 = .ok (.sipush 576, 3) := by decide +kernel
theorem d_MO_clear_11 : decode b_MO_clear 11 = .ok (.if_icmp .ge 23, 3) := by decide +kernel
theorem d_MO_clear_14 : decode b_MO_clear 14 = .ok (.aload_n 0, 1) := by decide +kernel
theorem d_MO_clear_15 : decode b_MO_clear 15 = .ok (.getfield 7, 3) := by decide +kernel
theorem d_MO_clear_18 : decode b_MO_clear 18 = .ok (.iload_n 1, 1) := by decide +kernel
theorem d_MO_clear_19 : decode b_MO_clear 19 = .ok (.iconst 0, 1) := by decide +kernel
theorem d_MO_clear_20 : decode b_MO_clear 20 = .ok (.iastore, 1) := by decide +kernel
theorem d_MO_clear_21 : decode b_MO_clear 21 = .ok (.aload_n 0, 1) := by decide +kernel
theorem d_MO_clear_22 : decode b_MO_clear 22 = .ok (.getfield 13, 3) := by decide +kernel
theorem d_MO_clear_25 : decode b_MO_clear 25 = .ok (.iload_n 1, 1) := by decide +kernel
theorem d_MO_clear_26 : decode b_MO_clear 26 = .ok (.iconst 0, 1) := by decide +kernel
theorem d_MO_clear_27 : decode b_MO_clear 27 = .ok (.iastore, 1) := by decide +kernel
theorem d_MO_clear_28 : decode b_MO_clear 28 = .ok (.iinc 1 1, 3) := by decide +kernel
theorem d_MO_clear_31 : decode b_MO_clear 31 = .ok (.goto (-24), 3) := by decide +kernel
theorem d_MO_clear_34 : decode b_MO_clear 34 = .ok (.aload_n 0, 1) := by decide +kernel
theorem d_MO_clear_35 : decode b_MO_clear 35 = .ok (.iconst 0, 1) := by decide +kernel
theorem d_MO_clear_36 : decode b_MO_clear 36 = .ok (.putfield 81, 3) := by decide +kernel
theorem d_MO_clear_39 : decode b_MO_clear 39 = .ok (.aload_n 0, 1) := by decide +kernel
theorem d_MO_clear_40 : decode b_MO_clear 40 = .ok (.iconst 0, 1) := by decide +kernel
theorem d_MO_clear_41 : decode b_MO_clear 41 = .ok (.putfield 102, 3) := by decide +kernel
theorem d_MO_clear_44 : decode b_MO_clear 44 = .ok (.aload_n 0, 1) := by decide +kernel
theorem d_MO_clear_45 : decode b_MO_clear 45 = .ok (.iconst 0, 1) := by decide +kernel
theorem d_MO_clear_46 : decode b_MO_clear 46 = .ok (.putfield 54, 3) := by decide +kernel
theorem d_MO_clear_49 : decode b_MO_clear 49 = .ok (.aload_n 0, 1) := by decide +kernel
theorem d_MO_clear_50 : decode b_MO_clear 50 = .ok (.iconst 0, 1) := by decide +kernel
theorem d_MO_clear_51 : decode b_MO_clear 51 = .ok (.putfield 94, 3) := by decide +kernel
theorem d_MO_clear_54 : decode b_MO_clear 54 = .ok (.return_, 1) := by decide +kernel
