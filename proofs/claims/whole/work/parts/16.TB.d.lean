theorem kn_TE_86 : Cond.fieldLinkNest R_TE 86 R_PI "height" "I" R_DF ∈ lw_tbl := (List.mem_of_getElem? (i := 73) (by decide +kernel))
theorem vw_TE_101 : VW R_TE 101 R_TE y_TE_openOfValue b_TE_openOfValue 6 (some .int) := ⟨aw_mem (List.mem_of_getElem? (i := 212) (by decide +kernel)) (by decide +kernel), aw_mem (List.mem_of_getElem? (i := 214) (by decide +kernel)) (by decide +kernel), aw_mem (List.mem_of_getElem? (i := 4) (by decide +kernel)) (by decide +kernel), aw_mem (List.mem_of_getElem? (i := 30) (by decide +kernel)) (by decide +kernel), aw_mem (List.mem_of_getElem? (i := 215) (by decide +kernel)) (by decide +kernel)⟩
theorem md_TE_openOfValue : MD y_TE_openOfValue 4 := by decide +kernel
theorem k_TE_105 : Cond.methodLink R_TE 105 Lib.Math.min.name ∈ AW := aw_mem (List.mem_of_getElem? (i := 216) (by decide +kernel)) (by decide +kernel)
theorem vw_TE_110 : VW R_TE 110 R_PL y_PL_add b_PL_add 8 (none) := ⟨aw_mem (List.mem_of_getElem? (i := 217) (by decide +kernel)) (by decide +kernel), aw_mem (List.mem_of_getElem? (i := 218) (by decide +kernel)) (by decide +kernel), aw_mem (List.mem_of_getElem? (i := 219) (by decide +kernel)) (by decide +kernel), aw_mem (List.mem_of_getElem? (i := 31) (by decide +kernel)) (by decide +kernel), aw_mem (List.mem_of_getElem? (i := 220) (by decide +kernel)) (by decide +kernel)⟩
theorem md_PL_add : MD y_PL_add 6 := by decide +kernel
theorem vw_TE_113 : VW R_TE 113 R_TE y_TE_close b_TE_close 9 (none) := ⟨aw_mem (List.mem_of_getElem? (i := 224) (by decide +kernel)) (by decide +kernel), aw_mem (List.mem_of_getElem? (i := 226) (by decide +kernel)) (by decide +kernel), aw_mem (List.mem_of_getElem? (i := 5) (by decide +kernel)) (by decide +kernel), aw_mem (List.mem_of_getElem? (i := 30) (by decide +kernel)) (by decide +kernel), aw_mem (List.mem_of_getElem? (i := 227) (by decide +kernel)) (by decide +kernel)⟩
theorem md_TE_close : MD y_TE_close 5 := by decide +kernel
theorem vw_TE_93 : VW R_TE 93 R_TE y_TE_takeRectangle b_TE_takeRectangle 9 (none) := ⟨aw_mem (List.mem_of_getElem? (i := 203) (by decide +kernel)) (by decide +kernel), aw_mem (List.mem_of_getElem? (i := 205) (by decide +kernel)) (by decide +kernel), aw_mem (List.mem_of_getElem? (i := 3) (by decide +kernel)) (by decide +kernel), aw_mem (List.mem_of_getElem? (i := 30) (by decide +kernel)) (by decide +kernel), aw_mem (List.mem_of_getElem? (i := 206) (by decide +kernel)) (by decide +kernel)⟩
theorem md_TE_takeRectangle : MD y_TE_takeRectangle 3 := by decide +kernel
theorem vw_TE_120 : VW R_TE 120 R_TE y_TE_openAsCopied b_TE_openAsCopied 7 (some .int) := ⟨aw_mem (List.mem_of_getElem? (i := 236) (by decide +kernel)) (by decide +kernel), aw_mem (List.mem_of_getElem? (i := 238) (by decide +kernel)) (by decide +kernel), aw_mem (List.mem_of_getElem? (i := 8) (by decide +kernel)) (by decide +kernel), aw_mem (List.mem_of_getElem? (i := 30) (by decide +kernel)) (by decide +kernel), aw_mem (List.mem_of_getElem? (i := 239) (by decide +kernel)) (by decide +kernel)⟩
theorem md_TE_openAsCopied : MD y_TE_openAsCopied 5 := by decide +kernel
theorem vw_TE_117 : VW R_TE 117 R_TE y_TE_takeCopyOrRun b_TE_takeCopyOrRun 10 (none) := ⟨aw_mem (List.mem_of_getElem? (i := 232) (by decide +kernel)) (by decide +kernel), aw_mem (List.mem_of_getElem? (i := 234) (by decide +kernel)) (by decide +kernel), aw_mem (List.mem_of_getElem? (i := 7) (by decide +kernel)) (by decide +kernel), aw_mem (List.mem_of_getElem? (i := 30) (by decide +kernel)) (by decide +kernel), aw_mem (List.mem_of_getElem? (i := 235) (by decide +kernel)) (by decide +kernel)⟩
theorem md_TE_takeCopyOrRun : MD y_TE_takeCopyOrRun 3 := by decide +kernel
theorem vw_TE_35 : VW R_TE 35 R_TE y_TE_groundOf b_TE_groundOf 5 (some .int) := ⟨aw_mem (List.mem_of_getElem? (i := 176) (by decide +kernel)) (by decide +kernel), aw_mem (List.mem_of_getElem? (i := 177) (by decide +kernel)) (by decide +kernel), aw_mem (List.mem_of_getElem? (i := 178) (by decide +kernel)) (by decide +kernel), aw_mem (List.mem_of_getElem? (i := 30) (by decide +kernel)) (by decide +kernel), aw_mem (List.mem_of_getElem? (i := 179) (by decide +kernel)) (by decide +kernel)⟩
theorem md_TE_groundOf : MD y_TE_groundOf 1 := by decide +kernel
theorem vw_TE_39 : VW R_TE 39 R_TE y_TE_openAllBut b_TE_openAllBut 4 (none) := ⟨aw_mem (List.mem_of_getElem? (i := 183) (by decide +kernel)) (by decide +kernel), aw_mem (List.mem_of_getElem? (i := 185) (by decide +kernel)) (by decide +kernel), aw_mem (List.mem_of_getElem? (i := 0) (by decide +kernel)) (by decide +kernel), aw_mem (List.mem_of_getElem? (i := 30) (by decide +kernel)) (by decide +kernel), aw_mem (List.mem_of_getElem? (i := 186) (by decide +kernel)) (by decide +kernel)⟩
theorem md_TE_openAllBut : MD y_TE_openAllBut 2 := by decide +kernel
theorem vw_TE_43 : VW R_TE 43 R_TE y_TE_findRectangles b_TE_findRectangles 4 (none) := ⟨aw_mem (List.mem_of_getElem? (i := 191) (by decide +kernel)) (by decide +kernel), aw_mem (List.mem_of_getElem? (i := 193) (by decide +kernel)) (by decide +kernel), aw_mem (List.mem_of_getElem? (i := 1) (by decide +kernel)) (by decide +kernel), aw_mem (List.mem_of_getElem? (i := 30) (by decide +kernel)) (by decide +kernel), aw_mem (List.mem_of_getElem? (i := 194) (by decide +kernel)) (by decide +kernel)⟩
theorem md_TE_findRectangles : MD y_TE_findRectangles 1 := by decide +kernel
theorem vw_TE_47 : VW R_TE 47 R_TE y_TE_findCopiesAndRuns b_TE_findCopiesAndRuns 4 (none) := ⟨aw_mem (List.mem_of_getElem? (i := 228) (by decide +kernel)) (by decide +kernel), aw_mem (List.mem_of_getElem? (i := 230) (by decide +kernel)) (by decide +kernel), aw_mem (List.mem_of_getElem? (i := 6) (by decide +kernel)) (by decide +kernel), aw_mem (List.mem_of_getElem? (i := 30) (by decide +kernel)) (by decide +kernel), aw_mem (List.mem_of_getElem? (i := 231) (by decide +kernel)) (by decide +kernel)⟩
theorem md_TE_findCopiesAndRuns : MD y_TE_findCopiesAndRuns 1 := by decide +kernel
theorem kn_TE_50 : Cond.fieldLinkNest R_TE 50 R_PL "byteLength" "I" R_DF ∈ lw_tbl := (List.mem_of_getElem? (i := 101) (by decide +kernel))
theorem vw_TE_59 : VW R_TE 59 R_BR y_BR_drop b_BR_drop 1 (none) := ⟨aw_mem (List.mem_of_getElem? (i := 240) (by decide +kernel)) (by decide +kernel), aw_mem (List.mem_of_getElem? (i := 241) (by decide +kernel)) (by decide +kernel), aw_mem (List.mem_of_getElem? (i := 242) (by decide +kernel)) (by decide +kernel), aw_mem (List.mem_of_getElem? (i := 32) (by decide +kernel)) (by decide +kernel), aw_mem (List.mem_of_getElem? (i := 243) (by decide +kernel)) (by decide +kernel)⟩
theorem md_BR_drop : MD y_BR_drop 0 := by decide +kernel
theorem vw_TE_69 : VW R_TE 69 R_PL y_PL_writeTo b_PL_writeTo 6 (none) := ⟨aw_mem (List.mem_of_getElem? (i := 251) (by decide +kernel)) (by decide +kernel), aw_mem (List.mem_of_getElem? (i := 252) (by decide +kernel)) (by decide +kernel), aw_mem (List.mem_of_getElem? (i := 253) (by decide +kernel)) (by decide +kernel), aw_mem (List.mem_of_getElem? (i := 31) (by decide +kernel)) (by decide +kernel), aw_mem (List.mem_of_getElem? (i := 254) (by decide +kernel)) (by decide +kernel)⟩
theorem md_PL_writeTo : MD y_PL_writeTo 1 := by decide +kernel
theorem sw_TE_62 : SW R_TE 62 y_TE_writePlain b_TE_writePlain 3 (none) := ⟨aw_mem (List.mem_of_getElem? (i := 244) (by decide +kernel)) (by decide +kernel), aw_mem (List.mem_of_getElem? (i := 245) (by decide +kernel)) (by decide +kernel), aw_mem (List.mem_of_getElem? (i := 30) (by decide +kernel)) (by decide +kernel), aw_mem (List.mem_of_getElem? (i := 246) (by decide +kernel)) (by decide +kernel)⟩
theorem md_TE_writePlain : MD y_TE_writePlain 2 := by decide +kernel
theorem d_TE_tell_0 : decode b_TE_tell 0 = .ok (.aload_n 0, 1) := by decide +kernel
theorem d_TE_tell_1 : decode b_TE_tell 1 = .ok (.aload_n 1, 1) := by decide +kernel
theorem d_TE_tell_2 : decode b_TE_tell 2 = .ok (.invokevirtual 35, 3) := by decide +kernel
theorem d_TE_tell_5 : decode b_TE_tell 5 = .ok (.istore_n 3, 1) := by decide +kernel
theorem d_TE_tell_6 : decode b_TE_tell 6 = .ok (.aload_n 0, 1) := by decide +kernel
theorem d_TE_tell_7 : decode b_TE_tell 7 = .ok (.iload_n 3, 1) := by decide +kernel
theorem d_TE_tell_8 : decode b_TE_tell 8 = .ok (.aload_n 1, 1) := by decide +kernel
theorem d_TE_tell_9 : decode b_TE_tell 9 = .ok (.invokevirtual 39, 3) := by decide +kernel
theorem d_TE_tell_12 : decode b_TE_tell 12 = .ok (.aload_n 0, 1) := by decide +kernel
theorem d_TE_tell_13 : decode b_TE_tell 13 = .ok (.getfield 24, 3) := by decide +kernel
theorem d_TE_tell_16 : decode b_TE_tell 16 = .ok (.invokevirtual 28, 3) := by decide +kernel
theorem d_TE_tell_19 : decode b_TE_tell 19 = .ok (.aload_n 0, 1) := by decide +kernel
theorem d_TE_tell_20 : decode b_TE_tell 20 = .ok (.aload_n 1, 1) := by decide +kernel
theorem d_TE_tell_21 : decode b_TE_tell 21 = .ok (.invokevirtual 43, 3) := by decide +kernel
theorem d_TE_tell_24 : decode b_TE_tell 24 = .ok (.aload_n 0, 1) := by decide +kernel
theorem d_TE_tell_25 : decode b_TE_tell 25 = .ok (.aload_n 1, 1) := by decide +kernel
theorem d_TE_tell_26 : decode b_TE_tell 26 = .ok (.invokevirtual 47, 3) := by decide +kernel
theorem d_TE_tell_29 : decode b_TE_tell 29 = .ok (.aload_n 0, 1) := by decide +kernel
theorem d_TE_tell_30 : decode b_TE_tell 30 = .ok (.iconst 3, 1) := by decide +kernel
theorem d_TE_tell_31 : decode b_TE_tell 31 = .ok (.aload_n 0, 1) := by decide +kernel
theorem d_TE_tell_32 : decode b_TE_tell 32 = .ok (.getfield 24, 3) := by decide +kernel
theorem d_TE_tell_35 : decode b_TE_tell 35 = .ok (.getfield 50, 3) := by decide +kernel
theorem d_TE_tell_38 : decode b_TE_tell 38 = .ok (.iadd, 1) := by decide +kernel
theorem d_TE_tell_39 : decode b_TE_tell 39 = .ok (.iconst 1, 1) := by decide +kernel
theorem d_TE_tell_40 : decode b_TE_tell 40 = .ok (.aload_n 1, 1) := by decide +kernel
theorem d_TE_tell_41 : decode b_TE_tell 41 = .ok (.getfield 54, 3) := by decide +kernel
theorem d_TE_tell_44 : decode b_TE_tell 44 = .ok (.arraylength, 1) := by decide +kernel
theorem d_TE_tell_45 : decode b_TE_tell 45 = .ok (.iadd, 1) := by decide +kernel
theorem d_TE_tell_46 : decode b_TE_tell 46 = .ok (.if_icmp .le 7, 3) := by decide +kernel
theorem d_TE_tell_49 : decode b_TE_tell 49 = .ok (.iconst 1, 1) := by decide +kernel
theorem d_TE_tell_50 : decode b_TE_tell 50 = .ok (.goto 4, 3) := by decide +kernel
theorem d_TE_tell_53 : decode b_TE_tell 53 = .ok (.iconst 0, 1) := by decide +kernel
theorem d_TE_tell_54 : decode b_TE_tell 54 = .ok (.putfield 31, 3) := by decide +kernel
theorem d_TE_tell_57 : decode b_TE_tell 57 = .ok (.aload_n 2, 1) := by decide +kernel
theorem d_TE_tell_58 : decode b_TE_tell 58 = .ok (.invokevirtual 59, 3) := by decide +kernel
theorem d_TE_tell_61 : decode b_TE_tell 61 = .ok (.aload_n 0, 1) := by decide +kernel
theorem d_TE_tell_62 : decode b_TE_tell 62 = .ok (.getfield 31, 3) := by decide +kernel
theorem d_TE_tell_65 : decode b_TE_tell 65 = .ok (.ifCond .eq 11, 3) := by decide +kernel
theorem d_TE_tell_68 : decode b_TE_tell 68 = .ok (.aload_n 1, 1) := by decide +kernel
theorem d_TE_tell_69 : decode b_TE_tell 69 = .ok (.aload_n 2, 1) := by decide +kernel
theorem d_TE_tell_70 : decode b_TE_tell 70 = .ok (.invokestatic 62, 3) := by decide +kernel
theorem d_TE_tell_73 : decode b_TE_tell 73 = .ok (.goto 26, 3) := by decide +kernel
theorem d_TE_tell_76 : decode b_TE_tell 76 = .ok (.aload_n 2, 1) := by decide +kernel
theorem d_TE_tell_77 : decode b_TE_tell 77 = .ok (.iconst 1, 1) := by decide +kernel
theorem d_TE_tell_78 : decode b_TE_tell 78 = .ok (.invokevirtual 66, 3) := by decide +kernel
theorem d_TE_tell_81 : decode b_TE_tell 81 = .ok (.aload_n 2, 1) := by decide +kernel
theorem d_TE_tell_82 : decode b_TE_tell 82 = .ok (.iload_n 3, 1) := by decide +kernel
theorem d_TE_tell_83 : decode b_TE_tell 83 = .ok (.invokevirtual 66, 3) := by decide +kernel
theorem d_TE_tell_86 : decode b_TE_tell 86 = .ok (.aload_n 0, 1) := by decide +kernel
theorem d_TE_tell_87 : decode b_TE_tell 87 = .ok (.getfield 24, 3) := by decide +kernel
theorem d_TE_tell_90 : decode b_TE_tell 90 = .ok (.aload_n 2, 1) := by decide +kernel
theorem d_TE_tell_91 : decode b_TE_tell 91 = .ok (.invokevirtual 69, 3) := by decide +kernel
theorem d_TE_tell_94 : decode b_TE_tell 94 = .ok (.aload_n 2, 1) := by decide +kernel
theorem d_TE_tell_95 : decode b_TE_tell 95 = .ok (.iconst 0, 1) := by decide +kernel
theorem d_TE_tell_96 : decode b_TE_tell 96 = .ok (.invokevirtual 66, 3) := by decide +kernel
theorem d_TE_tell_99 : decode b_TE_tell 99 = .ok (.return_, 1) := by decide +kernel
theorem d_TE_findRectangles_0 : decode b_TE_findRectangles 0 = .ok (.iconst 0, 1) := by decide +kernel
theorem d_TE_findRectangles_1 : decode b_TE_findRectangles 1 = .ok (.istore_n 2, 1) := by decide +kernel
theorem d_TE_findRectangles_2 : decode b_TE_findRectangles 2 = .ok (.iload_n 2, 1) := by decide +kernel
theorem d_TE_findRectangles_3 : decode b_TE_findRectangles 3 = .ok (.aload_n 1, 1) := by decide +kernel
theorem d_TE_findRectangles_4 : decode b_TE_findRectangles 4 = .ok (.getfield 86, 3) := by decide +kernel
theorem d_TE_findRectangles_7 : decode b_TE_findRectangles 7 = .ok (.if_icmp .ge 42, 3) := by decide +kernel
theorem d_TE_findRectangles_10 : decode b_TE_findRectangles 10 = .ok (.iconst 0, 1) := by decide +kernel
theorem d_TE_findRectangles_11 : decode b_TE_findRectangles 11 = .ok (.istore_n 3, 1) := by decide +kernel
theorem d_TE_findRectangles_12 : decode b_TE_findRectangles 12 = .ok (.iload_n 3, 1) := by decide +kernel
theorem d_TE_findRectangles_13 : decode b_TE_findRectangles 13 = .ok (.aload_n 1, 1) := by decide +kernel
theorem d_TE_findRectangles_14 : decode b_TE_findRectangles 14 = .ok (.getfield 79, 3) := by decide +kernel
theorem d_TE_findRectangles_17 : decode b_TE_findRectangles 17 = .ok (.if_icmp .ge 26, 3) := by decide +kernel
theorem d_TE_findRectangles_20 : decode b_TE_findRectangles 20 = .ok (.aload_n 0, 1) := by decide +kernel
theorem d_TE_findRectangles_21 : decode b_TE_findRectangles 21 = .ok (.aload_n 1, 1) := by decide +kernel
theorem d_TE_findRectangles_22 : decode b_TE_findRectangles 22 = .ok (.iload_n 3, 1) := by decide +kernel
theorem d_TE_findRectangles_23 : decode b_TE_findRectangles 23 = .ok (.iload_n 2, 1) := by decide +kernel
theorem d_TE_findRectangles_24 : decode b_TE_findRectangles 24 = .ok (.invokevirtual 89, 3) := by decide +kernel
theorem d_TE_findRectangles_27 : decode b_TE_findRectangles 27 = .ok (.ifCond .eq 10, 3) := by decide +kernel
theorem d_TE_findRectangles_30 : decode b_TE_findRectangles 30 = .ok (.aload_n 0, 1) := by decide +kernel
theorem d_TE_findRectangles_31 : decode b_TE_findRectangles 31 = .ok (.aload_n 1, 1) := by decide +kernel
theorem d_TE_findRectangles_32 : decode b_TE_findRectangles 32 = .ok (.iload_n 3, 1) := by decide +kernel
theorem d_TE_findRectangles_33 : decode b_TE_findRectangles 33 = .ok (.iload_n 2, 1) := by decide +kernel
theorem d_TE_findRectangles_34 : decode b_TE_findRectangles 34 = .ok (.invokevirtual 93, 3) := by decide +kernel
theorem d_TE_findRectangles_37 : decode b_TE_findRectangles 37 = .ok (.iinc 3 1, 3) := by decide +kernel
theorem d_TE_findRectangles_40 : decode b_TE_findRectangles 40 = .ok (.goto (-28), 3) := by decide +kernel
theorem d_TE_findRectangles_43 : decode b_TE_findRectangles 43 = .ok (.iinc 2 1, 3) := by decide +kernel
theorem d_TE_findRectangles_46 : decode b_TE_findRectangles 46 = .ok (.goto (-44), 3) := by decide +kernel
theorem d_TE_findRectangles_49 : decode b_TE_findRectangles 49 = .ok (.return_, 1) := by decide +kernel
theorem d_TE_takeRectangle_0 : decode b_TE_takeRectangle 0 = .ok (.aload_n 1, 1) := by decide +kernel
theorem d_TE_takeRectangle_1 : decode b_TE_takeRectangle 1 = .ok (.iload_n 2, 1) := by decide +kernel
theorem d_TE_takeRectangle_2 : decode b_TE_takeRectangle 2 = .ok (.iload_n 3, 1) := by decide +kernel
theorem d_TE_takeRectangle_3 : decode b_TE_takeRectangle 3 = .ok (.invokevirtual 97, 3) := by decide +kernel
theorem d_TE_takeRectangle_6 : decode b_TE_takeRectangle 6 = .ok (.istore 4, 2) := by decide +kernel
theorem d_TE_takeRectangle_8 : decode b_TE_takeRectangle 8 = .ok (.iconst 0, 1) := by decide +kernel
theorem d_TE_takeRectangle_9 : decode b_TE_takeRectangle 9 = .ok (.istore 5, 2) := by decide +kernel
theorem d_TE_takeRectangle_11 : decode b_TE_takeRectangle 11 = .ok (.iconst 0, 1) := by decide +kernel
theorem d_TE_takeRectangle_12 : decode b_TE_takeRectangle 12 = .ok (.istore 6, 2) := by decide +kernel
theorem d_TE_takeRectangle_14 : decode b_TE_takeRectangle 14 = .ok (.aload_n 1, 1) := by decide +kernel
theorem d_TE_takeRectangle_15 : decode b_TE_takeRectangle 15 = .ok (.getfield 79, 3) := by decide +kernel
theorem d_TE_takeRectangle_18 : decode b_TE_takeRectangle 18 = .ok (.iload_n 2, 1) := by decide +kernel
theorem d_TE_takeRectangle_19 : decode b_TE_takeRectangle 19 = .ok (.isub, 1) := by decide +kernel
theorem d_TE_takeRectangle_20 : decode b_TE_takeRectangle 20 = .ok (.istore 7, 2) := by decide +kernel
theorem d_TE_takeRectangle_22 : decode b_TE_takeRectangle 22 = .ok (.iconst 1, 1) := by decide +kernel
theorem d_TE_takeRectangle_23 : decode b_TE_takeRectangle 23 = .ok (.istore 8, 2) := by decide +kernel
theorem d_TE_takeRectangle_25 : decode b_TE_takeRectangle 25 = .ok (.iload 8, 2) := by decide +kernel
theorem d_TE_takeRectangle_27 : decode b_TE_takeRectangle 27 = .ok (.aload_n 1, 1) := by decide +kernel
theorem d_TE_takeRectangle_28 : decode b_TE_takeRectangle 28 = .ok (.getfield 86, 3) := by decide +kernel
theorem d_TE_takeRectangle_31 : decode b_TE_takeRectangle 31 = .ok (.iload_n 3, 1) := by decide +kernel
theorem d_TE_takeRectangle_32 : decode b_TE_takeRectangle 32 = .ok (.isub, 1) := by decide +kernel
theorem d_TE_takeRectangle_33 : decode b_TE_takeRectangle 33 = .ok (.if_icmp .gt 56, 3) := by decide +kernel
theorem d_TE_takeRectangle_36 : decode b_TE_takeRectangle 36 = .ok (.iload 7, 2) := by decide +kernel
theorem d_TE_takeRectangle_38 : decode b_TE_takeRectangle 38 = .ok (.ifCond .le 51, 3) := by decide +kernel
theorem d_TE_takeRectangle_41 : decode b_TE_takeRectangle 41 = .ok (.iload 7, 2) := by decide +kernel
theorem d_TE_takeRectangle_43 : decode b_TE_takeRectangle 43 = .ok (.aload_n 0, 1) := by decide +kernel
theorem d_TE_takeRectangle_44 : decode b_TE_takeRectangle 44 = .ok (.aload_n 1, 1) := by decide +kernel
theorem d_TE_takeRectangle_45 : decode b_TE_takeRectangle 45 = .ok (.iload_n 2, 1) := by decide +kernel
theorem d_TE_takeRectangle_46 : decode b_TE_takeRectangle 46 = .ok (.iload_n 3, 1) := by decide +kernel
theorem d_TE_takeRectangle_47 : decode b_TE_takeRectangle 47 = .ok (.iload 8, 2) := by decide +kernel
theorem d_TE_takeRectangle_49 : decode b_TE_takeRectangle 49 = .ok (.iadd, 1) := by decide +kernel
theorem d_TE_takeRectangle_50 : decode b_TE_takeRectangle 50 = .ok (.iconst 1, 1) := by decide +kernel
theorem d_TE_takeRectangle_51 : decode b_TE_takeRectangle 51 = .ok (.isub, 1) := by decide +kernel
theorem d_TE_takeRectangle_52 : decode b_TE_takeRectangle 52 = .ok (.iload 4, 2) := by decide +kernel
theorem d_TE_takeRectangle_54 : decode b_TE_takeRectangle 54 = .ok (.invokevirtual 101, 3) := by decide +kernel
theorem d_TE_takeRectangle_57 : decode b_TE_takeRectangle 57 = .ok (.invokestatic 105, 3) := by decide +kernel
theorem d_TE_takeRectangle_60 : decode b_TE_takeRectangle 60 = .ok (.istore 7, 2) := by decide +kernel
theorem d_TE_takeRectangle_62 : decode b_TE_takeRectangle 62 = .ok (.iload 7, 2) := by decide +kernel
theorem d_TE_takeRectangle_64 : decode b_TE_takeRectangle 64 = .ok (.iload 8, 2) := by decide +kernel
theorem d_TE_takeRectangle_66 : decode b_TE_takeRectangle 66 = .ok (.imul, 1) := by decide +kernel
theorem d_TE_takeRectangle_67 : decode b_TE_takeRectangle 67 = .ok (.iload 5, 2) := by decide +kernel
theorem d_TE_takeRectangle_69 : decode b_TE_takeRectangle 69 = .ok (.iload 6, 2) := by decide +kernel
theorem d_TE_takeRectangle_71 : decode b_TE_takeRectangle 71 = .ok (.imul, 1) := by decide +kernel
theorem d_TE_takeRectangle_72 : decode b_TE_takeRectangle 72 = .ok (.if_icmp .le 11, 3) := by decide +kernel
theorem d_TE_takeRectangle_75 : decode b_TE_takeRectangle 75 = .ok (.iload 7, 2) := by decide +kernel
theorem d_TE_takeRectangle_77 : decode b_TE_takeRectangle 77 = .ok (.istore 5, 2) := by decide +kernel
theorem d_TE_takeRectangle_79 : decode b_TE_takeRectangle 79 = .ok (.iload 8, 2) := by decide +kernel
theorem d_TE_takeRectangle_81 : decode b_TE_takeRectangle 81 = .ok (.istore 6, 2) := by decide +kernel
theorem d_TE_takeRectangle_83 : decode b_TE_takeRectangle 83 = .ok (.iinc 8 1, 3) := by decide +kernel
theorem d_TE_takeRectangle_86 : decode b_TE_takeRectangle 86 = .ok (.goto (-61), 3) := by decide +kernel
theorem d_TE_takeRectangle_89 : decode b_TE_takeRectangle 89 = .ok (.iload 5, 2) := by decide +kernel
theorem d_TE_takeRectangle_91 : decode b_TE_takeRectangle 91 = .ok (.iload 6, 2) := by decide +kernel
theorem d_TE_takeRectangle_93 : decode b_TE_takeRectangle 93 = .ok (.imul, 1) := by decide +kernel
theorem d_TE_takeRectangle_94 : decode b_TE_takeRectangle 94 = .ok (.bipush 6, 2) := by decide +kernel
theorem d_TE_takeRectangle_96 : decode b_TE_takeRectangle 96 = .ok (.if_icmp .lt 30, 3) := by decide +kernel
theorem d_TE_takeRectangle_99 : decode b_TE_takeRectangle 99 = .ok (.aload_n 0, 1) := by decide +kernel
theorem d_TE_takeRectangle_100 : decode b_TE_takeRectangle 100 = .ok (.getfield 24, 3) := by decide +kernel
theorem d_TE_takeRectangle_103 : decode b_TE_takeRectangle 103 = .ok (.iconst 1, 1) := by decide +kernel
theorem d_TE_takeRectangle_104 : decode b_TE_takeRectangle 104 = .ok (.iload_n 2, 1) := by decide +kernel
theorem d_TE_takeRectangle_105 : decode b_TE_takeRectangle 105 = .ok (.iload_n 3, 1) := by decide +kernel
theorem d_TE_takeRectangle_106 : decode b_TE_takeRectangle 106 = .ok (.iload 5, 2) := by decide +kernel
theorem d_TE_takeRectangle_108 : decode b_TE_takeRectangle 108 = .ok (.iload 6, 2) := by decide +kernel
theorem d_TE_takeRectangle_110 : decode b_TE_takeRectangle 110 = .ok (.iload 4, 2) := by decide +kernel
theorem d_TE_takeRectangle_112 : decode b_TE_takeRectangle 112 = .ok (.invokevirtual 110, 3) := by decide +kernel
theorem d_TE_takeRectangle_115 : decode b_TE_takeRectangle 115 = .ok (.aload_n 0, 1) := by decide +kernel
theorem d_TE_takeRectangle_116 : decode b_TE_takeRectangle 116 = .ok (.aload_n 1, 1) := by decide +kernel
theorem d_TE_takeRectangle_117 : decode b_TE_takeRectangle 117 = .ok (.iload_n 2, 1) := by decide +kernel
theorem d_TE_takeRectangle_118 : decode b_TE_takeRectangle 118 = .ok (.iload_n 3, 1) := by decide +kernel
theorem d_TE_takeRectangle_119 : decode b_TE_takeRectangle 119 = .ok (.iload 5, 2) := by decide +kernel
theorem d_TE_takeRectangle_121 : decode b_TE_takeRectangle 121 = .ok (.iload 6, 2) := by decide +kernel
theorem d_TE_takeRectangle_123 : decode b_TE_takeRectangle 123 = .ok (.invokevirtual 113, 3) := by decide +kernel
theorem d_TE_takeRectangle_126 : decode b_TE_takeRectangle 126 = .ok (.return_, 1) := by decide +kernel
theorem d_TE_findCopiesAndRuns_0 : decode b_TE_findCopiesAndRuns 0 = .ok (.iconst 0, 1) := by decide +kernel
theorem d_TE_findCopiesAndRuns_1 : decode b_TE_findCopiesAndRuns 1 = .ok (.istore_n 2, 1) := by decide +kernel
theorem d_TE_findCopiesAndRuns_2 : decode b_TE_findCopiesAndRuns 2 = .ok (.iload_n 2, 1) := by decide +kernel
theorem d_TE_findCopiesAndRuns_3 : decode b_TE_findCopiesAndRuns 3 = .ok (.aload_n 1, 1) := by decide +kernel
theorem d_TE_findCopiesAndRuns_4 : decode b_TE_findCopiesAndRuns 4 = .ok (.getfield 86, 3) := by decide +kernel
theorem d_TE_findCopiesAndRuns_7 : decode b_TE_findCopiesAndRuns 7 = .ok (.if_icmp .ge 42, 3) := by decide +kernel
theorem d_TE_findCopiesAndRuns_10 : decode b_TE_findCopiesAndRuns 10 = .ok (.iconst 0, 1) := by decide +kernel
theorem d_TE_findCopiesAndRuns_11 : decode b_TE_findCopiesAndRuns 11 = .ok (.istore_n 3, 1) := by decide +kernel
theorem d_TE_findCopiesAndRuns_12 : decode b_TE_findCopiesAndRuns 12 = .ok (.iload_n 3, 1) := by decide +kernel
theorem d_TE_findCopiesAndRuns_13 : decode b_TE_findCopiesAndRuns 13 = .ok (.aload_n 1, 1) := by decide +kernel
theorem d_TE_findCopiesAndRuns_14 : decode b_TE_findCopiesAndRuns 14 = .ok (.getfield 79, 3) := by decide +kernel
theorem d_TE_findCopiesAndRuns_17 : decode b_TE_findCopiesAndRuns 17 = .ok (.if_icmp .ge 26, 3) := by decide +kernel
theorem d_TE_findCopiesAndRuns_20 : decode b_TE_findCopiesAndRuns 20 = .ok (.aload_n 0, 1) := by decide +kernel
theorem d_TE_findCopiesAndRuns_21 : decode b_TE_findCopiesAndRuns 21 = .ok (.aload_n 1, 1) := by decide +kernel
theorem d_TE_findCopiesAndRuns_22 : decode b_TE_findCopiesAndRuns 22 = .ok (.iload_n 3, 1) := by decide +kernel
theorem d_TE_findCopiesAndRuns_23 : decode b_TE_findCopiesAndRuns 23 = .ok (.iload_n 2, 1) := by decide +kernel
theorem d_TE_findCopiesAndRuns_24 : decode b_TE_findCopiesAndRuns 24 = .ok (.invokevirtual 89, 3) := by decide +kernel
theorem d_TE_findCopiesAndRuns_27 : decode b_TE_findCopiesAndRuns 27 = .ok (.ifCond .eq 10, 3) := by decide +kernel
theorem d_TE_findCopiesAndRuns_30 : decode b_TE_findCopiesAndRuns 30 = .ok (.aload_n 0, 1) := by decide +kernel
theorem d_TE_findCopiesAndRuns_31 : decode b_TE_findCopiesAndRuns 31 = .ok (.aload_n 1, 1) := by decide +kernel
theorem d_TE_findCopiesAndRuns_32 : decode b_TE_findCopiesAndRuns 32 = .ok (.iload_n 3, 1) := by decide +kernel
theorem d_TE_findCopiesAndRuns_33 : decode b_TE_findCopiesAndRuns 33 = .ok (.iload_n 2, 1) := by decide +kernel
theorem d_TE_findCopiesAndRuns_34 : decode b_TE_findCopiesAndRuns 34 = .ok (.invokevirtual 117, 3) := by decide +kernel
theorem d_TE_findCopiesAndRuns_37 : decode b_TE_findCopiesAndRuns 37 = .ok (.iinc 3 1, 3) := by decide +kernel
theorem d_TE_findCopiesAndRuns_40 : decode b_TE_findCopiesAndRuns 40 = .ok (.goto (-28), 3) := by decide +kernel
theorem d_TE_findCopiesAndRuns_43 : decode b_TE_findCopiesAndRuns 43 = .ok (.iinc 2 1, 3) := by decide +kernel
theorem d_TE_findCopiesAndRuns_46 : decode b_TE_findCopiesAndRuns 46 = .ok (.goto (-44), 3) := by decide +kernel
theorem d_TE_findCopiesAndRuns_49 : decode b_TE_findCopiesAndRuns 49 = .ok (.return_, 1) := by decide +kernel
theorem d_TE_takeCopyOrRun_0 : decode b_TE_takeCopyOrRun 0 = .ok (.iconst 0, 1) := by decide +kernel
theorem d_TE_takeCopyOrRun_1 : decode b_TE_takeCopyOrRun 1 = .ok (.istore 4, 2) := by decide +kernel
theorem d_TE_takeCopyOrRun_3 : decode b_TE_takeCopyOrRun 3 = .ok (.iconst 0, 1) := by decide +kernel
theorem d_TE_takeCopyOrRun_4 : decode b_TE_takeCopyOrRun 4 = .ok (.istore 5, 2) := by decide +kernel
theorem d_TE_takeCopyOrRun_6 : decode b_TE_takeCopyOrRun 6 = .ok (.iconst 0, 1) := by decide +kernel
theorem d_TE_takeCopyOrRun_7 : decode b_TE_takeCopyOrRun 7 = .ok (.istore 6, 2) := by decide +kernel
theorem d_TE_takeCopyOrRun_9 : decode b_TE_takeCopyOrRun 9 = .ok (.iconst 1, 1) := by decide +kernel
theorem d_TE_takeCopyOrRun_10 : decode b_TE_takeCopyOrRun 10 = .ok (.istore 7, 2) := by decide +kernel
theorem d_TE_takeCopyOrRun_12 : decode b_TE_takeCopyOrRun 12 = .ok (.iload 7, 2) := by decide +kernel
theorem d_TE_takeCopyOrRun_14 : decode b_TE_takeCopyOrRun 14 = .ok (.iconst 4, 1) := by decide +kernel
theorem d_TE_takeCopyOrRun_15 : decode b_TE_takeCopyOrRun 15 = .ok (.if_icmp .gt 57, 3) := by decide +kernel
theorem d_TE_takeCopyOrRun_18 : decode b_TE_takeCopyOrRun 18 = .ok (.bipush (-4), 2) := by decide +kernel
theorem d_TE_takeCopyOrRun_20 : decode b_TE_takeCopyOrRun 20 = .ok (.istore 8, 2) := by decide +kernel
theorem d_TE_takeCopyOrRun_22 : decode b_TE_takeCopyOrRun 22 = .ok (.iload 8, 2) := by decide +kernel
theorem d_TE_takeCopyOrRun_24 : decode b_TE_takeCopyOrRun 24 = .ok (.iconst 4, 1) := by decide +kernel
theorem d_TE_takeCopyOrRun_25 : decode b_TE_takeCopyOrRun 25 = .ok (.if_icmp .gt 41, 3) := by decide +kernel
theorem d_TE_takeCopyOrRun_28 : decode b_TE_takeCopyOrRun 28 = .ok (.aload_n 0, 1) := by decide +kernel
theorem d_TE_takeCopyOrRun_29 : decode b_TE_takeCopyOrRun 29 = .ok (.aload_n 1, 1) := by decide +kernel
theorem d_TE_takeCopyOrRun_30 : decode b_TE_takeCopyOrRun 30 = .ok (.iload_n 2, 1) := by decide +kernel
theorem d_TE_takeCopyOrRun_31 : decode b_TE_takeCopyOrRun 31 = .ok (.iload_n 3, 1) := by decide +kernel
theorem d_TE_takeCopyOrRun_32 : decode b_TE_takeCopyOrRun 32 = .ok (.iload 8, 2) := by decide +kernel
theorem d_TE_takeCopyOrRun_34 : decode b_TE_takeCopyOrRun 34 = .ok (.iload 7, 2) := by decide +kernel
theorem d_TE_takeCopyOrRun_36 : decode b_TE_takeCopyOrRun 36 = .ok (.invokevirtual 120, 3) := by decide +kernel
theorem d_TE_takeCopyOrRun_39 : decode b_TE_takeCopyOrRun 39 = .ok (.istore 9, 2) := by decide +kernel
theorem d_TE_takeCopyOrRun_41 : decode b_TE_takeCopyOrRun 41 = .ok (.iload 9, 2) := by decide +kernel
theorem d_TE_takeCopyOrRun_43 : decode b_TE_takeCopyOrRun 43 = .ok (.iload 4, 2) := by decide +kernel
theorem d_TE_takeCopyOrRun_45 : decode b_TE_takeCopyOrRun 45 = .ok (.if_icmp .le 15, 3) := by decide +kernel
theorem d_TE_takeCopyOrRun_48 : decode b_TE_takeCopyOrRun 48 = .ok (.iload 9, 2) := by decide +kernel
theorem d_TE_takeCopyOrRun_50 : decode b_TE_takeCopyOrRun 50 = .ok (.istore 4, 2) := by decide +kernel
theorem d_TE_takeCopyOrRun_52 : decode b_TE_takeCopyOrRun 52 = .ok (.iload 8, 2) := by decide +kernel
theorem d_TE_takeCopyOrRun_54 : decode b_TE_takeCopyOrRun 54 = .ok (.istore 5, 2) := by decide +kernel
theorem d_TE_takeCopyOrRun_56 : decode b_TE_takeCopyOrRun 56 = .ok (.iload 7, 2) := by decide +kernel
theorem d_TE_takeCopyOrRun_58 : decode b_TE_takeCopyOrRun 58 = .ok (.istore 6, 2) := by decide +kernel
theorem d_TE_takeCopyOrRun_60 : decode b_TE_takeCopyOrRun 60 = .ok (.iinc 8 1, 3) := by decide +kernel
theorem d_TE_takeCopyOrRun_63 : decode b_TE_takeCopyOrRun 63 = .ok (.goto (-41), 3) := by decide +kernel
theorem d_TE_takeCopyOrRun_66 : decode b_TE_takeCopyOrRun 66 = .ok (.iinc 7 1, 3) := by decide +kernel
theorem d_TE_takeCopyOrRun_69 : decode b_TE_takeCopyOrRun 69 = .ok (.goto (-57), 3) := by decide +kernel
theorem d_TE_takeCopyOrRun_72 : decode b_TE_takeCopyOrRun 72 = .ok (.aload_n 1, 1) := by decide +kernel
theorem d_TE_takeCopyOrRun_73 : decode b_TE_takeCopyOrRun 73 = .ok (.iload_n 2, 1) := by decide +kernel
theorem d_TE_takeCopyOrRun_74 : decode b_TE_takeCopyOrRun 74 = .ok (.iload_n 3, 1) := by decide +kernel
theorem d_TE_takeCopyOrRun_75 : decode b_TE_takeCopyOrRun 75 = .ok (.invokevirtual 97, 3) := by decide +kernel
theorem d_TE_takeCopyOrRun_78 : decode b_TE_takeCopyOrRun 78 = .ok (.istore 7, 2) := by decide +kernel
theorem d_TE_takeCopyOrRun_80 : decode b_TE_takeCopyOrRun 80 = .ok (.aload_n 0, 1) := by decide +kernel
theorem d_TE_takeCopyOrRun_81 : decode b_TE_takeCopyOrRun 81 = .ok (.aload_n 1, 1) := by decide +kernel
theorem d_TE_takeCopyOrRun_82 : decode b_TE_takeCopyOrRun 82 = .ok (.iload_n 2, 1) := by decide +kernel
theorem d_TE_takeCopyOrRun_83 : decode b_TE_takeCopyOrRun 83 = .ok (.iload_n 3, 1) := by decide +kernel
theorem d_TE_takeCopyOrRun_84 : decode b_TE_takeCopyOrRun 84 = .ok (.iload 7, 2) := by decide +kernel
theorem d_TE_takeCopyOrRun_86 : decode b_TE_takeCopyOrRun 86 = .ok (.invokevirtual 101, 3) := by decide +kernel
theorem d_TE_takeCopyOrRun_89 : decode b_TE_takeCopyOrRun 89 = .ok (.istore 8, 2) := by decide +kernel
theorem d_TE_takeCopyOrRun_91 : decode b_TE_takeCopyOrRun 91 = .ok (.iload 4, 2) := by decide +kernel
theorem d_TE_takeCopyOrRun_93 : decode b_TE_takeCopyOrRun 93 = .ok (.iconst 4, 1) := by decide +kernel
theorem d_TE_takeCopyOrRun_94 : decode b_TE_takeCopyOrRun 94 = .ok (.if_icmp .lt 39, 3) := by decide +kernel
theorem d_TE_takeCopyOrRun_97 : decode b_TE_takeCopyOrRun 97 = .ok (.iload 4, 2) := by decide +kernel
theorem d_TE_takeCopyOrRun_99 : decode b_TE_takeCopyOrRun 99 = .ok (.iload 8, 2) := by decide +kernel
theorem d_TE_takeCopyOrRun_101 : decode b_TE_takeCopyOrRun 101 = .ok (.if_icmp .le 32, 3) := by decide +kernel
theorem d_TE_takeCopyOrRun_104 : decode b_TE_takeCopyOrRun 104 = .ok (.aload_n 0, 1) := by decide +kernel
theorem d_TE_takeCopyOrRun_105 : decode b_TE_takeCopyOrRun 105 = .ok (.getfield 24, 3) := by decide +kernel
theorem d_TE_takeCopyOrRun_108 : decode b_TE_takeCopyOrRun 108 = .ok (.iconst 2, 1) := by decide +kernel
theorem d_TE_takeCopyOrRun_109 : decode b_TE_takeCopyOrRun 109 = .ok (.iload_n 2, 1) := by decide +kernel
theorem d_TE_takeCopyOrRun_110 : decode b_TE_takeCopyOrRun 110 = .ok (.iload_n 3, 1) := by decide +kernel
theorem d_TE_takeCopyOrRun_111 : decode b_TE_takeCopyOrRun 111 = .ok (.iload 4, 2) := by decide +kernel
theorem d_TE_takeCopyOrRun_113 : decode b_TE_takeCopyOrRun 113 = .ok (.iload 5, 2) := by decide +kernel
theorem d_TE_takeCopyOrRun_115 : decode b_TE_takeCopyOrRun 115 = .ok (.iload 6, 2) := by decide +kernel
theorem d_TE_takeCopyOrRun_117 : decode b_TE_takeCopyOrRun 117 = .ok (.invokevirtual 110, 3) := by decide +kernel
theorem d_TE_takeCopyOrRun_120 : decode b_TE_takeCopyOrRun 120 = .ok (.aload_n 0, 1) := by decide +kernel
theorem d_TE_takeCopyOrRun_121 : decode b_TE_takeCopyOrRun 121 = .ok (.aload_n 1, 1) := by decide +kernel
theorem d_TE_takeCopyOrRun_122 : decode b_TE_takeCopyOrRun 122 = .ok (.iload_n 2, 1) := by decide +kernel
theorem d_TE_takeCopyOrRun_123 : decode b_TE_takeCopyOrRun 123 = .ok (.iload_n 3, 1) := by decide +kernel
theorem d_TE_takeCopyOrRun_124 : decode b_TE_takeCopyOrRun 124 = .ok (.iload 4, 2) := by decide +kernel
theorem d_TE_takeCopyOrRun_126 : decode b_TE_takeCopyOrRun 126 = .ok (.iconst 1, 1) := by decide +kernel
theorem d_TE_takeCopyOrRun_127 : decode b_TE_takeCopyOrRun 127 = .ok (.invokevirtual 113, 3) := by decide +kernel
theorem d_TE_takeCopyOrRun_130 : decode b_TE_takeCopyOrRun 130 = .ok (.goto 28, 3) := by decide +kernel
theorem d_TE_takeCopyOrRun_133 : decode b_TE_takeCopyOrRun 133 = .ok (.aload_n 0, 1) := by decide +kernel
theorem d_TE_takeCopyOrRun_134 : decode b_TE_takeCopyOrRun 134 = .ok (.getfield 24, 3) := by decide +kernel
theorem d_TE_takeCopyOrRun_137 : decode b_TE_takeCopyOrRun 137 = .ok (.iconst 3, 1) := by decide +kernel
theorem d_TE_takeCopyOrRun_138 : decode b_TE_takeCopyOrRun 138 = .ok (.iload_n 2, 1) := by decide +kernel
theorem d_TE_takeCopyOrRun_139 : decode b_TE_takeCopyOrRun 139 = .ok (.iload_n 3, 1) := by decide +kernel
theorem d_TE_takeCopyOrRun_140 : decode b_TE_takeCopyOrRun 140 = .ok (.iload 8, 2) := by decide +kernel
theorem d_TE_takeCopyOrRun_142 : decode b_TE_takeCopyOrRun 142 = .ok (.iload 7, 2) := by decide +kernel
theorem d_TE_takeCopyOrRun_144 : decode b_TE_takeCopyOrRun 144 = .ok (.iconst (-1), 1) := by decide +kernel
theorem d_TE_takeCopyOrRun_145 : decode b_TE_takeCopyOrRun 145 = .ok (.invokevirtual 110, 3) := by decide +kernel
theorem d_TE_takeCopyOrRun_148 : decode b_TE_takeCopyOrRun 148 = .ok (.aload_n 0, 1) := by decide +kernel
theorem d_TE_takeCopyOrRun_149 : decode b_TE_takeCopyOrRun 149 = .ok (.aload_n 1, 1) := by decide +kernel
theorem d_TE_takeCopyOrRun_150 : decode b_TE_takeCopyOrRun 150 = .ok (.iload_n 2, 1) := by decide +kernel
theorem d_TE_takeCopyOrRun_151 : decode b_TE_takeCopyOrRun 151 = .ok (.iload_n 3, 1) := by decide +kernel
theorem d_TE_takeCopyOrRun_152 : decode b_TE_takeCopyOrRun 152 = .ok (.iload 8, 2) := by decide +kernel
theorem d_TE_takeCopyOrRun_154 : decode b_TE_takeCopyOrRun 154 = .ok (.iconst 1, 1) := by decide +kernel
theorem d_TE_takeCopyOrRun_155 : decode b_TE_takeCopyOrRun 155 = .ok (.invokevirtual 113, 3) := by decide +kernel
theorem d_TE_takeCopyOrRun_158 : decode b_TE_takeCopyOrRun 158 = .ok (.return_, 1) := by decide +kernel
