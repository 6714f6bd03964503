theorem k_BR_3 : Cond.methodLink R_BR 3 objectInit ∈ AW := aw_mem (List.mem_of_getElem? (i := 130) (by decide +kernel)) (by decide +kernel)
theorem k_BR_9 : Cond.fieldLink R_BR 9 R_BR "bytes" "[I" ∈ AW := aw_mem (List.mem_of_getElem? (i := 131) (by decide +kernel)) (by decide +kernel)
theorem k_BR_15 : Cond.fieldLink R_BR 15 R_BR "count" "I" ∈ AW := aw_mem (List.mem_of_getElem? (i := 132) (by decide +kernel)) (by decide +kernel)
theorem vw_BR_19 : VW R_BR 19 R_BR y_BR_get b_BR_get 2 (some .int) := ⟨aw_mem (List.mem_of_getElem? (i := 558) (by decide +kernel)) (by decide +kernel), aw_mem (List.mem_of_getElem? (i := 276) (by decide +kernel)) (by decide +kernel), aw_mem (List.mem_of_getElem? (i := 277) (by decide +kernel)) (by decide +kernel), aw_mem (List.mem_of_getElem? (i := 32) (by decide +kernel)) (by decide +kernel), aw_mem (List.mem_of_getElem? (i := 278) (by decide +kernel)) (by decide +kernel)⟩
theorem md_BR_get : MD y_BR_get 1 := by decide +kernel
theorem vw_BR_23 : VW R_BR 23 R_BR y_BR_add b_BR_add 2 (none) := ⟨aw_mem (List.mem_of_getElem? (i := 559) (by decide +kernel)) (by decide +kernel), aw_mem (List.mem_of_getElem? (i := 248) (by decide +kernel)) (by decide +kernel), aw_mem (List.mem_of_getElem? (i := 249) (by decide +kernel)) (by decide +kernel), aw_mem (List.mem_of_getElem? (i := 32) (by decide +kernel)) (by decide +kernel), aw_mem (List.mem_of_getElem? (i := 250) (by decide +kernel)) (by decide +kernel)⟩
theorem md_BR_add : MD y_BR_add 1 := by decide +kernel
theorem k_DF_68 : Cond.methodLink R_DF 68 Lib.Math.min.name ∈ AW := aw_mem (List.mem_of_getElem? (i := 54) (by decide +kernel)) (by decide +kernel)
theorem k_DF_167 : Cond.methodLink R_DF 167 Lib.Math.max.name ∈ AW := aw_mem (List.mem_of_getElem? (i := 57) (by decide +kernel)) (by decide +kernel)
theorem k_PL_3 : Cond.methodLink R_PL 3 objectInit ∈ AW := aw_mem (List.mem_of_getElem? (i := 96) (by decide +kernel)) (by decide +kernel)
theorem k_PL_9 : Cond.fieldLink R_PL 9 R_PL "fields" "[I" ∈ AW := aw_mem (List.mem_of_getElem? (i := 97) (by decide +kernel)) (by decide +kernel)
theorem k_PL_15 : Cond.fieldLink R_PL 15 R_PL "count" "I" ∈ AW := aw_mem (List.mem_of_getElem? (i := 98) (by decide +kernel)) (by decide +kernel)
theorem k_PL_19 : Cond.fieldLink R_PL 19 R_PL "byteLength" "I" ∈ AW := aw_mem (List.mem_of_getElem? (i := 100) (by decide +kernel)) (by decide +kernel)
theorem sn_PL_22 : SNW R_PL 22 R_DF y_DF_bytesOf b_DF_bytesOf 1 (some .int) := ⟨(List.mem_of_getElem? (i := 221) (by decide +kernel)), aw_mem (List.mem_of_getElem? (i := 222) (by decide +kernel)) (by decide +kernel), aw_mem (List.mem_of_getElem? (i := 27) (by decide +kernel)) (by decide +kernel), aw_mem (List.mem_of_getElem? (i := 223) (by decide +kernel)) (by decide +kernel)⟩
theorem md_DF_bytesOf : MD y_DF_bytesOf 1 := by decide +kernel
theorem vw_PL_26 : VW R_PL 26 R_PL y_PL_field b_PL_field 4 (some .int) := ⟨aw_mem (List.mem_of_getElem? (i := 255) (by decide +kernel)) (by decide +kernel), aw_mem (List.mem_of_getElem? (i := 256) (by decide +kernel)) (by decide +kernel), aw_mem (List.mem_of_getElem? (i := 257) (by decide +kernel)) (by decide +kernel), aw_mem (List.mem_of_getElem? (i := 31) (by decide +kernel)) (by decide +kernel), aw_mem (List.mem_of_getElem? (i := 258) (by decide +kernel)) (by decide +kernel)⟩
theorem md_PL_field : MD y_PL_field 2 := by decide +kernel
theorem vw_PL_30 : VW R_PL 30 R_BR y_BR_add b_BR_add 2 (none) := ⟨aw_mem (List.mem_of_getElem? (i := 259) (by decide +kernel)) (by decide +kernel), aw_mem (List.mem_of_getElem? (i := 248) (by decide +kernel)) (by decide +kernel), aw_mem (List.mem_of_getElem? (i := 249) (by decide +kernel)) (by decide +kernel), aw_mem (List.mem_of_getElem? (i := 32) (by decide +kernel)) (by decide +kernel), aw_mem (List.mem_of_getElem? (i := 250) (by decide +kernel)) (by decide +kernel)⟩
theorem d_BR_init_0 : decode b_BR_init 0 = .ok (.aload_n 0, 1) := by decide +kernel
theorem d_BR_init_1 : decode b_BR_init 1 = .ok (.invokespecial 3, 3) := by decide +kernel
theorem d_BR_init_4 : decode b_BR_init 4 = .ok (.aload_n 0, 1) := by decide +kernel
theorem d_BR_init_5 : decode b_BR_init 5 = .ok (.iload_n 1, 1) := by decide +kernel
theorem d_BR_init_6 : decode b_BR_init 6 = .ok (.newarray .int, 2) := by decide +kernel
theorem d_BR_init_8 : decode b_BR_init 8 = .ok (.putfield 9, 3) := by decide +kernel
theorem d_BR_init_11 : decode b_BR_init 11 = .ok (.return_, 1) := by decide +kernel
theorem d_BR_get_0 : decode b_BR_get 0 = .ok (.iload_n 1, 1) := by decide +kernel
theorem d_BR_get_1 : decode b_BR_get 1 = .ok (.ifCond .lt 29, 3) := by decide +kernel
theorem d_BR_get_4 : decode b_BR_get 4 = .ok (.iload_n 1, 1) := by decide +kernel
theorem d_BR_get_5 : decode b_BR_get 5 = .ok (.aload_n 0, 1) := by decide +kernel
theorem d_BR_get_6 : decode b_BR_get 6 = .ok (.getfield 15, 3) := by decide +kernel
theorem d_BR_get_9 : decode b_BR_get 9 = .ok (.if_icmp .ge 21, 3) := by decide +kernel
theorem d_BR_get_12 : decode b_BR_get 12 = .ok (.iload_n 1, 1) := by decide +kernel
theorem d_BR_get_13 : decode b_BR_get 13 = .ok (.aload_n 0, 1) := by decide +kernel
theorem d_BR_get_14 : decode b_BR_get 14 = .ok (.getfield 9, 3) := by decide +kernel
theorem d_BR_get_17 : decode b_BR_get 17 = .ok (.arraylength, 1) := by decide +kernel
theorem d_BR_get_18 : decode b_BR_get 18 = .ok (.if_icmp .ge 12, 3) := by decide +kernel
theorem d_BR_get_21 : decode b_BR_get 21 = .ok (.aload_n 0, 1) := by decide +kernel
theorem d_BR_get_22 : decode b_BR_get 22 = .ok (.getfield 9, 3) := by decide +kernel
theorem d_BR_get_25 : decode b_BR_get 25 = .ok (.iload_n 1, 1) := by decide +kernel
theorem d_BR_get_26 : decode b_BR_get 26 = .ok (.iaload, 1) := by decide +kernel
theorem d_BR_get_27 : decode b_BR_get 27 = .ok (.goto 4, 3) := by decide +kernel
theorem d_BR_get_30 : decode b_BR_get 30 = .ok (.iconst (-1), 1) := by decide +kernel
theorem d_BR_get_31 : decode b_BR_get 31 = .ok (.ireturn, 1) := by decide +kernel
theorem d_BR_add_0 : decode b_BR_add 0 = .ok (.aload_n 0, 1) := by decide +kernel
theorem d_BR_add_1 : decode b_BR_add 1 = .ok (.getfield 15, 3) := by decide +kernel
theorem d_BR_add_4 : decode b_BR_add 4 = .ok (.ifCond .lt 35, 3) := by decide +kernel
theorem d_BR_add_7 : decode b_BR_add 7 = .ok (.aload_n 0, 1) := by decide +kernel
theorem d_BR_add_8 : decode b_BR_add 8 = .ok (.getfield 15, 3) := by decide +kernel
theorem d_BR_add_11 : decode b_BR_add 11 = .ok (.aload_n 0, 1) := by decide +kernel
theorem d_BR_add_12 : decode b_BR_add 12 = .ok (.getfield 9, 3) := by decide +kernel
theorem d_BR_add_15 : decode b_BR_add 15 = .ok (.arraylength, 1) := by decide +kernel
theorem d_BR_add_16 : decode b_BR_add 16 = .ok (.if_icmp .ge 23, 3) := by decide +kernel
theorem d_BR_add_19 : decode b_BR_add 19 = .ok (.aload_n 0, 1) := by decide +kernel
theorem d_BR_add_20 : decode b_BR_add 20 = .ok (.getfield 9, 3) := by decide +kernel
theorem d_BR_add_23 : decode b_BR_add 23 = .ok (.aload_n 0, 1) := by decide +kernel
theorem d_BR_add_24 : decode b_BR_add 24 = .ok (.getfield 15, 3) := by decide +kernel
theorem d_BR_add_27 : decode b_BR_add 27 = .ok (.iload_n 1, 1) := by decide +kernel
theorem d_BR_add_28 : decode b_BR_add 28 = .ok (.iastore, 1) := by decide +kernel
theorem d_BR_add_29 : decode b_BR_add 29 = .ok (.aload_n 0, 1) := by decide +kernel
theorem d_BR_add_30 : decode b_BR_add 30 = .ok (.dup, 1) := by decide +kernel
theorem d_BR_add_31 : decode b_BR_add 31 = .ok (.getfield 15, 3) := by decide +kernel
theorem d_BR_add_34 : decode b_BR_add 34 = .ok (.iconst 1, 1) := by decide +kernel
theorem d_BR_add_35 : decode b_BR_add 35 = .ok (.iadd, 1) := by decide +kernel
theorem d_BR_add_36 : decode b_BR_add 36 = .ok (.putfield 15, 3) := by decide +kernel
theorem d_BR_add_39 : decode b_BR_add 39 = .ok (.return_, 1) := by decide +kernel
theorem d_BR_addAll_0 : decode b_BR_addAll 0 = .ok (.iconst 0, 1) := by decide +kernel
theorem d_BR_addAll_1 : decode b_BR_addAll 1 = .ok (.istore_n 2, 1) := by decide +kernel
theorem d_BR_addAll_2 : decode b_BR_addAll 2 = .ok (.iload_n 2, 1) := by decide +kernel
theorem d_BR_addAll_3 : decode b_BR_addAll 3 = .ok (.aload_n 1, 1) := by decide +kernel
theorem d_BR_addAll_4 : decode b_BR_addAll 4 = .ok (.getfield 15, 3) := by decide +kernel
theorem d_BR_addAll_7 : decode b_BR_addAll 7 = .ok (.if_icmp .ge 18, 3) := by decide +kernel
theorem d_BR_addAll_10 : decode b_BR_addAll 10 = .ok (.aload_n 0, 1) := by decide +kernel
theorem d_BR_addAll_11 : decode b_BR_addAll 11 = .ok (.aload_n 1, 1) := by decide +kernel
theorem d_BR_addAll_12 : decode b_BR_addAll 12 = .ok (.iload_n 2, 1) := by decide +kernel
theorem d_BR_addAll_13 : decode b_BR_addAll 13 = .ok (.invokevirtual 19, 3) := by decide +kernel
theorem d_BR_addAll_16 : decode b_BR_addAll 16 = .ok (.invokevirtual 23, 3) := by decide +kernel
theorem d_BR_addAll_19 : decode b_BR_addAll 19 = .ok (.iinc 2 1, 3) := by decide +kernel
theorem d_BR_addAll_22 : decode b_BR_addAll 22 = .ok (.goto (-20), 3) := by decide +kernel
theorem d_BR_addAll_25 : decode b_BR_addAll 25 = .ok (.return_, 1) := by decide +kernel
theorem d_BR_drop_0 : decode b_BR_drop 0 = .ok (.aload_n 0, 1) := by decide +kernel
theorem d_BR_drop_1 : decode b_BR_drop 1 = .ok (.iconst 0, 1) := by decide +kernel
theorem d_BR_drop_2 : decode b_BR_drop 2 = .ok (.putfield 15, 3) := by decide +kernel
theorem d_BR_drop_5 : decode b_BR_drop 5 = .ok (.return_, 1) := by decide +kernel
theorem d_PL_init_0 : decode b_PL_init 0 = .ok (.aload_n 0, 1) := by decide +kernel
theorem d_PL_init_1 : decode b_PL_init 1 = .ok (.invokespecial 3, 3) := by decide +kernel
theorem d_PL_init_4 : decode b_PL_init 4 = .ok (.aload_n 0, 1) := by decide +kernel
theorem d_PL_init_5 : decode b_PL_init 5 = .ok (.iload_n 1, 1) := by decide +kernel
theorem d_PL_init_6 : decode b_PL_init 6 = .ok (.bipush 6, 2) := by decide +kernel
theorem d_PL_init_8 : decode b_PL_init 8 = .ok (.imul, 1) := by decide +kernel
theorem d_PL_init_9 : decode b_PL_init 9 = .ok (.newarray .int, 2) := by decide +kernel
theorem d_PL_init_11 : decode b_PL_init 11 = .ok (.putfield 9, 3) := by decide +kernel
theorem d_PL_init_14 : decode b_PL_init 14 = .ok (.return_, 1) := by decide +kernel
theorem d_PL_add_0 : decode b_PL_add 0 = .ok (.aload_n 0, 1) := by decide +kernel
theorem d_PL_add_1 : decode b_PL_add 1 = .ok (.getfield 15, 3) := by decide +kernel
theorem d_PL_add_4 : decode b_PL_add 4 = .ok (.bipush 6, 2) := by decide +kernel
theorem d_PL_add_6 : decode b_PL_add 6 = .ok (.imul, 1) := by decide +kernel
theorem d_PL_add_7 : decode b_PL_add 7 = .ok (.istore 7, 2) := by decide +kernel
theorem d_PL_add_9 : decode b_PL_add 9 = .ok (.iload 7, 2) := by decide +kernel
theorem d_PL_add_11 : decode b_PL_add 11 = .ok (.ifCond .lt 16, 3) := by decide +kernel
theorem d_PL_add_14 : decode b_PL_add 14 = .ok (.iload 7, 2) := by decide +kernel
theorem d_PL_add_16 : decode b_PL_add 16 = .ok (.bipush 6, 2) := by decide +kernel
theorem d_PL_add_18 : decode b_PL_add 18 = .ok (.iadd, 1) := by decide +kernel
theorem d_PL_add_19 : decode b_PL_add 19 = .ok (.aload_n 0, 1) := by decide +kernel
theorem d_PL_add_20 : decode b_PL_add 20 = .ok (.getfield 9, 3) := by decide +kernel
theorem d_PL_add_23 : decode b_PL_add 23 = .ok (.arraylength, 1) := by decide +kernel
theorem d_PL_add_24 : decode b_PL_add 24 = .ok (.if_icmp .le 4, 3) := by decide +kernel
theorem d_PL_add_27 : decode b_PL_add 27 = .ok (.return_, 1) := by decide +kernel
theorem d_PL_add_28 : decode b_PL_add 28 = .ok (.aload_n 0, 1) := by decide +kernel
theorem d_PL_add_29 : decode b_PL_add 29 = .ok (.getfield 9, 3) := by decide +kernel
theorem d_PL_add_32 : decode b_PL_add 32 = .ok (.iload 7, 2) := by decide +kernel
theorem d_PL_add_34 : decode b_PL_add 34 = .ok (.iload_n 1, 1) := by decide +kernel
theorem d_PL_add_35 : decode b_PL_add 35 = .ok (.iastore, 1) := by decide +kernel
theorem d_PL_add_36 : decode b_PL_add 36 = .ok (.aload_n 0, 1) := by decide +kernel
theorem d_PL_add_37 : decode b_PL_add 37 = .ok (.getfield 9, 3) := by decide +kernel
theorem d_PL_add_40 : decode b_PL_add 40 = .ok (.iload 7, 2) := by decide +kernel
theorem d_PL_add_42 : decode b_PL_add 42 = .ok (.iconst 1, 1) := by decide +kernel
theorem d_PL_add_43 : decode b_PL_add 43 = .ok (.iadd, 1) := by decide +kernel
theorem d_PL_add_44 : decode b_PL_add 44 = .ok (.iload_n 2, 1) := by decide +kernel
theorem d_PL_add_45 : decode b_PL_add 45 = .ok (.iastore, 1) := by decide +kernel
theorem d_PL_add_46 : decode b_PL_add 46 = .ok (.aload_n 0, 1) := by decide +kernel
theorem d_PL_add_47 : decode b_PL_add 47 = .ok (.getfield 9, 3) := by decide +kernel
theorem d_PL_add_50 : decode b_PL_add 50 = .ok (.iload 7, 2) := by decide +kernel
theorem d_PL_add_52 : decode b_PL_add 52 = .ok (.iconst 2, 1) := by decide +kernel
theorem d_PL_add_53 : decode b_PL_add 53 = .ok (.iadd, 1) := by decide +kernel
theorem d_PL_add_54 : decode b_PL_add 54 = .ok (.iload_n 3, 1) := by decide +kernel
theorem d_PL_add_55 : decode b_PL_add 55 = .ok (.iastore, 1) := by decide +kernel
theorem d_PL_add_56 : decode b_PL_add 56 = .ok (.aload_n 0, 1) := by decide +kernel
theorem d_PL_add_57 : decode b_PL_add 57 = .ok (.getfield 9, 3) := by decide +kernel
theorem d_PL_add_60 : decode b_PL_add 60 = .ok (.iload 7, 2) := by decide +kernel
theorem d_PL_add_62 : decode b_PL_add 62 = .ok (.iconst 3, 1) := by decide +kernel
theorem d_PL_add_63 : decode b_PL_add 63 = .ok (.iadd, 1) := by decide +kernel
theorem d_PL_add_64 : decode b_PL_add 64 = .ok (.iload 4, 2) := by decide +kernel
theorem d_PL_add_66 : decode b_PL_add 66 = .ok (.iastore, 1) := by decide +kernel
theorem d_PL_add_67 : decode b_PL_add 67 = .ok (.aload_n 0, 1) := by decide +kernel
theorem d_PL_add_68 : decode b_PL_add 68 = .ok (.getfield 9, 3) := by decide +kernel
theorem d_PL_add_71 : decode b_PL_add 71 = .ok (.iload 7, 2) := by decide +kernel
theorem d_PL_add_73 : decode b_PL_add 73 = .ok (.iconst 4, 1) := by decide +kernel
theorem d_PL_add_74 : decode b_PL_add 74 = .ok (.iadd, 1) := by decide +kernel
theorem d_PL_add_75 : decode b_PL_add 75 = .ok (.iload 5, 2) := by decide +kernel
theorem d_PL_add_77 : decode b_PL_add 77 = .ok (.iastore, 1) := by decide +kernel
theorem d_PL_add_78 : decode b_PL_add 78 = .ok (.aload_n 0, 1) := by decide +kernel
theorem d_PL_add_79 : decode b_PL_add 79 = .ok (.getfield 9, 3) := by decide +kernel
theorem d_PL_add_82 : decode b_PL_add 82 = .ok (.iload 7, 2) := by decide +kernel
theorem d_PL_add_84 : decode b_PL_add 84 = .ok (.iconst 5, 1) := by decide +kernel
theorem d_PL_add_85 : decode b_PL_add 85 = .ok (.iadd, 1) := by decide +kernel
theorem d_PL_add_86 : decode b_PL_add 86 = .ok (.iload 6, 2) := by decide +kernel
theorem d_PL_add_88 : decode b_PL_add 88 = .ok (.iastore, 1) := by decide +kernel
theorem d_PL_add_89 : decode b_PL_add 89 = .ok (.aload_n 0, 1) := by decide +kernel
theorem d_PL_add_90 : decode b_PL_add 90 = .ok (.dup, 1) := by decide +kernel
theorem d_PL_add_91 : decode b_PL_add 91 = .ok (.getfield 15, 3) := by decide +kernel
theorem d_PL_add_94 : decode b_PL_add 94 = .ok (.iconst 1, 1) := by decide +kernel
theorem d_PL_add_95 : decode b_PL_add 95 = .ok (.iadd, 1) := by decide +kernel
theorem d_PL_add_96 : decode b_PL_add 96 = .ok (.putfield 15, 3) := by decide +kernel
theorem d_PL_add_99 : decode b_PL_add 99 = .ok (.aload_n 0, 1) := by decide +kernel
theorem d_PL_add_100 : decode b_PL_add 100 = .ok (.dup, 1) := by decide +kernel
theorem d_PL_add_101 : decode b_PL_add 101 = .ok (.getfield 19, 3) := by decide +kernel
theorem d_PL_add_104 : decode b_PL_add 104 = .ok (.iload_n 1, 1) := by decide +kernel
theorem d_PL_add_105 : decode b_PL_add 105 = .ok (.invokestatic 22, 3) := by decide +kernel
theorem d_PL_add_108 : decode b_PL_add 108 = .ok (.iadd, 1) := by decide +kernel
theorem d_PL_add_109 : decode b_PL_add 109 = .ok (.putfield 19, 3) := by decide +kernel
theorem d_PL_add_112 : decode b_PL_add 112 = .ok (.return_, 1) := by decide +kernel
theorem d_PL_field_0 : decode b_PL_field 0 = .ok (.iload_n 1, 1) := by decide +kernel
theorem d_PL_field_1 : decode b_PL_field 1 = .ok (.bipush 6, 2) := by decide +kernel
theorem d_PL_field_3 : decode b_PL_field 3 = .ok (.imul, 1) := by decide +kernel
theorem d_PL_field_4 : decode b_PL_field 4 = .ok (.iload_n 2, 1) := by decide +kernel
theorem d_PL_field_5 : decode b_PL_field 5 = .ok (.iadd, 1) := by decide +kernel
theorem d_PL_field_6 : decode b_PL_field 6 = .ok (.istore_n 3, 1) := by decide +kernel
theorem d_PL_field_7 : decode b_PL_field 7 = .ok (.iload_n 3, 1) := by decide +kernel
theorem d_PL_field_8 : decode b_PL_field 8 = .ok (.ifCond .lt 21, 3) := by decide +kernel
theorem d_PL_field_11 : decode b_PL_field 11 = .ok (.iload_n 3, 1) := by decide +kernel
theorem d_PL_field_12 : decode b_PL_field 12 = .ok (.aload_n 0, 1) := by decide +kernel
theorem d_PL_field_13 : decode b_PL_field 13 = .ok (.getfield 9, 3) := by decide +kernel
theorem d_PL_field_16 : decode b_PL_field 16 = .ok (.arraylength, 1) := by decide +kernel
theorem d_PL_field_17 : decode b_PL_field 17 = .ok (.if_icmp .ge 12, 3) := by decide +kernel
theorem d_PL_field_20 : decode b_PL_field 20 = .ok (.aload_n 0, 1) := by decide +kernel
theorem d_PL_field_21 : decode b_PL_field 21 = .ok (.getfield 9, 3) := by decide +kernel
theorem d_PL_field_24 : decode b_PL_field 24 = .ok (.iload_n 3, 1) := by decide +kernel
theorem d_PL_field_25 : decode b_PL_field 25 = .ok (.iaload, 1) := by decide +kernel
theorem d_PL_field_26 : decode b_PL_field 26 = .ok (.goto 4, 3) := by decide +kernel
theorem d_PL_field_29 : decode b_PL_field 29 = .ok (.iconst (-1), 1) := by decide +kernel
theorem d_PL_field_30 : decode b_PL_field 30 = .ok (.ireturn, 1) := by decide +kernel
theorem d_PL_writeTo_0 : decode b_PL_writeTo 0 = .ok (.iconst 0, 1) := by decide +kernel
theorem d_PL_writeTo_1 : decode b_PL_writeTo 1 = .ok (.istore_n 2, 1) := by decide +kernel
theorem d_PL_writeTo_2 : decode b_PL_writeTo 2 = .ok (.iload_n 2, 1) := by decide +kernel
theorem d_PL_writeTo_3 : decode b_PL_writeTo 3 = .ok (.aload_n 0, 1) := by decide +kernel
theorem d_PL_writeTo_4 : decode b_PL_writeTo 4 = .ok (.getfield 15, 3) := by decide +kernel
theorem d_PL_writeTo_7 : decode b_PL_writeTo 7 = .ok (.if_icmp .ge 66, 3) := by decide +kernel
theorem d_PL_writeTo_10 : decode b_PL_writeTo 10 = .ok (.aload_n 0, 1) := by decide +kernel
theorem d_PL_writeTo_11 : decode b_PL_writeTo 11 = .ok (.iload_n 2, 1) := by decide +kernel
theorem d_PL_writeTo_12 : decode b_PL_writeTo 12 = .ok (.iconst 0, 1) := by decide +kernel
theorem d_PL_writeTo_13 : decode b_PL_writeTo 13 = .ok (.invokevirtual 26, 3) := by decide +kernel
theorem d_PL_writeTo_16 : decode b_PL_writeTo 16 = .ok (.istore_n 3, 1) := by decide +kernel
theorem d_PL_writeTo_17 : decode b_PL_writeTo 17 = .ok (.iconst 0, 1) := by decide +kernel
theorem d_PL_writeTo_18 : decode b_PL_writeTo 18 = .ok (.istore 4, 2) := by decide +kernel
theorem d_PL_writeTo_20 : decode b_PL_writeTo 20 = .ok (.iload 4, 2) := by decide +kernel
theorem d_PL_writeTo_22 : decode b_PL_writeTo 22 = .ok (.iload_n 3, 1) := by decide +kernel
theorem d_PL_writeTo_23 : decode b_PL_writeTo 23 = .ok (.invokestatic 22, 3) := by decide +kernel
theorem d_PL_writeTo_26 : decode b_PL_writeTo 26 = .ok (.if_icmp .ge 41, 3) := by decide +kernel
theorem d_PL_writeTo_29 : decode b_PL_writeTo 29 = .ok (.iload_n 3, 1) := by decide +kernel
theorem d_PL_writeTo_30 : decode b_PL_writeTo 30 = .ok (.iconst 2, 1) := by decide +kernel
theorem d_PL_writeTo_31 : decode b_PL_writeTo 31 = .ok (.if_icmp .ne 13, 3) := by decide +kernel
theorem d_PL_writeTo_34 : decode b_PL_writeTo 34 = .ok (.iload 4, 2) := by decide +kernel
theorem d_PL_writeTo_36 : decode b_PL_writeTo 36 = .ok (.iconst 4, 1) := by decide +kernel
theorem d_PL_writeTo_37 : decode b_PL_writeTo 37 = .ok (.if_icmp .ne 7, 3) := by decide +kernel
theorem d_PL_writeTo_40 : decode b_PL_writeTo 40 = .ok (.iconst 4, 1) := by decide +kernel
theorem d_PL_writeTo_41 : decode b_PL_writeTo 41 = .ok (.goto 4, 3) := by decide +kernel
theorem d_PL_writeTo_44 : decode b_PL_writeTo 44 = .ok (.iconst 0, 1) := by decide +kernel
theorem d_PL_writeTo_45 : decode b_PL_writeTo 45 = .ok (.istore 5, 2) := by decide +kernel
theorem d_PL_writeTo_47 : decode b_PL_writeTo 47 = .ok (.aload_n 1, 1) := by decide +kernel
theorem d_PL_writeTo_48 : decode b_PL_writeTo 48 = .ok (.aload_n 0, 1) := by decide +kernel
theorem d_PL_writeTo_49 : decode b_PL_writeTo 49 = .ok (.iload_n 2, 1) := by decide +kernel
theorem d_PL_writeTo_50 : decode b_PL_writeTo 50 = .ok (.iload 4, 2) := by decide +kernel
theorem d_PL_writeTo_52 : decode b_PL_writeTo 52 = .ok (.invokevirtual 26, 3) := by decide +kernel
theorem d_PL_writeTo_55 : decode b_PL_writeTo 55 = .ok (.iload 5, 2) := by decide +kernel
theorem d_PL_writeTo_57 : decode b_PL_writeTo 57 = .ok (.iadd, 1) := by decide +kernel
theorem d_PL_writeTo_58 : decode b_PL_writeTo 58 = .ok (.invokevirtual 30, 3) := by decide +kernel
theorem d_PL_writeTo_61 : decode b_PL_writeTo 61 = .ok (.iinc 4 1, 3) := by decide +kernel
theorem d_PL_writeTo_64 : decode b_PL_writeTo 64 = .ok (.goto (-44), 3) := by decide +kernel
theorem d_PL_writeTo_67 : decode b_PL_writeTo 67 = .ok (.iinc 2 1, 3) := by decide +kernel
theorem d_PL_writeTo_70 : decode b_PL_writeTo 70 = .ok (.goto (-68), 3) := by decide +kernel
theorem d_PL_writeTo_73 : decode b_PL_writeTo 73 = .ok (.return_, 1) := by decide +kernel
theorem d_PL_drop_0 : decode b_PL_drop 0 = .ok (.aload_n 0, 1) := by decide +kernel
theorem d_PL_drop_1 : decode b_PL_drop 1 = .ok (.iconst 0, 1) := by decide +kernel
theorem d_PL_drop_2 : decode b_PL_drop 2 = .ok (.putfield 15, 3) := by decide +kernel
theorem d_PL_drop_5 : decode b_PL_drop 5 = .ok (.aload_n 0, 1) := by decide +kernel
theorem d_PL_drop_6 : decode b_PL_drop 6 = .ok (.iconst 0, 1) := by decide +kernel
theorem d_PL_drop_7 : decode b_PL_drop 7 = .ok (.putfield 19, 3) := by decide +kernel
theorem d_PL_drop_10 : decode b_PL_drop 10 = .ok (.return_, 1) := by decide +kernel
theorem d_DF_nearestSide_0 : decode b_DF_nearestSide 0 = .ok (.iconst 1, 1) := by decide +kernel
theorem d_DF_nearestSide_1 : decode b_DF_nearestSide 1 = .ok (.bipush 24, 2) := by decide +kernel
theorem d_DF_nearestSide_3 : decode b_DF_nearestSide 3 = .ok (.iload_n 0, 1) := by decide +kernel
theorem d_DF_nearestSide_4 : decode b_DF_nearestSide 4 = .ok (.invokestatic 68, 3) := by decide +kernel
theorem d_DF_nearestSide_7 : decode b_DF_nearestSide 7 = .ok (.invokestatic 167, 3) := by decide +kernel
theorem d_DF_nearestSide_10 : decode b_DF_nearestSide 10 = .ok (.ireturn, 1) := by decide +kernel
theorem d_DF_refusedAt_0 : decode b_DF_refusedAt 0 = .ok (.iconst (-1), 1) := by decide +kernel
theorem d_DF_refusedAt_1 : decode b_DF_refusedAt 1 = .ok (.iload_n 0, 1) := by decide +kernel
theorem d_DF_refusedAt_2 : decode b_DF_refusedAt 2 = .ok (.isub, 1) := by decide +kernel
theorem d_DF_refusedAt_3 : decode b_DF_refusedAt 3 = .ok (.ireturn, 1) := by decide +kernel
theorem d_DF_bytesOf_0 : decode b_DF_bytesOf 0 = .ok (.iload_n 0, 1) := by decide +kernel
theorem d_DF_bytesOf_1 : decode b_DF_bytesOf 1 = .ok (.tableswitch 32 1 3 #[27, 27, 30], 27) := by decide +kernel
theorem d_DF_bytesOf_28 : decode b_DF_bytesOf 28 = .ok (.bipush 6, 2) := by decide +kernel
theorem d_DF_bytesOf_30 : decode b_DF_bytesOf 30 = .ok (.ireturn, 1) := by decide +kernel
theorem d_DF_bytesOf_31 : decode b_DF_bytesOf 31 = .ok (.iconst 5, 1) := by decide +kernel
theorem d_DF_bytesOf_32 : decode b_DF_bytesOf 32 = .ok (.ireturn, 1) := by decide +kernel
theorem d_DF_bytesOf_33 : decode b_DF_bytesOf 33 = .ok (.iconst 0, 1) := by decide +kernel
theorem d_DF_bytesOf_34 : decode b_DF_bytesOf 34 = .ok (.ireturn, 1) := by decide +kernel
