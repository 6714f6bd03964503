theorem k_MO_1 : Cond.methodLink R_MO 1 objectInit ∈ AW := aw_mem (List.mem_of_getElem? (i := 565) (by decide +kernel)) (by decide +kernel)
theorem k_MO_7 : Cond.fieldLink R_MO 7 R_MO "first" "[I" ∈ AW := aw_mem (List.mem_of_getElem? (i := 569) (by decide +kernel)) (by decide +kernel)
theorem k_MO_13 : Cond.fieldLink R_MO 13 R_MO "other" "[I" ∈ AW := aw_mem (List.mem_of_getElem? (i := 570) (by decide +kernel)) (by decide +kernel)
theorem k_MO_16 : Cond.fieldLink R_MO 16 R_MO "open" "[Z" ∈ AW := aw_mem (List.mem_of_getElem? (i := 571) (by decide +kernel)) (by decide +kernel)
theorem k_MO_20 : Cond.fieldLink R_MO 20 R_MO "read" "[I" ∈ AW := aw_mem (List.mem_of_getElem? (i := 572) (by decide +kernel)) (by decide +kernel)
theorem k_MO_23 : Cond.fieldLink R_MO 23 R_MO "toldBytes" "[I" ∈ AW := aw_mem (List.mem_of_getElem? (i := 574) (by decide +kernel)) (by decide +kernel)
theorem k_MO_26 : Cond.fieldLink R_MO 26 R_MO "fed" "[I" ∈ AW := aw_mem (List.mem_of_getElem? (i := 576) (by decide +kernel)) (by decide +kernel)
theorem k_MO_29 : Cond.fieldLink R_MO 29 R_MO "part" "[I" ∈ AW := aw_mem (List.mem_of_getElem? (i := 578) (by decide +kernel)) (by decide +kernel)
theorem k_MO_32 : Cond.fieldLink R_MO 32 R_MO "wide" "I" ∈ AW := aw_mem (List.mem_of_getElem? (i := 566) (by decide +kernel)) (by decide +kernel)
theorem k_MO_36 : Cond.fieldLink R_MO 36 R_MO "high" "I" ∈ AW := aw_mem (List.mem_of_getElem? (i := 567) (by decide +kernel)) (by decide +kernel)
theorem k_MO_39 : Cond.fieldLink R_MO 39 R_MO "fault" "I" ∈ AW := aw_mem (List.mem_of_getElem? (i := 568) (by decide +kernel)) (by decide +kernel)
theorem sw_MO_42 : SW R_MO 42 y_MO_in b_MO_in 3 (some .boolean) := ⟨aw_mem (List.mem_of_getElem? (i := 633) (by decide +kernel)) (by decide +kernel), aw_mem (List.mem_of_getElem? (i := 634) (by decide +kernel)) (by decide +kernel), aw_mem (List.mem_of_getElem? (i := 33) (by decide +kernel)) (by decide +kernel), aw_mem (List.mem_of_getElem? (i := 635) (by decide +kernel)) (by decide +kernel)⟩
theorem md_MO_in : MD y_MO_in 3 := by decide +kernel
theorem vw_MO_46 : VW R_MO 46 R_MO y_MO_isSample b_MO_isSample 3 (some .boolean) := ⟨aw_mem (List.mem_of_getElem? (i := 629) (by decide +kernel)) (by decide +kernel), aw_mem (List.mem_of_getElem? (i := 631) (by decide +kernel)) (by decide +kernel), aw_mem (List.mem_of_getElem? (i := 12) (by decide +kernel)) (by decide +kernel), aw_mem (List.mem_of_getElem? (i := 33) (by decide +kernel)) (by decide +kernel), aw_mem (List.mem_of_getElem? (i := 632) (by decide +kernel)) (by decide +kernel)⟩
theorem md_MO_isSample : MD y_MO_isSample 2 := by decide +kernel
theorem vw_MO_50 : VW R_MO 50 R_MO y_MO_size b_MO_size 1 (some .int) := ⟨aw_mem (List.mem_of_getElem? (i := 652) (by decide +kernel)) (by decide +kernel), aw_mem (List.mem_of_getElem? (i := 654) (by decide +kernel)) (by decide +kernel), aw_mem (List.mem_of_getElem? (i := 13) (by decide +kernel)) (by decide +kernel), aw_mem (List.mem_of_getElem? (i := 33) (by decide +kernel)) (by decide +kernel), aw_mem (List.mem_of_getElem? (i := 655) (by decide +kernel)) (by decide +kernel)⟩
theorem md_MO_size : MD y_MO_size 0 := by decide +kernel
theorem k_MO_54 : Cond.fieldLink R_MO 54 R_MO "parts" "I" ∈ AW := aw_mem (List.mem_of_getElem? (i := 577) (by decide +kernel)) (by decide +kernel)
theorem k_MO_57 : Cond.fieldLink R_MO 57 R_MO "best" "I" ∈ AW := aw_mem (List.mem_of_getElem? (i := 580) (by decide +kernel)) (by decide +kernel)
theorem vw_MO_60 : VW R_MO 60 R_MO y_MO_isOf b_MO_isOf 4 (some .boolean) := ⟨aw_mem (List.mem_of_getElem? (i := 668) (by decide +kernel)) (by decide +kernel), aw_mem (List.mem_of_getElem? (i := 670) (by decide +kernel)) (by decide +kernel), aw_mem (List.mem_of_getElem? (i := 16) (by decide +kernel)) (by decide +kernel), aw_mem (List.mem_of_getElem? (i := 33) (by decide +kernel)) (by decide +kernel), aw_mem (List.mem_of_getElem? (i := 671) (by decide +kernel)) (by decide +kernel)⟩
theorem md_MO_isOf : MD y_MO_isOf 3 := by decide +kernel
theorem k_MO_63 : Cond.fieldLink R_MO 63 R_MO "bestOne" "I" ∈ AW := aw_mem (List.mem_of_getElem? (i := 581) (by decide +kernel)) (by decide +kernel)
theorem k_MO_66 : Cond.fieldLink R_MO 66 R_MO "bestTwo" "I" ∈ AW := aw_mem (List.mem_of_getElem? (i := 582) (by decide +kernel)) (by decide +kernel)
theorem d_MO_init_0 : decode b_MO_init 0 = .ok (.aload_n 0, 1) := by decide +kernel
theorem d_MO_init_1 : decode b_MO_init 1 = .ok (.invokespecial 1, 3) := by decide +kernel
theorem d_MO_init_4 : decode b_MO_init 4 = .ok (.aload_n 0, 1) := by decide +kernel
theorem d_MO_init_5 : decode b_MO_init 5 = .ok (.sipush 576, 3) := by decide +kernel
theorem d_MO_init_8 : decode b_MO_init 8 = .ok (.newarray .int, 2) := by decide +kernel
theorem d_MO_init_10 : decode b_MO_init 10 = .ok (.putfield 7, 3) := by decide +kernel
theorem d_MO_init_13 : decode b_MO_init 13 = .ok (.aload_n 0, 1) := by decide +kernel
theorem d_MO_init_14 : decode b_MO_init 14 = .ok (.sipush 576, 3) := by decide +kernel
theorem d_MO_init_17 : decode b_MO_init 17 = .ok (.newarray .int, 2) := by decide +kernel
theorem d_MO_init_19 : decode b_MO_init 19 = .ok (.putfield 13, 3) := by decide +kernel
theorem d_MO_init_22 : decode b_MO_init 22 = .ok (.aload_n 0, 1) := by decide +kernel
theorem d_MO_init_23 : decode b_MO_init 23 = .ok (.sipush 576, 3) := by decide +kernel
theorem d_MO_init_26 : decode b_MO_init 26 = .ok (.newarray .boolean, 2) := by decide +kernel
theorem d_MO_init_28 : decode b_MO_init 28 = .ok (.putfield 16, 3) := by decide +kernel
theorem d_MO_init_31 : decode b_MO_init 31 = .ok (.aload_n 0, 1) := by decide +kernel
theorem d_MO_init_32 : decode b_MO_init 32 = .ok (.sipush 576, 3) := by decide +kernel
theorem d_MO_init_35 : decode b_MO_init 35 = .ok (.newarray .int, 2) := by decide +kernel
theorem d_MO_init_37 : decode b_MO_init 37 = .ok (.putfield 20, 3) := by decide +kernel
theorem d_MO_init_40 : decode b_MO_init 40 = .ok (.aload_n 0, 1) := by decide +kernel
theorem d_MO_init_41 : decode b_MO_init 41 = .ok (.sipush 4000, 3) := by decide +kernel
theorem d_MO_init_44 : decode b_MO_init 44 = .ok (.newarray .int, 2) := by decide +kernel
theorem d_MO_init_46 : decode b_MO_init 46 = .ok (.putfield 23, 3) := by decide +kernel
theorem d_MO_init_49 : decode b_MO_init 49 = .ok (.aload_n 0, 1) := by decide +kernel
theorem d_MO_init_50 : decode b_MO_init 50 = .ok (.sipush 4000, 3) := by decide +kernel
theorem d_MO_init_53 : decode b_MO_init 53 = .ok (.newarray .int, 2) := by decide +kernel
theorem d_MO_init_55 : decode b_MO_init 55 = .ok (.putfield 26, 3) := by decide +kernel
theorem d_MO_init_58 : decode b_MO_init 58 = .ok (.aload_n 0, 1) := by decide +kernel
theorem d_MO_init_59 : decode b_MO_init 59 = .ok (.sipush 3600, 3) := by decide +kernel
theorem d_MO_init_62 : decode b_MO_init 62 = .ok (.newarray .int, 2) := by decide +kernel
theorem d_MO_init_64 : decode b_MO_init 64 = .ok (.putfield 29, 3) := by decide +kernel
theorem d_MO_init_67 : decode b_MO_init 67 = .ok (.aload_n 0, 1) := by decide +kernel
theorem d_MO_init_68 : decode b_MO_init 68 = .ok (.iload_n 1, 1) := by decide +kernel
theorem d_MO_init_69 : decode b_MO_init 69 = .ok (.iconst 1, 1) := by decide +kernel
theorem d_MO_init_70 : decode b_MO_init 70 = .ok (.if_icmp .ge 7, 3) := by decide +kernel
theorem d_MO_init_73 : decode b_MO_init 73 = .ok (.iconst 1, 1) := by decide +kernel
theorem d_MO_init_74 : decode b_MO_init 74 = .ok (.goto 15, 3) := by decide +kernel
theorem d_MO_init_77 : decode b_MO_init 77 = .ok (.iload_n 1, 1) := by decide +kernel
theorem d_MO_init_78 : decode b_MO_init 78 = .ok (.bipush 24, 2) := by decide +kernel
theorem d_MO_init_80 : decode b_MO_init 80 = .ok (.if_icmp .le 8, 3) := by decide +kernel
theorem d_MO_init_83 : decode b_MO_init 83 = .ok (.bipush 24, 2) := by decide +kernel
theorem d_MO_init_85 : decode b_MO_init 85 = .ok (.goto 4, 3) := by decide +kernel
theorem d_MO_init_88 : decode b_MO_init 88 = .ok (.iload_n 1, 1) := by decide +kernel
theorem d_MO_init_89 : decode b_MO_init 89 = .ok (.putfield 32, 3) := by decide +kernel
theorem d_MO_init_92 : decode b_MO_init 92 = .ok (.aload_n 0, 1) := by decide +kernel
theorem d_MO_init_93 : decode b_MO_init 93 = .ok (.iload_n 2, 1) := by decide +kernel
theorem d_MO_init_94 : decode b_MO_init 94 = .ok (.iconst 1, 1) := by decide +kernel
theorem d_MO_init_95 : decode b_MO_init 95 = .ok (.if_icmp .ge 7, 3) := by decide +kernel
theorem d_MO_init_98 : decode b_MO_init 98 = .ok (.iconst 1, 1) := by decide +kernel
theorem d_MO_init_99 : decode b_MO_init 99 = .ok (.goto 15, 3) := by decide +kernel
theorem d_MO_init_102 : decode b_MO_init 102 = .ok (.iload_n 2, 1) := by decide +kernel
theorem d_MO_init_103 : decode b_MO_init 103 = .ok (.bipush 24, 2) := by decide +kernel
theorem d_MO_init_105 : decode b_MO_init 105 = .ok (.if_icmp .le 8, 3) := by decide +kernel
theorem d_MO_init_108 : decode b_MO_init 108 = .ok (.bipush 24, 2) := by decide +kernel
theorem d_MO_init_110 : decode b_MO_init 110 = .ok (.goto 4, 3) := by decide +kernel
theorem d_MO_init_113 : decode b_MO_init 113 = .ok (.iload_n 2, 1) := by decide +kernel
theorem d_MO_init_114 : decode b_MO_init 114 = .ok (.putfield 36, 3) := by decide +kernel
theorem d_MO_init_117 : decode b_MO_init 117 = .ok (.return_, 1) := by decide +kernel
theorem d_MO_thrown_0 : decode b_MO_thrown 0 = .ok (.aload_n 0, 1) := by decide +kernel
theorem d_MO_thrown_1 : decode b_MO_thrown 1 = .ok (.getfield 39, 3) := by decide +kernel
theorem d_MO_thrown_4 : decode b_MO_thrown 4 = .ok (.ireturn, 1) := by decide +kernel
theorem d_MO_in_0 : decode b_MO_in 0 = .ok (.iload_n 0, 1) := by decide +kernel
theorem d_MO_in_1 : decode b_MO_in 1 = .ok (.iload_n 1, 1) := by decide +kernel
theorem d_MO_in_2 : decode b_MO_in 2 = .ok (.if_icmp .lt 12, 3) := by decide +kernel
theorem d_MO_in_5 : decode b_MO_in 5 = .ok (.iload_n 0, 1) := by decide +kernel
theorem d_MO_in_6 : decode b_MO_in 6 = .ok (.iload_n 2, 1) := by decide +kernel
theorem d_MO_in_7 : decode b_MO_in 7 = .ok (.if_icmp .gt 7, 3) := by decide +kernel
theorem d_MO_in_10 : decode b_MO_in 10 = .ok (.iconst 1, 1) := by decide +kernel
theorem d_MO_in_11 : decode b_MO_in 11 = .ok (.goto 4, 3) := by decide +kernel
theorem d_MO_in_14 : decode b_MO_in 14 = .ok (.iconst 0, 1) := by decide +kernel
theorem d_MO_in_15 : decode b_MO_in 15 = .ok (.ireturn, 1) := by decide +kernel
theorem d_MO_isSample_0 : decode b_MO_isSample 0 = .ok (.iload_n 1, 1) := by decide +kernel
theorem d_MO_isSample_1 : decode b_MO_isSample 1 = .ok (.iconst 0, 1) := by decide +kernel
theorem d_MO_isSample_2 : decode b_MO_isSample 2 = .ok (.aload_n 0, 1) := by decide +kernel
theorem d_MO_isSample_3 : decode b_MO_isSample 3 = .ok (.getfield 32, 3) := by decide +kernel
theorem d_MO_isSample_6 : decode b_MO_isSample 6 = .ok (.iconst 1, 1) := by decide +kernel
theorem d_MO_isSample_7 : decode b_MO_isSample 7 = .ok (.isub, 1) := by decide +kernel
theorem d_MO_isSample_8 : decode b_MO_isSample 8 = .ok (.invokestatic 42, 3) := by decide +kernel
theorem d_MO_isSample_11 : decode b_MO_isSample 11 = .ok (.ifCond .eq 21, 3) := by decide +kernel
theorem d_MO_isSample_14 : decode b_MO_isSample 14 = .ok (.iload_n 2, 1) := by decide +kernel
theorem d_MO_isSample_15 : decode b_MO_isSample 15 = .ok (.iconst 0, 1) := by decide +kernel
theorem d_MO_isSample_16 : decode b_MO_isSample 16 = .ok (.aload_n 0, 1) := by decide +kernel
theorem d_MO_isSample_17 : decode b_MO_isSample 17 = .ok (.getfield 36, 3) := by decide +kernel
theorem d_MO_isSample_20 : decode b_MO_isSample 20 = .ok (.iconst 1, 1) := by decide +kernel
theorem d_MO_isSample_21 : decode b_MO_isSample 21 = .ok (.isub, 1) := by decide +kernel
theorem d_MO_isSample_22 : decode b_MO_isSample 22 = .ok (.invokestatic 42, 3) := by decide +kernel
theorem d_MO_isSample_25 : decode b_MO_isSample 25 = .ok (.ifCond .eq 7, 3) := by decide +kernel
theorem d_MO_isSample_28 : decode b_MO_isSample 28 = .ok (.iconst 1, 1) := by decide +kernel
theorem d_MO_isSample_29 : decode b_MO_isSample 29 = .ok (.goto 4, 3) := by decide +kernel
theorem d_MO_isSample_32 : decode b_MO_isSample 32 = .ok (.iconst 0, 1) := by decide +kernel
theorem d_MO_isSample_33 : decode b_MO_isSample 33 = .ok (.ireturn, 1) := by decide +kernel
theorem d_MO_size_0 : decode b_MO_size 0 = .ok (.aload_n 0, 1) := by decide +kernel
theorem d_MO_size_1 : decode b_MO_size 1 = .ok (.getfield 32, 3) := by decide +kernel
theorem d_MO_size_4 : decode b_MO_size 4 = .ok (.aload_n 0, 1) := by decide +kernel
theorem d_MO_size_5 : decode b_MO_size 5 = .ok (.getfield 36, 3) := by decide +kernel
theorem d_MO_size_8 : decode b_MO_size 8 = .ok (.imul, 1) := by decide +kernel
theorem d_MO_size_9 : decode b_MO_size 9 = .ok (.ireturn, 1) := by decide +kernel
theorem d_MO_put_0 : decode b_MO_put 0 = .ok (.aload_n 0, 1) := by decide +kernel
theorem d_MO_put_1 : decode b_MO_put 1 = .ok (.aload_n 0, 1) := by decide +kernel
theorem d_MO_put_2 : decode b_MO_put 2 = .ok (.iload_n 1, 1) := by decide +kernel
theorem d_MO_put_3 : decode b_MO_put 3 = .ok (.iload_n 2, 1) := by decide +kernel
theorem d_MO_put_4 : decode b_MO_put 4 = .ok (.invokevirtual 46, 3) := by decide +kernel
theorem d_MO_put_7 : decode b_MO_put 7 = .ok (.ifCond .ne 7, 3) := by decide +kernel
theorem d_MO_put_10 : decode b_MO_put 10 = .ok (.iconst 1, 1) := by decide +kernel
theorem d_MO_put_11 : decode b_MO_put 11 = .ok (.goto 19, 3) := by decide +kernel
theorem d_MO_put_14 : decode b_MO_put 14 = .ok (.iload_n 3, 1) := by decide +kernel
theorem d_MO_put_15 : decode b_MO_put 15 = .ok (.iconst 0, 1) := by decide +kernel
theorem d_MO_put_16 : decode b_MO_put 16 = .ok (.sipush 255, 3) := by decide +kernel
theorem d_MO_put_19 : decode b_MO_put 19 = .ok (.invokestatic 42, 3) := by decide +kernel
theorem d_MO_put_22 : decode b_MO_put 22 = .ok (.ifCond .ne 7, 3) := by decide +kernel
theorem d_MO_put_25 : decode b_MO_put 25 = .ok (.iconst 2, 1) := by decide +kernel
theorem d_MO_put_26 : decode b_MO_put 26 = .ok (.goto 4, 3) := by decide +kernel
theorem d_MO_put_29 : decode b_MO_put 29 = .ok (.iconst 0, 1) := by decide +kernel
theorem d_MO_put_30 : decode b_MO_put 30 = .ok (.putfield 39, 3) := by decide +kernel
theorem d_MO_put_33 : decode b_MO_put 33 = .ok (.aload_n 0, 1) := by decide +kernel
theorem d_MO_put_34 : decode b_MO_put 34 = .ok (.getfield 39, 3) := by decide +kernel
theorem d_MO_put_37 : decode b_MO_put 37 = .ok (.ifCond .le 5, 3) := by decide +kernel
theorem d_MO_put_40 : decode b_MO_put 40 = .ok (.iconst 0, 1) := by decide +kernel
theorem d_MO_put_41 : decode b_MO_put 41 = .ok (.ireturn, 1) := by decide +kernel
theorem d_MO_put_42 : decode b_MO_put 42 = .ok (.aload_n 0, 1) := by decide +kernel
theorem d_MO_put_43 : decode b_MO_put 43 = .ok (.getfield 7, 3) := by decide +kernel
theorem d_MO_put_46 : decode b_MO_put 46 = .ok (.aload_n 0, 1) := by decide +kernel
theorem d_MO_put_47 : decode b_MO_put 47 = .ok (.getfield 32, 3) := by decide +kernel
theorem d_MO_put_50 : decode b_MO_put 50 = .ok (.iload_n 2, 1) := by decide +kernel
theorem d_MO_put_51 : decode b_MO_put 51 = .ok (.imul, 1) := by decide +kernel
theorem d_MO_put_52 : decode b_MO_put 52 = .ok (.iload_n 1, 1) := by decide +kernel
theorem d_MO_put_53 : decode b_MO_put 53 = .ok (.iadd, 1) := by decide +kernel
theorem d_MO_put_54 : decode b_MO_put 54 = .ok (.iaload, 1) := by decide +kernel
theorem d_MO_put_55 : decode b_MO_put 55 = .ok (.iload_n 3, 1) := by decide +kernel
theorem d_MO_put_56 : decode b_MO_put 56 = .ok (.if_icmp .eq 7, 3) := by decide +kernel
theorem d_MO_put_59 : decode b_MO_put 59 = .ok (.iconst 1, 1) := by decide +kernel
theorem d_MO_put_60 : decode b_MO_put 60 = .ok (.goto 4, 3) := by decide +kernel
theorem d_MO_put_63 : decode b_MO_put 63 = .ok (.iconst 0, 1) := by decide +kernel
theorem d_MO_put_64 : decode b_MO_put 64 = .ok (.istore 4, 2) := by decide +kernel
theorem d_MO_put_66 : decode b_MO_put 66 = .ok (.aload_n 0, 1) := by decide +kernel
theorem d_MO_put_67 : decode b_MO_put 67 = .ok (.getfield 7, 3) := by decide +kernel
theorem d_MO_put_70 : decode b_MO_put 70 = .ok (.aload_n 0, 1) := by decide +kernel
theorem d_MO_put_71 : decode b_MO_put 71 = .ok (.getfield 32, 3) := by decide +kernel
theorem d_MO_put_74 : decode b_MO_put 74 = .ok (.iload_n 2, 1) := by decide +kernel
theorem d_MO_put_75 : decode b_MO_put 75 = .ok (.imul, 1) := by decide +kernel
theorem d_MO_put_76 : decode b_MO_put 76 = .ok (.iload_n 1, 1) := by decide +kernel
theorem d_MO_put_77 : decode b_MO_put 77 = .ok (.iadd, 1) := by decide +kernel
theorem d_MO_put_78 : decode b_MO_put 78 = .ok (.iload_n 3, 1) := by decide +kernel
theorem d_MO_put_79 : decode b_MO_put 79 = .ok (.iastore, 1) := by decide +kernel
theorem d_MO_put_80 : decode b_MO_put 80 = .ok (.iload 4, 2) := by decide +kernel
theorem d_MO_put_82 : decode b_MO_put 82 = .ok (.ireturn, 1) := by decide +kernel
theorem d_MO_box_0 : decode b_MO_box 0 = .ok (.aload_n 0, 1) := by decide +kernel
theorem d_MO_box_1 : decode b_MO_box 1 = .ok (.aload_n 0, 1) := by decide +kernel
theorem d_MO_box_2 : decode b_MO_box 2 = .ok (.iload_n 1, 1) := by decide +kernel
theorem d_MO_box_3 : decode b_MO_box 3 = .ok (.iload_n 2, 1) := by decide +kernel
theorem d_MO_box_4 : decode b_MO_box 4 = .ok (.invokevirtual 46, 3) := by decide +kernel
theorem d_MO_box_7 : decode b_MO_box 7 = .ok (.ifCond .ne 7, 3) := by decide +kernel
theorem d_MO_box_10 : decode b_MO_box 10 = .ok (.iconst 1, 1) := by decide +kernel
theorem d_MO_box_11 : decode b_MO_box 11 = .ok (.goto 31, 3) := by decide +kernel
theorem d_MO_box_14 : decode b_MO_box 14 = .ok (.iload_n 3, 1) := by decide +kernel
theorem d_MO_box_15 : decode b_MO_box 15 = .ok (.iconst 1, 1) := by decide +kernel
theorem d_MO_box_16 : decode b_MO_box 16 = .ok (.if_icmp .lt 21, 3) := by decide +kernel
theorem d_MO_box_19 : decode b_MO_box 19 = .ok (.iload 4, 2) := by decide +kernel
theorem d_MO_box_21 : decode b_MO_box 21 = .ok (.iconst 1, 1) := by decide +kernel
theorem d_MO_box_22 : decode b_MO_box 22 = .ok (.if_icmp .lt 15, 3) := by decide +kernel
theorem d_MO_box_25 : decode b_MO_box 25 = .ok (.iload 5, 2) := by decide +kernel
theorem d_MO_box_27 : decode b_MO_box 27 = .ok (.iconst 0, 1) := by decide +kernel
theorem d_MO_box_28 : decode b_MO_box 28 = .ok (.sipush 255, 3) := by decide +kernel
theorem d_MO_box_31 : decode b_MO_box 31 = .ok (.invokestatic 42, 3) := by decide +kernel
theorem d_MO_box_34 : decode b_MO_box 34 = .ok (.ifCond .ne 7, 3) := by decide +kernel
theorem d_MO_box_37 : decode b_MO_box 37 = .ok (.iconst 2, 1) := by decide +kernel
theorem d_MO_box_38 : decode b_MO_box 38 = .ok (.goto 4, 3) := by decide +kernel
theorem d_MO_box_41 : decode b_MO_box 41 = .ok (.iconst 0, 1) := by decide +kernel
theorem d_MO_box_42 : decode b_MO_box 42 = .ok (.putfield 39, 3) := by decide +kernel
theorem d_MO_box_45 : decode b_MO_box 45 = .ok (.aload_n 0, 1) := by decide +kernel
theorem d_MO_box_46 : decode b_MO_box 46 = .ok (.getfield 39, 3) := by decide +kernel
theorem d_MO_box_49 : decode b_MO_box 49 = .ok (.ifCond .le 5, 3) := by decide +kernel
theorem d_MO_box_52 : decode b_MO_box 52 = .ok (.iconst 0, 1) := by decide +kernel
theorem d_MO_box_53 : decode b_MO_box 53 = .ok (.ireturn, 1) := by decide +kernel
theorem d_MO_box_54 : decode b_MO_box 54 = .ok (.iconst 0, 1) := by decide +kernel
theorem d_MO_box_55 : decode b_MO_box 55 = .ok (.istore 6, 2) := by decide +kernel
theorem d_MO_box_57 : decode b_MO_box 57 = .ok (.iload_n 2, 1) := by decide +kernel
theorem d_MO_box_58 : decode b_MO_box 58 = .ok (.istore 7, 2) := by decide +kernel
theorem d_MO_box_60 : decode b_MO_box 60 = .ok (.iload 7, 2) := by decide +kernel
theorem d_MO_box_62 : decode b_MO_box 62 = .ok (.aload_n 0, 1) := by decide +kernel
theorem d_MO_box_63 : decode b_MO_box 63 = .ok (.getfield 36, 3) := by decide +kernel
theorem d_MO_box_66 : decode b_MO_box 66 = .ok (.if_icmp .ge 92, 3) := by decide +kernel
theorem d_MO_box_69 : decode b_MO_box 69 = .ok (.iload 7, 2) := by decide +kernel
theorem d_MO_box_71 : decode b_MO_box 71 = .ok (.iload_n 2, 1) := by decide +kernel
theorem d_MO_box_72 : decode b_MO_box 72 = .ok (.isub, 1) := by decide +kernel
theorem d_MO_box_73 : decode b_MO_box 73 = .ok (.iload 4, 2) := by decide +kernel
theorem d_MO_box_75 : decode b_MO_box 75 = .ok (.if_icmp .ge 83, 3) := by decide +kernel
theorem d_MO_box_78 : decode b_MO_box 78 = .ok (.iload_n 1, 1) := by decide +kernel
theorem d_MO_box_79 : decode b_MO_box 79 = .ok (.istore 8, 2) := by decide +kernel
theorem d_MO_box_81 : decode b_MO_box 81 = .ok (.iload 8, 2) := by decide +kernel
theorem d_MO_box_83 : decode b_MO_box 83 = .ok (.aload_n 0, 1) := by decide +kernel
theorem d_MO_box_84 : decode b_MO_box 84 = .ok (.getfield 32, 3) := by decide +kernel
theorem d_MO_box_87 : decode b_MO_box 87 = .ok (.if_icmp .ge 65, 3) := by decide +kernel
theorem d_MO_box_90 : decode b_MO_box 90 = .ok (.iload 8, 2) := by decide +kernel
theorem d_MO_box_92 : decode b_MO_box 92 = .ok (.iload_n 1, 1) := by decide +kernel
theorem d_MO_box_93 : decode b_MO_box 93 = .ok (.isub, 1) := by decide +kernel
theorem d_MO_box_94 : decode b_MO_box 94 = .ok (.iload_n 3, 1) := by decide +kernel
theorem d_MO_box_95 : decode b_MO_box 95 = .ok (.if_icmp .ge 57, 3) := by decide +kernel
theorem d_MO_box_98 : decode b_MO_box 98 = .ok (.aload_n 0, 1) := by decide +kernel
theorem d_MO_box_99 : decode b_MO_box 99 = .ok (.getfield 7, 3) := by decide +kernel
theorem d_MO_box_102 : decode b_MO_box 102 = .ok (.aload_n 0, 1) := by decide +kernel
theorem d_MO_box_103 : decode b_MO_box 103 = .ok (.getfield 32, 3) := by decide +kernel
theorem d_MO_box_106 : decode b_MO_box 106 = .ok (.iload 7, 2) := by decide +kernel
theorem d_MO_box_108 : decode b_MO_box 108 = .ok (.imul, 1) := by decide +kernel
theorem d_MO_box_109 : decode b_MO_box 109 = .ok (.iload 8, 2) := by decide +kernel
theorem d_MO_box_111 : decode b_MO_box 111 = .ok (.iadd, 1) := by decide +kernel
theorem d_MO_box_112 : decode b_MO_box 112 = .ok (.iaload, 1) := by decide +kernel
theorem d_MO_box_113 : decode b_MO_box 113 = .ok (.iload 5, 2) := by decide +kernel
theorem d_MO_box_115 : decode b_MO_box 115 = .ok (.if_icmp .eq 10, 3) := by decide +kernel
theorem d_MO_box_118 : decode b_MO_box 118 = .ok (.iload 6, 2) := by decide +kernel
theorem d_MO_box_120 : decode b_MO_box 120 = .ok (.iconst 1, 1) := by decide +kernel
theorem d_MO_box_121 : decode b_MO_box 121 = .ok (.iadd, 1) := by decide +kernel
theorem d_MO_box_122 : decode b_MO_box 122 = .ok (.goto 5, 3) := by decide +kernel
theorem d_MO_box_125 : decode b_MO_box 125 = .ok (.iload 6, 2) := by decide +kernel
theorem d_MO_box_127 : decode b_MO_box 127 = .ok (.istore 6, 2) := by decide +kernel
theorem d_MO_box_129 : decode b_MO_box 129 = .ok (.aload_n 0, 1) := by decide +kernel
theorem d_MO_box_130 : decode b_MO_box 130 = .ok (.getfield 7, 3) := by decide +kernel
theorem d_MO_box_133 : decode b_MO_box 133 = .ok (.aload_n 0, 1) := by decide +kernel
theorem d_MO_box_134 : decode b_MO_box 134 = .ok (.getfield 32, 3) := by decide +kernel
theorem d_MO_box_137 : decode b_MO_box 137 = .ok (.iload 7, 2) := by decide +kernel
theorem d_MO_box_139 : decode b_MO_box 139 = .ok (.imul, 1) := by decide +kernel
theorem d_MO_box_140 : decode b_MO_box 140 = .ok (.iload 8, 2) := by decide +kernel
theorem d_MO_box_142 : decode b_MO_box 142 = .ok (.iadd, 1) := by decide +kernel
theorem d_MO_box_143 : decode b_MO_box 143 = .ok (.iload 5, 2) := by decide +kernel
theorem d_MO_box_145 : decode b_MO_box 145 = .ok (.iastore, 1) := by decide +kernel
theorem d_MO_box_146 : decode b_MO_box 146 = .ok (.iinc 8 1, 3) := by decide +kernel
theorem d_MO_box_149 : decode b_MO_box 149 = .ok (.goto (-68), 3) := by decide +kernel
theorem d_MO_box_152 : decode b_MO_box 152 = .ok (.iinc 7 1, 3) := by decide +kernel
theorem d_MO_box_155 : decode b_MO_box 155 = .ok (.goto (-95), 3) := by decide +kernel
theorem d_MO_box_158 : decode b_MO_box 158 = .ok (.iload 6, 2) := by decide +kernel
theorem d_MO_box_160 : decode b_MO_box 160 = .ok (.ireturn, 1) := by decide +kernel
theorem d_MO_at_0 : decode b_MO_at 0 = .ok (.aload_n 0, 1) := by decide +kernel
theorem d_MO_at_1 : decode b_MO_at 1 = .ok (.aload_n 0, 1) := by decide +kernel
theorem d_MO_at_2 : decode b_MO_at 2 = .ok (.iload_n 1, 1) := by decide +kernel
theorem d_MO_at_3 : decode b_MO_at 3 = .ok (.iload_n 2, 1) := by decide +kernel
theorem d_MO_at_4 : decode b_MO_at 4 = .ok (.invokevirtual 46, 3) := by decide +kernel
theorem d_MO_at_7 : decode b_MO_at 7 = .ok (.ifCond .eq 7, 3) := by decide +kernel
theorem d_MO_at_10 : decode b_MO_at 10 = .ok (.iconst 0, 1) := by decide +kernel
theorem d_MO_at_11 : decode b_MO_at 11 = .ok (.goto 4, 3) := by decide +kernel
theorem d_MO_at_14 : decode b_MO_at 14 = .ok (.iconst 1, 1) := by decide +kernel
theorem d_MO_at_15 : decode b_MO_at 15 = .ok (.putfield 39, 3) := by decide +kernel
theorem d_MO_at_18 : decode b_MO_at 18 = .ok (.aload_n 0, 1) := by decide +kernel
theorem d_MO_at_19 : decode b_MO_at 19 = .ok (.getfield 39, 3) := by decide +kernel
theorem d_MO_at_22 : decode b_MO_at 22 = .ok (.ifCond .le 7, 3) := by decide +kernel
theorem d_MO_at_25 : decode b_MO_at 25 = .ok (.iconst 0, 1) := by decide +kernel
theorem d_MO_at_26 : decode b_MO_at 26 = .ok (.goto 16, 3) := by decide +kernel
theorem d_MO_at_29 : decode b_MO_at 29 = .ok (.aload_n 0, 1) := by decide +kernel
theorem d_MO_at_30 : decode b_MO_at 30 = .ok (.getfield 7, 3) := by decide +kernel
theorem d_MO_at_33 : decode b_MO_at 33 = .ok (.aload_n 0, 1) := by decide +kernel
theorem d_MO_at_34 : decode b_MO_at 34 = .ok (.getfield 32, 3) := by decide +kernel
theorem d_MO_at_37 : decode b_MO_at 37 = .ok (.iload_n 2, 1) := by decide +kernel
theorem d_MO_at_38 : decode b_MO_at 38 = .ok (.imul, 1) := by decide +kernel
theorem d_MO_at_39 : decode b_MO_at 39 = .ok (.iload_n 1, 1) := by decide +kernel
theorem d_MO_at_40 : decode b_MO_at 40 = .ok (.iadd, 1) := by decide +kernel
theorem d_MO_at_41 : decode b_MO_at 41 = .ok (.iaload, 1) := by decide +kernel
theorem d_MO_at_42 : decode b_MO_at 42 = .ok (.ireturn, 1) := by decide +kernel
theorem d_MO_second_0 : decode b_MO_second 0 = .ok (.aload_n 0, 1) := by decide +kernel
theorem d_MO_second_1 : decode b_MO_second 1 = .ok (.aload_n 0, 1) := by decide +kernel
theorem d_MO_second_2 : decode b_MO_second 2 = .ok (.iload_n 1, 1) := by decide +kernel
theorem d_MO_second_3 : decode b_MO_second 3 = .ok (.iload_n 2, 1) := by decide +kernel
theorem d_MO_second_4 : decode b_MO_second 4 = .ok (.invokevirtual 46, 3) := by decide +kernel
theorem d_MO_second_7 : decode b_MO_second 7 = .ok (.ifCond .ne 7, 3) := by decide +kernel
theorem d_MO_second_10 : decode b_MO_second 10 = .ok (.iconst 1, 1) := by decide +kernel
theorem d_MO_second_11 : decode b_MO_second 11 = .ok (.goto 19, 3) := by decide +kernel
theorem d_MO_second_14 : decode b_MO_second 14 = .ok (.iload_n 3, 1) := by decide +kernel
theorem d_MO_second_15 : decode b_MO_second 15 = .ok (.iconst 0, 1) := by decide +kernel
theorem d_MO_second_16 : decode b_MO_second 16 = .ok (.sipush 255, 3) := by decide +kernel
theorem d_MO_second_19 : decode b_MO_second 19 = .ok (.invokestatic 42, 3) := by decide +kernel
theorem d_MO_second_22 : decode b_MO_second 22 = .ok (.ifCond .ne 7, 3) := by decide +kernel
theorem d_MO_second_25 : decode b_MO_second 25 = .ok (.iconst 2, 1) := by decide +kernel
theorem d_MO_second_26 : decode b_MO_second 26 = .ok (.goto 4, 3) := by decide +kernel
theorem d_MO_second_29 : decode b_MO_second 29 = .ok (.iconst 0, 1) := by decide +kernel
theorem d_MO_second_30 : decode b_MO_second 30 = .ok (.putfield 39, 3) := by decide +kernel
theorem d_MO_second_33 : decode b_MO_second 33 = .ok (.aload_n 0, 1) := by decide +kernel
theorem d_MO_second_34 : decode b_MO_second 34 = .ok (.getfield 39, 3) := by decide +kernel
theorem d_MO_second_37 : decode b_MO_second 37 = .ok (.ifCond .le 5, 3) := by decide +kernel
theorem d_MO_second_40 : decode b_MO_second 40 = .ok (.iconst 0, 1) := by decide +kernel
theorem d_MO_second_41 : decode b_MO_second 41 = .ok (.ireturn, 1) := by decide +kernel
theorem d_MO_second_42 : decode b_MO_second 42 = .ok (.aload_n 0, 1) := by decide +kernel
theorem d_MO_second_43 : decode b_MO_second 43 = .ok (.getfield 13, 3) := by decide +kernel
theorem d_MO_second_46 : decode b_MO_second 46 = .ok (.aload_n 0, 1) := by decide +kernel
theorem d_MO_second_47 : decode b_MO_second 47 = .ok (.getfield 32, 3) := by decide +kernel
theorem d_MO_second_50 : decode b_MO_second 50 = .ok (.iload_n 2, 1) := by decide +kernel
theorem d_MO_second_51 : decode b_MO_second 51 = .ok (.imul, 1) := by decide +kernel
theorem d_MO_second_52 : decode b_MO_second 52 = .ok (.iload_n 1, 1) := by decide +kernel
theorem d_MO_second_53 : decode b_MO_second 53 = .ok (.iadd, 1) := by decide +kernel
theorem d_MO_second_54 : decode b_MO_second 54 = .ok (.iaload, 1) := by decide +kernel
theorem d_MO_second_55 : decode b_MO_second 55 = .ok (.iload_n 3, 1) := by decide +kernel
theorem d_MO_second_56 : decode b_MO_second 56 = .ok (.if_icmp .eq 7, 3) := by decide +kernel
theorem d_MO_second_59 : decode b_MO_second 59 = .ok (.iconst 1, 1) := by decide +kernel
theorem d_MO_second_60 : decode b_MO_second 60 = .ok (.goto 4, 3) := by decide +kernel
theorem d_MO_second_63 : decode b_MO_second 63 = .ok (.iconst 0, 1) := by decide +kernel
theorem d_MO_second_64 : decode b_MO_second 64 = .ok (.istore 4, 2) := by decide +kernel
theorem d_MO_second_66 : decode b_MO_second 66 = .ok (.aload_n 0, 1) := by decide +kernel
theorem d_MO_second_67 : decode b_MO_second 67 = .ok (.getfield 13, 3) := by decide +kernel
theorem d_MO_second_70 : decode b_MO_second 70 = .ok (.aload_n 0, 1) := by decide +kernel
theorem d_MO_second_71 : decode b_MO_second 71 = .ok (.getfield 32, 3) := by decide +kernel
theorem d_MO_second_74 : decode b_MO_second 74 = .ok (.iload_n 2, 1) := by decide +kernel
theorem d_MO_second_75 : decode b_MO_second 75 = .ok (.imul, 1) := by decide +kernel
theorem d_MO_second_76 : decode b_MO_second 76 = .ok (.iload_n 1, 1) := by decide +kernel
theorem d_MO_second_77 : decode b_MO_second 77 = .ok (.iadd, 1) := by decide +kernel
theorem d_MO_second_78 : decode b_MO_second 78 = .ok (.iload_n 3, 1) := by decide +kernel
theorem d_MO_second_79 : decode b_MO_second 79 = .ok (.iastore, 1) := by decide +kernel
theorem d_MO_second_80 : decode b_MO_second 80 = .ok (.iload 4, 2) := by decide +kernel
theorem d_MO_second_82 : decode b_MO_second 82 = .ok (.ireturn, 1) := by decide +kernel
theorem d_MO_swap_0 : decode b_MO_swap 0 = .ok (.aload_n 0, 1) := by decide +kernel
theorem d_MO_swap_1 : decode b_MO_swap 1 = .ok (.iconst 0, 1) := by decide +kernel
theorem d_MO_swap_2 : decode b_MO_swap 2 = .ok (.putfield 39, 3) := by decide +kernel
theorem d_MO_swap_5 : decode b_MO_swap 5 = .ok (.iconst 0, 1) := by decide +kernel
theorem d_MO_swap_6 : decode b_MO_swap 6 = .ok (.istore_n 1, 1) := by decide +kernel
theorem d_MO_swap_7 : decode b_MO_swap 7 = .ok (.iconst 0, 1) := by decide +kernel
theorem d_MO_swap_8 : decode b_MO_swap 8 = .ok (.istore_n 2, 1) := by decide +kernel
theorem d_MO_swap_9 : decode b_MO_swap 9 = .ok (.iload_n 2, 1) := by decide +kernel
theorem d_MO_swap_10 : decode b_MO_swap 10 = .ok (.aload_n 0, 1) := by decide +kernel
theorem d_MO_swap_11 : decode b_MO_swap 11 = .ok (.invokevirtual 50, 3) := by decide +kernel
theorem d_MO_swap_14 : decode b_MO_swap 14 = .ok (.if_icmp .ge 53, 3) := by decide +kernel
theorem d_MO_swap_17 : decode b_MO_swap 17 = .ok (.aload_n 0, 1) := by decide +kernel
theorem d_MO_swap_18 : decode b_MO_swap 18 = .ok (.getfield 7, 3) := by decide +kernel
theorem d_MO_swap_21 : decode b_MO_swap 21 = .ok (.iload_n 2, 1) := by decide +kernel
theorem d_MO_swap_22 : decode b_MO_swap 22 = .ok (.iaload, 1) := by decide +kernel
theorem d_MO_swap_23 : decode b_MO_swap 23 = .ok (.istore_n 3, 1) := by decide +kernel
theorem d_MO_swap_24 : decode b_MO_swap 24 = .ok (.iload_n 3, 1) := by decide +kernel
theorem d_MO_swap_25 : decode b_MO_swap 25 = .ok (.aload_n 0, 1) := by decide +kernel
theorem d_MO_swap_26 : decode b_MO_swap 26 = .ok (.getfield 13, 3) := by decide +kernel
theorem d_MO_swap_29 : decode b_MO_swap 29 = .ok (.iload_n 2, 1) := by decide +kernel
theorem d_MO_swap_30 : decode b_MO_swap 30 = .ok (.iaload, 1) := by decide +kernel
theorem d_MO_swap_31 : decode b_MO_swap 31 = .ok (.if_icmp .eq 9, 3) := by decide +kernel
theorem d_MO_swap_34 : decode b_MO_swap 34 = .ok (.iload_n 1, 1) := by decide +kernel
theorem d_MO_swap_35 : decode b_MO_swap 35 = .ok (.iconst 1, 1) := by decide +kernel
theorem d_MO_swap_36 : decode b_MO_swap 36 = .ok (.iadd, 1) := by decide +kernel
theorem d_MO_swap_37 : decode b_MO_swap 37 = .ok (.goto 4, 3) := by decide +kernel
theorem d_MO_swap_40 : decode b_MO_swap 40 = .ok (.iload_n 1, 1) := by decide +kernel
theorem d_MO_swap_41 : decode b_MO_swap 41 = .ok (.istore_n 1, 1) := by decide +kernel
theorem d_MO_swap_42 : decode b_MO_swap 42 = .ok (.aload_n 0, 1) := by decide +kernel
theorem d_MO_swap_43 : decode b_MO_swap 43 = .ok (.getfield 7, 3) := by decide +kernel
theorem d_MO_swap_46 : decode b_MO_swap 46 = .ok (.iload_n 2, 1) := by decide +kernel
theorem d_MO_swap_47 : decode b_MO_swap 47 = .ok (.aload_n 0, 1) := by decide +kernel
theorem d_MO_swap_48 : decode b_MO_swap 48 = .ok (.getfield 13, 3) := by decide +kernel
theorem d_MO_swap_51 : decode b_MO_swap 51 = .ok (.iload_n 2, 1) := by decide +kernel
theorem d_MO_swap_52 : decode b_MO_swap 52 = .ok (.iaload, 1) := by decide +kernel
theorem d_MO_swap_53 : decode b_MO_swap 53 = .ok (.iastore, 1) := by decide +kernel
theorem d_MO_swap_54 : decode b_MO_swap 54 = .ok (.aload_n 0, 1) := by decide +kernel
theorem d_MO_swap_55 : decode b_MO_swap 55 = .ok (.getfield 13, 3) := by decide +kernel
theorem d_MO_swap_58 : decode b_MO_swap 58 = .ok (.iload_n 2, 1) := by decide +kernel
theorem d_MO_swap_59 : decode b_MO_swap 59 = .ok (.iload_n 3, 1) := by decide +kernel
theorem d_MO_swap_60 : decode b_MO_swap 60 = .ok (.iastore, 1) := by decide +kernel
theorem d_MO_swap_61 : decode b_MO_swap 61 = .ok (.iinc 2 1, 3) := by decide +kernel
theorem d_MO_swap_64 : decode b_MO_swap 64 = .ok (.goto (-55), 3) := by decide +kernel
theorem d_MO_swap_67 : decode b_MO_swap 67 = .ok (.iload_n 1, 1) := by decide +kernel
theorem d_MO_swap_68 : decode b_MO_swap 68 = .ok (.ireturn, 1) := by decide +kernel
theorem d_MO_ground_0 : decode b_MO_ground 0 = .ok (.iconst 0, 1) := by decide +kernel
theorem d_MO_ground_1 : decode b_MO_ground 1 = .ok (.istore_n 1, 1) := by decide +kernel
theorem d_MO_ground_2 : decode b_MO_ground 2 = .ok (.iconst 0, 1) := by decide +kernel
theorem d_MO_ground_3 : decode b_MO_ground 3 = .ok (.istore_n 2, 1) := by decide +kernel
theorem d_MO_ground_4 : decode b_MO_ground 4 = .ok (.iconst 0, 1) := by decide +kernel
theorem d_MO_ground_5 : decode b_MO_ground 5 = .ok (.istore_n 3, 1) := by decide +kernel
theorem d_MO_ground_6 : decode b_MO_ground 6 = .ok (.iload_n 3, 1) := by decide +kernel
theorem d_MO_ground_7 : decode b_MO_ground 7 = .ok (.sipush 256, 3) := by decide +kernel
theorem d_MO_ground_10 : decode b_MO_ground 10 = .ok (.if_icmp .ge 63, 3) := by decide +kernel
theorem d_MO_ground_13 : decode b_MO_ground 13 = .ok (.iconst 0, 1) := by decide +kernel
theorem d_MO_ground_14 : decode b_MO_ground 14 = .ok (.istore 4, 2) := by decide +kernel
theorem d_MO_ground_16 : decode b_MO_ground 16 = .ok (.iconst 0, 1) := by decide +kernel
theorem d_MO_ground_17 : decode b_MO_ground 17 = .ok (.istore 5, 2) := by decide +kernel
theorem d_MO_ground_19 : decode b_MO_ground 19 = .ok (.iload 5, 2) := by decide +kernel
theorem d_MO_ground_21 : decode b_MO_ground 21 = .ok (.aload_n 0, 1) := by decide +kernel
theorem d_MO_ground_22 : decode b_MO_ground 22 = .ok (.invokevirtual 50, 3) := by decide +kernel
theorem d_MO_ground_25 : decode b_MO_ground 25 = .ok (.if_icmp .ge 31, 3) := by decide +kernel
theorem d_MO_ground_28 : decode b_MO_ground 28 = .ok (.aload_n 0, 1) := by decide +kernel
theorem d_MO_ground_29 : decode b_MO_ground 29 = .ok (.getfield 7, 3) := by decide +kernel
theorem d_MO_ground_32 : decode b_MO_ground 32 = .ok (.iload 5, 2) := by decide +kernel
theorem d_MO_ground_34 : decode b_MO_ground 34 = .ok (.iaload, 1) := by decide +kernel
theorem d_MO_ground_35 : decode b_MO_ground 35 = .ok (.iload_n 3, 1) := by decide +kernel
theorem d_MO_ground_36 : decode b_MO_ground 36 = .ok (.if_icmp .ne 10, 3) := by decide +kernel
theorem d_MO_ground_39 : decode b_MO_ground 39 = .ok (.iload 4, 2) := by decide +kernel
theorem d_MO_ground_41 : decode b_MO_ground 41 = .ok (.iconst 1, 1) := by decide +kernel
theorem d_MO_ground_42 : decode b_MO_ground 42 = .ok (.iadd, 1) := by decide +kernel
theorem d_MO_ground_43 : decode b_MO_ground 43 = .ok (.goto 5, 3) := by decide +kernel
theorem d_MO_ground_46 : decode b_MO_ground 46 = .ok (.iload 4, 2) := by decide +kernel
theorem d_MO_ground_48 : decode b_MO_ground 48 = .ok (.istore 4, 2) := by decide +kernel
theorem d_MO_ground_50 : decode b_MO_ground 50 = .ok (.iinc 5 1, 3) := by decide +kernel
theorem d_MO_ground_53 : decode b_MO_ground 53 = .ok (.goto (-34), 3) := by decide +kernel
theorem d_MO_ground_56 : decode b_MO_ground 56 = .ok (.iload 4, 2) := by decide +kernel
theorem d_MO_ground_58 : decode b_MO_ground 58 = .ok (.iload_n 1, 1) := by decide +kernel
theorem d_MO_ground_59 : decode b_MO_ground 59 = .ok (.if_icmp .le 8, 3) := by decide +kernel
theorem d_MO_ground_62 : decode b_MO_ground 62 = .ok (.iload 4, 2) := by decide +kernel
theorem d_MO_ground_64 : decode b_MO_ground 64 = .ok (.istore_n 1, 1) := by decide +kernel
theorem d_MO_ground_65 : decode b_MO_ground 65 = .ok (.iload_n 3, 1) := by decide +kernel
theorem d_MO_ground_66 : decode b_MO_ground 66 = .ok (.istore_n 2, 1) := by decide +kernel
theorem d_MO_ground_67 : decode b_MO_ground 67 = .ok (.iinc 3 1, 3) := by decide +kernel
theorem d_MO_ground_70 : decode b_MO_ground 70 = .ok (.goto (-64), 3) := by decide +kernel
theorem d_MO_ground_73 : decode b_MO_ground 73 = .ok (.iload_n 2, 1) := by decide +kernel
theorem d_MO_ground_74 : decode b_MO_ground 74 = .ok (.ireturn, 1) := by decide +kernel
theorem d_MO_addPart_0 : decode b_MO_addPart 0 = .ok (.bipush 6, 2) := by decide +kernel
theorem d_MO_addPart_2 : decode b_MO_addPart 2 = .ok (.aload_n 0, 1) := by decide +kernel
theorem d_MO_addPart_3 : decode b_MO_addPart 3 = .ok (.getfield 54, 3) := by decide +kernel
theorem d_MO_addPart_6 : decode b_MO_addPart 6 = .ok (.imul, 1) := by decide +kernel
theorem d_MO_addPart_7 : decode b_MO_addPart 7 = .ok (.istore 7, 2) := by decide +kernel
theorem d_MO_addPart_9 : decode b_MO_addPart 9 = .ok (.aload_n 0, 1) := by decide +kernel
theorem d_MO_addPart_10 : decode b_MO_addPart 10 = .ok (.getfield 29, 3) := by decide +kernel
theorem d_MO_addPart_13 : decode b_MO_addPart 13 = .ok (.iload 7, 2) := by decide +kernel
theorem d_MO_addPart_15 : decode b_MO_addPart 15 = .ok (.iload_n 1, 1) := by decide +kernel
theorem d_MO_addPart_16 : decode b_MO_addPart 16 = .ok (.iastore, 1) := by decide +kernel
theorem d_MO_addPart_17 : decode b_MO_addPart 17 = .ok (.aload_n 0, 1) := by decide +kernel
theorem d_MO_addPart_18 : decode b_MO_addPart 18 = .ok (.getfield 29, 3) := by decide +kernel
theorem d_MO_addPart_21 : decode b_MO_addPart 21 = .ok (.iload 7, 2) := by decide +kernel
theorem d_MO_addPart_23 : decode b_MO_addPart 23 = .ok (.iconst 1, 1) := by decide +kernel
theorem d_MO_addPart_24 : decode b_MO_addPart 24 = .ok (.iadd, 1) := by decide +kernel
theorem d_MO_addPart_25 : decode b_MO_addPart 25 = .ok (.iload_n 2, 1) := by decide +kernel
theorem d_MO_addPart_26 : decode b_MO_addPart 26 = .ok (.iastore, 1) := by decide +kernel
theorem d_MO_addPart_27 : decode b_MO_addPart 27 = .ok (.aload_n 0, 1) := by decide +kernel
theorem d_MO_addPart_28 : decode b_MO_addPart 28 = .ok (.getfield 29, 3) := by decide +kernel
theorem d_MO_addPart_31 : decode b_MO_addPart 31 = .ok (.iload 7, 2) := by decide +kernel
theorem d_MO_addPart_33 : decode b_MO_addPart 33 = .ok (.iconst 2, 1) := by decide +kernel
theorem d_MO_addPart_34 : decode b_MO_addPart 34 = .ok (.iadd, 1) := by decide +kernel
theorem d_MO_addPart_35 : decode b_MO_addPart 35 = .ok (.iload_n 3, 1) := by decide +kernel
theorem d_MO_addPart_36 : decode b_MO_addPart 36 = .ok (.iastore, 1) := by decide +kernel
theorem d_MO_addPart_37 : decode b_MO_addPart 37 = .ok (.aload_n 0, 1) := by decide +kernel
theorem d_MO_addPart_38 : decode b_MO_addPart 38 = .ok (.getfield 29, 3) := by decide +kernel
theorem d_MO_addPart_41 : decode b_MO_addPart 41 = .ok (.iload 7, 2) := by decide +kernel
theorem d_MO_addPart_43 : decode b_MO_addPart 43 = .ok (.iconst 3, 1) := by decide +kernel
theorem d_MO_addPart_44 : decode b_MO_addPart 44 = .ok (.iadd, 1) := by decide +kernel
theorem d_MO_addPart_45 : decode b_MO_addPart 45 = .ok (.iload 4, 2) := by decide +kernel
theorem d_MO_addPart_47 : decode b_MO_addPart 47 = .ok (.iastore, 1) := by decide +kernel
theorem d_MO_addPart_48 : decode b_MO_addPart 48 = .ok (.aload_n 0, 1) := by decide +kernel
theorem d_MO_addPart_49 : decode b_MO_addPart 49 = .ok (.getfield 29, 3) := by decide +kernel
theorem d_MO_addPart_52 : decode b_MO_addPart 52 = .ok (.iload 7, 2) := by decide +kernel
theorem d_MO_addPart_54 : decode b_MO_addPart 54 = .ok (.iconst 4, 1) := by decide +kernel
theorem d_MO_addPart_55 : decode b_MO_addPart 55 = .ok (.iadd, 1) := by decide +kernel
theorem d_MO_addPart_56 : decode b_MO_addPart 56 = .ok (.iload 5, 2) := by decide +kernel
theorem d_MO_addPart_58 : decode b_MO_addPart 58 = .ok (.iastore, 1) := by decide +kernel
theorem d_MO_addPart_59 : decode b_MO_addPart 59 = .ok (.aload_n 0, 1) := by decide +kernel
theorem d_MO_addPart_60 : decode b_MO_addPart 60 = .ok (.getfield 29, 3) := by decide +kernel
theorem d_MO_addPart_63 : decode b_MO_addPart 63 = .ok (.iload 7, 2) := by decide +kernel
theorem d_MO_addPart_65 : decode b_MO_addPart 65 = .ok (.iconst 5, 1) := by decide +kernel
theorem d_MO_addPart_66 : decode b_MO_addPart 66 = .ok (.iadd, 1) := by decide +kernel
theorem d_MO_addPart_67 : decode b_MO_addPart 67 = .ok (.iload 6, 2) := by decide +kernel
theorem d_MO_addPart_69 : decode b_MO_addPart 69 = .ok (.iastore, 1) := by decide +kernel
theorem d_MO_addPart_70 : decode b_MO_addPart 70 = .ok (.aload_n 0, 1) := by decide +kernel
theorem d_MO_addPart_71 : decode b_MO_addPart 71 = .ok (.dup, 1) := by decide +kernel
theorem d_MO_addPart_72 : decode b_MO_addPart 72 = .ok (.getfield 54, 3) := by decide +kernel
theorem d_MO_addPart_75 : decode b_MO_addPart 75 = .ok (.iconst 1, 1) := by decide +kernel
theorem d_MO_addPart_76 : decode b_MO_addPart 76 = .ok (.iadd, 1) := by decide +kernel
theorem d_MO_addPart_77 : decode b_MO_addPart 77 = .ok (.putfield 54, 3) := by decide +kernel
theorem d_MO_addPart_80 : decode b_MO_addPart 80 = .ok (.return_, 1) := by decide +kernel
theorem d_MO_isOf_0 : decode b_MO_isOf 0 = .ok (.aload_n 0, 1) := by decide +kernel
theorem d_MO_isOf_1 : decode b_MO_isOf 1 = .ok (.iload_n 1, 1) := by decide +kernel
theorem d_MO_isOf_2 : decode b_MO_isOf 2 = .ok (.iload_n 2, 1) := by decide +kernel
theorem d_MO_isOf_3 : decode b_MO_isOf 3 = .ok (.invokevirtual 46, 3) := by decide +kernel
theorem d_MO_isOf_6 : decode b_MO_isOf 6 = .ok (.ifCond .eq 40, 3) := by decide +kernel
theorem d_MO_isOf_9 : decode b_MO_isOf 9 = .ok (.aload_n 0, 1) := by decide +kernel
theorem d_MO_isOf_10 : decode b_MO_isOf 10 = .ok (.getfield 16, 3) := by decide +kernel
theorem d_MO_isOf_13 : decode b_MO_isOf 13 = .ok (.aload_n 0, 1) := by decide +kernel
theorem d_MO_isOf_14 : decode b_MO_isOf 14 = .ok (.getfield 32, 3) := by decide +kernel
theorem d_MO_isOf_17 : decode b_MO_isOf 17 = .ok (.iload_n 2, 1) := by decide +kernel
theorem d_MO_isOf_18 : decode b_MO_isOf 18 = .ok (.imul, 1) := by decide +kernel
theorem d_MO_isOf_19 : decode b_MO_isOf 19 = .ok (.iload_n 1, 1) := by decide +kernel
theorem d_MO_isOf_20 : decode b_MO_isOf 20 = .ok (.iadd, 1) := by decide +kernel
theorem d_MO_isOf_21 : decode b_MO_isOf 21 = .ok (.baload, 1) := by decide +kernel
theorem d_MO_isOf_22 : decode b_MO_isOf 22 = .ok (.ifCond .eq 24, 3) := by decide +kernel
theorem d_MO_isOf_25 : decode b_MO_isOf 25 = .ok (.aload_n 0, 1) := by decide +kernel
theorem d_MO_isOf_26 : decode b_MO_isOf 26 = .ok (.getfield 7, 3) := by decide +kernel
theorem d_MO_isOf_29 : decode b_MO_isOf 29 = .ok (.aload_n 0, 1) := by decide +kernel
theorem d_MO_isOf_30 : decode b_MO_isOf 30 = .ok (.getfield 32, 3) := by decide +kernel
theorem d_MO_isOf_33 : decode b_MO_isOf 33 = .ok (.iload_n 2, 1) := by decide +kernel
theorem d_MO_isOf_34 : decode b_MO_isOf 34 = .ok (.imul, 1) := by decide +kernel
theorem d_MO_isOf_35 : decode b_MO_isOf 35 = .ok (.iload_n 1, 1) := by decide +kernel
theorem d_MO_isOf_36 : decode b_MO_isOf 36 = .ok (.iadd, 1) := by decide +kernel
theorem d_MO_isOf_37 : decode b_MO_isOf 37 = .ok (.iaload, 1) := by decide +kernel
theorem d_MO_isOf_38 : decode b_MO_isOf 38 = .ok (.iload_n 3, 1) := by decide +kernel
theorem d_MO_isOf_39 : decode b_MO_isOf 39 = .ok (.if_icmp .ne 7, 3) := by decide +kernel
theorem d_MO_isOf_42 : decode b_MO_isOf 42 = .ok (.iconst 1, 1) := by decide +kernel
theorem d_MO_isOf_43 : decode b_MO_isOf 43 = .ok (.goto 4, 3) := by decide +kernel
theorem d_MO_isOf_46 : decode b_MO_isOf 46 = .ok (.iconst 0, 1) := by decide +kernel
theorem d_MO_isOf_47 : decode b_MO_isOf 47 = .ok (.ireturn, 1) := by decide +kernel
theorem d_MO_findRectangle_0 : decode b_MO_findRectangle 0 = .ok (.aload_n 0, 1) := by decide +kernel
theorem d_MO_findRectangle_1 : decode b_MO_findRectangle 1 = .ok (.getfield 7, 3) := by decide +kernel
theorem d_MO_findRectangle_4 : decode b_MO_findRectangle 4 = .ok (.aload_n 0, 1) := by decide +kernel
theorem d_MO_findRectangle_5 : decode b_MO_findRectangle 5 = .ok (.getfield 32, 3) := by decide +kernel
theorem d_MO_findRectangle_8 : decode b_MO_findRectangle 8 = .ok (.iload_n 2, 1) := by decide +kernel
theorem d_MO_findRectangle_9 : decode b_MO_findRectangle 9 = .ok (.imul, 1) := by decide +kernel
theorem d_MO_findRectangle_10 : decode b_MO_findRectangle 10 = .ok (.iload_n 1, 1) := by decide +kernel
theorem d_MO_findRectangle_11 : decode b_MO_findRectangle 11 = .ok (.iadd, 1) := by decide +kernel
theorem d_MO_findRectangle_12 : decode b_MO_findRectangle 12 = .ok (.iaload, 1) := by decide +kernel
theorem d_MO_findRectangle_13 : decode b_MO_findRectangle 13 = .ok (.istore_n 3, 1) := by decide +kernel
theorem d_MO_findRectangle_14 : decode b_MO_findRectangle 14 = .ok (.aload_n 0, 1) := by decide +kernel
theorem d_MO_findRectangle_15 : decode b_MO_findRectangle 15 = .ok (.iconst 0, 1) := by decide +kernel
theorem d_MO_findRectangle_16 : decode b_MO_findRectangle 16 = .ok (.putfield 57, 3) := by decide +kernel
theorem d_MO_findRectangle_19 : decode b_MO_findRectangle 19 = .ok (.aload_n 0, 1) := by decide +kernel
theorem d_MO_findRectangle_20 : decode b_MO_findRectangle 20 = .ok (.getfield 32, 3) := by decide +kernel
theorem d_MO_findRectangle_23 : decode b_MO_findRectangle 23 = .ok (.istore 4, 2) := by decide +kernel
theorem d_MO_findRectangle_25 : decode b_MO_findRectangle 25 = .ok (.iconst 1, 1) := by decide +kernel
theorem d_MO_findRectangle_26 : decode b_MO_findRectangle 26 = .ok (.istore 5, 2) := by decide +kernel
theorem d_MO_findRectangle_28 : decode b_MO_findRectangle 28 = .ok (.aload_n 0, 1) := by decide +kernel
theorem d_MO_findRectangle_29 : decode b_MO_findRectangle 29 = .ok (.iload_n 1, 1) := by decide +kernel
theorem d_MO_findRectangle_30 : decode b_MO_findRectangle 30 = .ok (.iload_n 2, 1) := by decide +kernel
theorem d_MO_findRectangle_31 : decode b_MO_findRectangle 31 = .ok (.iload 5, 2) := by decide +kernel
theorem d_MO_findRectangle_33 : decode b_MO_findRectangle 33 = .ok (.iadd, 1) := by decide +kernel
theorem d_MO_findRectangle_34 : decode b_MO_findRectangle 34 = .ok (.iconst 1, 1) := by decide +kernel
theorem d_MO_findRectangle_35 : decode b_MO_findRectangle 35 = .ok (.isub, 1) := by decide +kernel
theorem d_MO_findRectangle_36 : decode b_MO_findRectangle 36 = .ok (.iload_n 3, 1) := by decide +kernel
theorem d_MO_findRectangle_37 : decode b_MO_findRectangle 37 = .ok (.invokevirtual 60, 3) := by decide +kernel
theorem d_MO_findRectangle_40 : decode b_MO_findRectangle 40 = .ok (.ifCond .eq 101, 3) := by decide +kernel
theorem d_MO_findRectangle_43 : decode b_MO_findRectangle 43 = .ok (.iconst 0, 1) := by decide +kernel
theorem d_MO_findRectangle_44 : decode b_MO_findRectangle 44 = .ok (.istore 6, 2) := by decide +kernel
theorem d_MO_findRectangle_46 : decode b_MO_findRectangle 46 = .ok (.iload 6, 2) := by decide +kernel
theorem d_MO_findRectangle_48 : decode b_MO_findRectangle 48 = .ok (.iload 4, 2) := by decide +kernel
theorem d_MO_findRectangle_50 : decode b_MO_findRectangle 50 = .ok (.if_icmp .ge 27, 3) := by decide +kernel
theorem d_MO_findRectangle_53 : decode b_MO_findRectangle 53 = .ok (.aload_n 0, 1) := by decide +kernel
theorem d_MO_findRectangle_54 : decode b_MO_findRectangle 54 = .ok (.iload_n 1, 1) := by decide +kernel
theorem d_MO_findRectangle_55 : decode b_MO_findRectangle 55 = .ok (.iload 6, 2) := by decide +kernel
theorem d_MO_findRectangle_57 : decode b_MO_findRectangle 57 = .ok (.iadd, 1) := by decide +kernel
theorem d_MO_findRectangle_58 : decode b_MO_findRectangle 58 = .ok (.iload_n 2, 1) := by decide +kernel
theorem d_MO_findRectangle_59 : decode b_MO_findRectangle 59 = .ok (.iload 5, 2) := by decide +kernel
theorem d_MO_findRectangle_61 : decode b_MO_findRectangle 61 = .ok (.iadd, 1) := by decide +kernel
theorem d_MO_findRectangle_62 : decode b_MO_findRectangle 62 = .ok (.iconst 1, 1) := by decide +kernel
theorem d_MO_findRectangle_63 : decode b_MO_findRectangle 63 = .ok (.isub, 1) := by decide +kernel
theorem d_MO_findRectangle_64 : decode b_MO_findRectangle 64 = .ok (.iload_n 3, 1) := by decide +kernel
theorem d_MO_findRectangle_65 : decode b_MO_findRectangle 65 = .ok (.invokevirtual 60, 3) := by decide +kernel
theorem d_MO_findRectangle_68 : decode b_MO_findRectangle 68 = .ok (.ifCond .eq 9, 3) := by decide +kernel
theorem d_MO_findRectangle_71 : decode b_MO_findRectangle 71 = .ok (.iinc 6 1, 3) := by decide +kernel
theorem d_MO_findRectangle_74 : decode b_MO_findRectangle 74 = .ok (.goto (-28), 3) := by decide +kernel
theorem d_MO_findRectangle_77 : decode b_MO_findRectangle 77 = .ok (.iload 6, 2) := by decide +kernel
theorem d_MO_findRectangle_79 : decode b_MO_findRectangle 79 = .ok (.istore 4, 2) := by decide +kernel
theorem d_MO_findRectangle_81 : decode b_MO_findRectangle 81 = .ok (.iload 6, 2) := by decide +kernel
theorem d_MO_findRectangle_83 : decode b_MO_findRectangle 83 = .ok (.iload 5, 2) := by decide +kernel
theorem d_MO_findRectangle_85 : decode b_MO_findRectangle 85 = .ok (.imul, 1) := by decide +kernel
theorem d_MO_findRectangle_86 : decode b_MO_findRectangle 86 = .ok (.aload_n 0, 1) := by decide +kernel
theorem d_MO_findRectangle_87 : decode b_MO_findRectangle 87 = .ok (.getfield 57, 3) := by decide +kernel
theorem d_MO_findRectangle_90 : decode b_MO_findRectangle 90 = .ok (.if_icmp .gt 24, 3) := by decide +kernel
theorem d_MO_findRectangle_93 : decode b_MO_findRectangle 93 = .ok (.iload 6, 2) := by decide +kernel
theorem d_MO_findRectangle_95 : decode b_MO_findRectangle 95 = .ok (.iload 5, 2) := by decide +kernel
theorem d_MO_findRectangle_97 : decode b_MO_findRectangle 97 = .ok (.imul, 1) := by decide +kernel
theorem d_MO_findRectangle_98 : decode b_MO_findRectangle 98 = .ok (.aload_n 0, 1) := by decide +kernel
theorem d_MO_findRectangle_99 : decode b_MO_findRectangle 99 = .ok (.getfield 57, 3) := by decide +kernel
theorem d_MO_findRectangle_102 : decode b_MO_findRectangle 102 = .ok (.if_icmp .ne 33, 3) := by decide +kernel
theorem d_MO_findRectangle_105 : decode b_MO_findRectangle 105 = .ok (.iload 6, 2) := by decide +kernel
theorem d_MO_findRectangle_107 : decode b_MO_findRectangle 107 = .ok (.aload_n 0, 1) := by decide +kernel
theorem d_MO_findRectangle_108 : decode b_MO_findRectangle 108 = .ok (.getfield 63, 3) := by decide +kernel
theorem d_MO_findRectangle_111 : decode b_MO_findRectangle 111 = .ok (.if_icmp .le 24, 3) := by decide +kernel
theorem d_MO_findRectangle_114 : decode b_MO_findRectangle 114 = .ok (.aload_n 0, 1) := by decide +kernel
theorem d_MO_findRectangle_115 : decode b_MO_findRectangle 115 = .ok (.iload 6, 2) := by decide +kernel
theorem d_MO_findRectangle_117 : decode b_MO_findRectangle 117 = .ok (.iload 5, 2) := by decide +kernel
theorem d_MO_findRectangle_119 : decode b_MO_findRectangle 119 = .ok (.imul, 1) := by decide +kernel
theorem d_MO_findRectangle_120 : decode b_MO_findRectangle 120 = .ok (.putfield 57, 3) := by decide +kernel
theorem d_MO_findRectangle_123 : decode b_MO_findRectangle 123 = .ok (.aload_n 0, 1) := by decide +kernel
theorem d_MO_findRectangle_124 : decode b_MO_findRectangle 124 = .ok (.iload 6, 2) := by decide +kernel
theorem d_MO_findRectangle_126 : decode b_MO_findRectangle 126 = .ok (.putfield 63, 3) := by decide +kernel
theorem d_MO_findRectangle_129 : decode b_MO_findRectangle 129 = .ok (.aload_n 0, 1) := by decide +kernel
theorem d_MO_findRectangle_130 : decode b_MO_findRectangle 130 = .ok (.iload 5, 2) := by decide +kernel
theorem d_MO_findRectangle_132 : decode b_MO_findRectangle 132 = .ok (.putfield 66, 3) := by decide +kernel
theorem d_MO_findRectangle_135 : decode b_MO_findRectangle 135 = .ok (.iinc 5 1, 3) := by decide +kernel
theorem d_MO_findRectangle_138 : decode b_MO_findRectangle 138 = .ok (.goto (-110), 3) := by decide +kernel
theorem d_MO_findRectangle_141 : decode b_MO_findRectangle 141 = .ok (.return_, 1) := by decide +kernel
theorem d_MO_cover_0 : decode b_MO_cover 0 = .ok (.iload_n 2, 1) := by decide +kernel
theorem d_MO_cover_1 : decode b_MO_cover 1 = .ok (.istore 5, 2) := by decide +kernel
theorem d_MO_cover_3 : decode b_MO_cover 3 = .ok (.iload 5, 2) := by decide +kernel
theorem d_MO_cover_5 : decode b_MO_cover 5 = .ok (.iload_n 2, 1) := by decide +kernel
theorem d_MO_cover_6 : decode b_MO_cover 6 = .ok (.iload 4, 2) := by decide +kernel
theorem d_MO_cover_8 : decode b_MO_cover 8 = .ok (.iadd, 1) := by decide +kernel
theorem d_MO_cover_9 : decode b_MO_cover 9 = .ok (.if_icmp .ge 42, 3) := by decide +kernel
theorem d_MO_cover_12 : decode b_MO_cover 12 = .ok (.iload_n 1, 1) := by decide +kernel
theorem d_MO_cover_13 : decode b_MO_cover 13 = .ok (.istore 6, 2) := by decide +kernel
theorem d_MO_cover_15 : decode b_MO_cover 15 = .ok (.iload 6, 2) := by decide +kernel
theorem d_MO_cover_17 : decode b_MO_cover 17 = .ok (.iload_n 1, 1) := by decide +kernel
theorem d_MO_cover_18 : decode b_MO_cover 18 = .ok (.iload_n 3, 1) := by decide +kernel
theorem d_MO_cover_19 : decode b_MO_cover 19 = .ok (.iadd, 1) := by decide +kernel
theorem d_MO_cover_20 : decode b_MO_cover 20 = .ok (.if_icmp .ge 25, 3) := by decide +kernel
theorem d_MO_cover_23 : decode b_MO_cover 23 = .ok (.aload_n 0, 1) := by decide +kernel
theorem d_MO_cover_24 : decode b_MO_cover 24 = .ok (.getfield 16, 3) := by decide +kernel
theorem d_MO_cover_27 : decode b_MO_cover 27 = .ok (.aload_n 0, 1) := by decide +kernel
theorem d_MO_cover_28 : decode b_MO_cover 28 = .ok (.getfield 32, 3) := by decide +kernel
theorem d_MO_cover_31 : decode b_MO_cover 31 = .ok (.iload 5, 2) := by decide +kernel
theorem d_MO_cover_33 : decode b_MO_cover 33 = .ok (.imul, 1) := by decide +kernel
theorem d_MO_cover_34 : decode b_MO_cover 34 = .ok (.iload 6, 2) := by decide +kernel
theorem d_MO_cover_36 : decode b_MO_cover 36 = .ok (.iadd, 1) := by decide +kernel
theorem d_MO_cover_37 : decode b_MO_cover 37 = .ok (.iconst 0, 1) := by decide +kernel
theorem d_MO_cover_38 : decode b_MO_cover 38 = .ok (.bastore, 1) := by decide +kernel
theorem d_MO_cover_39 : decode b_MO_cover 39 = .ok (.iinc 6 1, 3) := by decide +kernel
theorem d_MO_cover_42 : decode b_MO_cover 42 = .ok (.goto (-27), 3) := by decide +kernel
theorem d_MO_cover_45 : decode b_MO_cover 45 = .ok (.iinc 5 1, 3) := by decide +kernel
theorem d_MO_cover_48 : decode b_MO_cover 48 = .ok (.goto (-45), 3) := by decide +kernel
theorem d_MO_cover_51 : decode b_MO_cover 51 = .ok (.return_, 1) := by decide +kernel
