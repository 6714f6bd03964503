theorem vw_MO_69 : VW R_MO 69 R_MO y_MO_findCopy b_MO_findCopy 7 (none) := ⟨aw_mem (List.mem_of_getElem? (i := 684) (by decide +kernel)) (by decide +kernel), aw_mem (List.mem_of_getElem? (i := 686) (by decide +kernel)) (by decide +kernel), aw_mem (List.mem_of_getElem? (i := 20) (by decide +kernel)) (by decide +kernel), aw_mem (List.mem_of_getElem? (i := 33) (by decide +kernel)) (by decide +kernel), aw_mem (List.mem_of_getElem? (i := 687) (by decide +kernel)) (by decide +kernel)⟩
theorem md_MO_findCopy : MD y_MO_findCopy 3 := by decide +kernel
theorem vw_MO_73 : VW R_MO 73 R_MO y_MO_addPart b_MO_addPart 8 (none) := ⟨aw_mem (List.mem_of_getElem? (i := 672) (by decide +kernel)) (by decide +kernel), aw_mem (List.mem_of_getElem? (i := 674) (by decide +kernel)) (by decide +kernel), aw_mem (List.mem_of_getElem? (i := 17) (by decide +kernel)) (by decide +kernel), aw_mem (List.mem_of_getElem? (i := 33) (by decide +kernel)) (by decide +kernel), aw_mem (List.mem_of_getElem? (i := 675) (by decide +kernel)) (by decide +kernel)⟩
theorem md_MO_addPart : MD y_MO_addPart 6 := by decide +kernel
theorem vw_MO_77 : VW R_MO 77 R_MO y_MO_cover b_MO_cover 7 (none) := ⟨aw_mem (List.mem_of_getElem? (i := 676) (by decide +kernel)) (by decide +kernel), aw_mem (List.mem_of_getElem? (i := 678) (by decide +kernel)) (by decide +kernel), aw_mem (List.mem_of_getElem? (i := 18) (by decide +kernel)) (by decide +kernel), aw_mem (List.mem_of_getElem? (i := 33) (by decide +kernel)) (by decide +kernel), aw_mem (List.mem_of_getElem? (i := 679) (by decide +kernel)) (by decide +kernel)⟩
theorem md_MO_cover : MD y_MO_cover 4 := by decide +kernel
theorem k_MO_81 : Cond.fieldLink R_MO 81 R_MO "toldSize" "I" ∈ AW := aw_mem (List.mem_of_getElem? (i := 573) (by decide +kernel)) (by decide +kernel)
theorem vw_MO_84 : VW R_MO 84 R_MO y_MO_ground b_MO_ground 6 (some .int) := ⟨aw_mem (List.mem_of_getElem? (i := 660) (by decide +kernel)) (by decide +kernel), aw_mem (List.mem_of_getElem? (i := 662) (by decide +kernel)) (by decide +kernel), aw_mem (List.mem_of_getElem? (i := 14) (by decide +kernel)) (by decide +kernel), aw_mem (List.mem_of_getElem? (i := 33) (by decide +kernel)) (by decide +kernel), aw_mem (List.mem_of_getElem? (i := 663) (by decide +kernel)) (by decide +kernel)⟩
theorem md_MO_ground : MD y_MO_ground 0 := by decide +kernel
theorem vw_MO_87 : VW R_MO 87 R_MO y_MO_findRectangle b_MO_findRectangle 7 (none) := ⟨aw_mem (List.mem_of_getElem? (i := 664) (by decide +kernel)) (by decide +kernel), aw_mem (List.mem_of_getElem? (i := 666) (by decide +kernel)) (by decide +kernel), aw_mem (List.mem_of_getElem? (i := 15) (by decide +kernel)) (by decide +kernel), aw_mem (List.mem_of_getElem? (i := 33) (by decide +kernel)) (by decide +kernel), aw_mem (List.mem_of_getElem? (i := 667) (by decide +kernel)) (by decide +kernel)⟩
theorem md_MO_findRectangle : MD y_MO_findRectangle 2 := by decide +kernel
theorem vw_MO_91 : VW R_MO 91 R_MO y_MO_tellRow b_MO_tellRow 5 (none) := ⟨aw_mem (List.mem_of_getElem? (i := 680) (by decide +kernel)) (by decide +kernel), aw_mem (List.mem_of_getElem? (i := 682) (by decide +kernel)) (by decide +kernel), aw_mem (List.mem_of_getElem? (i := 19) (by decide +kernel)) (by decide +kernel), aw_mem (List.mem_of_getElem? (i := 33) (by decide +kernel)) (by decide +kernel), aw_mem (List.mem_of_getElem? (i := 683) (by decide +kernel)) (by decide +kernel)⟩
theorem md_MO_tellRow : MD y_MO_tellRow 2 := by decide +kernel
theorem k_MO_94 : Cond.fieldLink R_MO 94 R_MO "plain" "Z" ∈ AW := aw_mem (List.mem_of_getElem? (i := 579) (by decide +kernel)) (by decide +kernel)
theorem vw_MO_98 : VW R_MO 98 R_MO y_MO_say b_MO_say 2 (none) := ⟨aw_mem (List.mem_of_getElem? (i := 688) (by decide +kernel)) (by decide +kernel), aw_mem (List.mem_of_getElem? (i := 690) (by decide +kernel)) (by decide +kernel), aw_mem (List.mem_of_getElem? (i := 21) (by decide +kernel)) (by decide +kernel), aw_mem (List.mem_of_getElem? (i := 33) (by decide +kernel)) (by decide +kernel), aw_mem (List.mem_of_getElem? (i := 691) (by decide +kernel)) (by decide +kernel)⟩
theorem md_MO_say : MD y_MO_say 1 := by decide +kernel
theorem k_MO_102 : Cond.fieldLink R_MO 102 R_MO "fedSize" "I" ∈ AW := aw_mem (List.mem_of_getElem? (i := 575) (by decide +kernel)) (by decide +kernel)
theorem d_MO_findCopy_0 : decode b_MO_findCopy 0 = .ok (.aload_n 0, 1) := by decide +kernel
theorem d_MO_findCopy_1 : decode b_MO_findCopy 1 = .ok (.iconst 0, 1) := by decide +kernel
theorem d_MO_findCopy_2 : decode b_MO_findCopy 2 = .ok (.putfield 57, 3) := by decide +kernel
theorem d_MO_findCopy_5 : decode b_MO_findCopy 5 = .ok (.iconst 1, 1) := by decide +kernel
theorem d_MO_findCopy_6 : decode b_MO_findCopy 6 = .ok (.istore 4, 2) := by decide +kernel
theorem d_MO_findCopy_8 : decode b_MO_findCopy 8 = .ok (.iload 4, 2) := by decide +kernel
theorem d_MO_findCopy_10 : decode b_MO_findCopy 10 = .ok (.iconst 4, 1) := by decide +kernel
theorem d_MO_findCopy_11 : decode b_MO_findCopy 11 = .ok (.if_icmp .gt 126, 3) := by decide +kernel
theorem d_MO_findCopy_14 : decode b_MO_findCopy 14 = .ok (.bipush (-4), 2) := by decide +kernel
theorem d_MO_findCopy_16 : decode b_MO_findCopy 16 = .ok (.istore 5, 2) := by decide +kernel
theorem d_MO_findCopy_18 : decode b_MO_findCopy 18 = .ok (.iload 5, 2) := by decide +kernel
theorem d_MO_findCopy_20 : decode b_MO_findCopy 20 = .ok (.iconst 4, 1) := by decide +kernel
theorem d_MO_findCopy_21 : decode b_MO_findCopy 21 = .ok (.if_icmp .gt 110, 3) := by decide +kernel
theorem d_MO_findCopy_24 : decode b_MO_findCopy 24 = .ok (.iconst 0, 1) := by decide +kernel
theorem d_MO_findCopy_25 : decode b_MO_findCopy 25 = .ok (.istore 6, 2) := by decide +kernel
theorem d_MO_findCopy_27 : decode b_MO_findCopy 27 = .ok (.iload 6, 2) := by decide +kernel
theorem d_MO_findCopy_29 : decode b_MO_findCopy 29 = .ok (.iload_n 3, 1) := by decide +kernel
theorem d_MO_findCopy_30 : decode b_MO_findCopy 30 = .ok (.if_icmp .ge 68, 3) := by decide +kernel
theorem d_MO_findCopy_33 : decode b_MO_findCopy 33 = .ok (.aload_n 0, 1) := by decide +kernel
theorem d_MO_findCopy_34 : decode b_MO_findCopy 34 = .ok (.iload_n 1, 1) := by decide +kernel
theorem d_MO_findCopy_35 : decode b_MO_findCopy 35 = .ok (.iload 6, 2) := by decide +kernel
theorem d_MO_findCopy_37 : decode b_MO_findCopy 37 = .ok (.iadd, 1) := by decide +kernel
theorem d_MO_findCopy_38 : decode b_MO_findCopy 38 = .ok (.iload 5, 2) := by decide +kernel
theorem d_MO_findCopy_40 : decode b_MO_findCopy 40 = .ok (.iadd, 1) := by decide +kernel
theorem d_MO_findCopy_41 : decode b_MO_findCopy 41 = .ok (.iload_n 2, 1) := by decide +kernel
theorem d_MO_findCopy_42 : decode b_MO_findCopy 42 = .ok (.iload 4, 2) := by decide +kernel
theorem d_MO_findCopy_44 : decode b_MO_findCopy 44 = .ok (.isub, 1) := by decide +kernel
theorem d_MO_findCopy_45 : decode b_MO_findCopy 45 = .ok (.invokevirtual 46, 3) := by decide +kernel
theorem d_MO_findCopy_48 : decode b_MO_findCopy 48 = .ok (.ifCond .eq 50, 3) := by decide +kernel
theorem d_MO_findCopy_51 : decode b_MO_findCopy 51 = .ok (.aload_n 0, 1) := by decide +kernel
theorem d_MO_findCopy_52 : decode b_MO_findCopy 52 = .ok (.getfield 7, 3) := by decide +kernel
theorem d_MO_findCopy_55 : decode b_MO_findCopy 55 = .ok (.aload_n 0, 1) := by decide +kernel
theorem d_MO_findCopy_56 : decode b_MO_findCopy 56 = .ok (.getfield 32, 3) := by decide +kernel
theorem d_MO_findCopy_59 : decode b_MO_findCopy 59 = .ok (.iload_n 2, 1) := by decide +kernel
theorem d_MO_findCopy_60 : decode b_MO_findCopy 60 = .ok (.imul, 1) := by decide +kernel
theorem d_MO_findCopy_61 : decode b_MO_findCopy 61 = .ok (.iload_n 1, 1) := by decide +kernel
theorem d_MO_findCopy_62 : decode b_MO_findCopy 62 = .ok (.iadd, 1) := by decide +kernel
theorem d_MO_findCopy_63 : decode b_MO_findCopy 63 = .ok (.iload 6, 2) := by decide +kernel
theorem d_MO_findCopy_65 : decode b_MO_findCopy 65 = .ok (.iadd, 1) := by decide +kernel
theorem d_MO_findCopy_66 : decode b_MO_findCopy 66 = .ok (.iaload, 1) := by decide +kernel
theorem d_MO_findCopy_67 : decode b_MO_findCopy 67 = .ok (.aload_n 0, 1) := by decide +kernel
theorem d_MO_findCopy_68 : decode b_MO_findCopy 68 = .ok (.getfield 7, 3) := by decide +kernel
theorem d_MO_findCopy_71 : decode b_MO_findCopy 71 = .ok (.aload_n 0, 1) := by decide +kernel
theorem d_MO_findCopy_72 : decode b_MO_findCopy 72 = .ok (.getfield 32, 3) := by decide +kernel
theorem d_MO_findCopy_75 : decode b_MO_findCopy 75 = .ok (.iload_n 2, 1) := by decide +kernel
theorem d_MO_findCopy_76 : decode b_MO_findCopy 76 = .ok (.iload 4, 2) := by decide +kernel
theorem d_MO_findCopy_78 : decode b_MO_findCopy 78 = .ok (.isub, 1) := by decide +kernel
theorem d_MO_findCopy_79 : decode b_MO_findCopy 79 = .ok (.imul, 1) := by decide +kernel
theorem d_MO_findCopy_80 : decode b_MO_findCopy 80 = .ok (.iload_n 1, 1) := by decide +kernel
theorem d_MO_findCopy_81 : decode b_MO_findCopy 81 = .ok (.iadd, 1) := by decide +kernel
theorem d_MO_findCopy_82 : decode b_MO_findCopy 82 = .ok (.iload 6, 2) := by decide +kernel
theorem d_MO_findCopy_84 : decode b_MO_findCopy 84 = .ok (.iadd, 1) := by decide +kernel
theorem d_MO_findCopy_85 : decode b_MO_findCopy 85 = .ok (.iload 5, 2) := by decide +kernel
theorem d_MO_findCopy_87 : decode b_MO_findCopy 87 = .ok (.iadd, 1) := by decide +kernel
theorem d_MO_findCopy_88 : decode b_MO_findCopy 88 = .ok (.iaload, 1) := by decide +kernel
theorem d_MO_findCopy_89 : decode b_MO_findCopy 89 = .ok (.if_icmp .ne 9, 3) := by decide +kernel
theorem d_MO_findCopy_92 : decode b_MO_findCopy 92 = .ok (.iinc 6 1, 3) := by decide +kernel
theorem d_MO_findCopy_95 : decode b_MO_findCopy 95 = .ok (.goto (-68), 3) := by decide +kernel
theorem d_MO_findCopy_98 : decode b_MO_findCopy 98 = .ok (.iload 6, 2) := by decide +kernel
theorem d_MO_findCopy_100 : decode b_MO_findCopy 100 = .ok (.aload_n 0, 1) := by decide +kernel
theorem d_MO_findCopy_101 : decode b_MO_findCopy 101 = .ok (.getfield 57, 3) := by decide +kernel
theorem d_MO_findCopy_104 : decode b_MO_findCopy 104 = .ok (.if_icmp .le 21, 3) := by decide +kernel
theorem d_MO_findCopy_107 : decode b_MO_findCopy 107 = .ok (.aload_n 0, 1) := by decide +kernel
theorem d_MO_findCopy_108 : decode b_MO_findCopy 108 = .ok (.iload 6, 2) := by decide +kernel
theorem d_MO_findCopy_110 : decode b_MO_findCopy 110 = .ok (.putfield 57, 3) := by decide +kernel
theorem d_MO_findCopy_113 : decode b_MO_findCopy 113 = .ok (.aload_n 0, 1) := by decide +kernel
theorem d_MO_findCopy_114 : decode b_MO_findCopy 114 = .ok (.iload 5, 2) := by decide +kernel
theorem d_MO_findCopy_116 : decode b_MO_findCopy 116 = .ok (.putfield 63, 3) := by decide +kernel
theorem d_MO_findCopy_119 : decode b_MO_findCopy 119 = .ok (.aload_n 0, 1) := by decide +kernel
theorem d_MO_findCopy_120 : decode b_MO_findCopy 120 = .ok (.iload 4, 2) := by decide +kernel
theorem d_MO_findCopy_122 : decode b_MO_findCopy 122 = .ok (.putfield 66, 3) := by decide +kernel
theorem d_MO_findCopy_125 : decode b_MO_findCopy 125 = .ok (.iinc 5 1, 3) := by decide +kernel
theorem d_MO_findCopy_128 : decode b_MO_findCopy 128 = .ok (.goto (-110), 3) := by decide +kernel
theorem d_MO_findCopy_131 : decode b_MO_findCopy 131 = .ok (.iinc 4 1, 3) := by decide +kernel
theorem d_MO_findCopy_134 : decode b_MO_findCopy 134 = .ok (.goto (-126), 3) := by decide +kernel
theorem d_MO_findCopy_137 : decode b_MO_findCopy 137 = .ok (.return_, 1) := by decide +kernel
theorem d_MO_tellRow_0 : decode b_MO_tellRow 0 = .ok (.iconst 0, 1) := by decide +kernel
theorem d_MO_tellRow_1 : decode b_MO_tellRow 1 = .ok (.istore_n 3, 1) := by decide +kernel
theorem d_MO_tellRow_2 : decode b_MO_tellRow 2 = .ok (.iload_n 1, 1) := by decide +kernel
theorem d_MO_tellRow_3 : decode b_MO_tellRow 3 = .ok (.iload_n 3, 1) := by decide +kernel
theorem d_MO_tellRow_4 : decode b_MO_tellRow 4 = .ok (.iadd, 1) := by decide +kernel
theorem d_MO_tellRow_5 : decode b_MO_tellRow 5 = .ok (.aload_n 0, 1) := by decide +kernel
theorem d_MO_tellRow_6 : decode b_MO_tellRow 6 = .ok (.getfield 32, 3) := by decide +kernel
theorem d_MO_tellRow_9 : decode b_MO_tellRow 9 = .ok (.if_icmp .ge 27, 3) := by decide +kernel
theorem d_MO_tellRow_12 : decode b_MO_tellRow 12 = .ok (.aload_n 0, 1) := by decide +kernel
theorem d_MO_tellRow_13 : decode b_MO_tellRow 13 = .ok (.getfield 16, 3) := by decide +kernel
theorem d_MO_tellRow_16 : decode b_MO_tellRow 16 = .ok (.aload_n 0, 1) := by decide +kernel
theorem d_MO_tellRow_17 : decode b_MO_tellRow 17 = .ok (.getfield 32, 3) := by decide +kernel
theorem d_MO_tellRow_20 : decode b_MO_tellRow 20 = .ok (.iload_n 2, 1) := by decide +kernel
theorem d_MO_tellRow_21 : decode b_MO_tellRow 21 = .ok (.imul, 1) := by decide +kernel
theorem d_MO_tellRow_22 : decode b_MO_tellRow 22 = .ok (.iload_n 1, 1) := by decide +kernel
theorem d_MO_tellRow_23 : decode b_MO_tellRow 23 = .ok (.iadd, 1) := by decide +kernel
theorem d_MO_tellRow_24 : decode b_MO_tellRow 24 = .ok (.iload_n 3, 1) := by decide +kernel
theorem d_MO_tellRow_25 : decode b_MO_tellRow 25 = .ok (.iadd, 1) := by decide +kernel
theorem d_MO_tellRow_26 : decode b_MO_tellRow 26 = .ok (.baload, 1) := by decide +kernel
theorem d_MO_tellRow_27 : decode b_MO_tellRow 27 = .ok (.ifCond .eq 9, 3) := by decide +kernel
theorem d_MO_tellRow_30 : decode b_MO_tellRow 30 = .ok (.iinc 3 1, 3) := by decide +kernel
theorem d_MO_tellRow_33 : decode b_MO_tellRow 33 = .ok (.goto (-31), 3) := by decide +kernel
theorem d_MO_tellRow_36 : decode b_MO_tellRow 36 = .ok (.iconst 0, 1) := by decide +kernel
theorem d_MO_tellRow_37 : decode b_MO_tellRow 37 = .ok (.istore 4, 2) := by decide +kernel
theorem d_MO_tellRow_39 : decode b_MO_tellRow 39 = .ok (.iload 4, 2) := by decide +kernel
theorem d_MO_tellRow_41 : decode b_MO_tellRow 41 = .ok (.iload_n 3, 1) := by decide +kernel
theorem d_MO_tellRow_42 : decode b_MO_tellRow 42 = .ok (.if_icmp .ge 41, 3) := by decide +kernel
theorem d_MO_tellRow_45 : decode b_MO_tellRow 45 = .ok (.aload_n 0, 1) := by decide +kernel
theorem d_MO_tellRow_46 : decode b_MO_tellRow 46 = .ok (.getfield 7, 3) := by decide +kernel
theorem d_MO_tellRow_49 : decode b_MO_tellRow 49 = .ok (.aload_n 0, 1) := by decide +kernel
theorem d_MO_tellRow_50 : decode b_MO_tellRow 50 = .ok (.getfield 32, 3) := by decide +kernel
theorem d_MO_tellRow_53 : decode b_MO_tellRow 53 = .ok (.iload_n 2, 1) := by decide +kernel
theorem d_MO_tellRow_54 : decode b_MO_tellRow 54 = .ok (.imul, 1) := by decide +kernel
theorem d_MO_tellRow_55 : decode b_MO_tellRow 55 = .ok (.iload_n 1, 1) := by decide +kernel
theorem d_MO_tellRow_56 : decode b_MO_tellRow 56 = .ok (.iadd, 1) := by decide +kernel
theorem d_MO_tellRow_57 : decode b_MO_tellRow 57 = .ok (.iload 4, 2) := by decide +kernel
theorem d_MO_tellRow_59 : decode b_MO_tellRow 59 = .ok (.iadd, 1) := by decide +kernel
theorem d_MO_tellRow_60 : decode b_MO_tellRow 60 = .ok (.iaload, 1) := by decide +kernel
theorem d_MO_tellRow_61 : decode b_MO_tellRow 61 = .ok (.aload_n 0, 1) := by decide +kernel
theorem d_MO_tellRow_62 : decode b_MO_tellRow 62 = .ok (.getfield 7, 3) := by decide +kernel
theorem d_MO_tellRow_65 : decode b_MO_tellRow 65 = .ok (.aload_n 0, 1) := by decide +kernel
theorem d_MO_tellRow_66 : decode b_MO_tellRow 66 = .ok (.getfield 32, 3) := by decide +kernel
theorem d_MO_tellRow_69 : decode b_MO_tellRow 69 = .ok (.iload_n 2, 1) := by decide +kernel
theorem d_MO_tellRow_70 : decode b_MO_tellRow 70 = .ok (.imul, 1) := by decide +kernel
theorem d_MO_tellRow_71 : decode b_MO_tellRow 71 = .ok (.iload_n 1, 1) := by decide +kernel
theorem d_MO_tellRow_72 : decode b_MO_tellRow 72 = .ok (.iadd, 1) := by decide +kernel
theorem d_MO_tellRow_73 : decode b_MO_tellRow 73 = .ok (.iaload, 1) := by decide +kernel
theorem d_MO_tellRow_74 : decode b_MO_tellRow 74 = .ok (.if_icmp .ne 9, 3) := by decide +kernel
theorem d_MO_tellRow_77 : decode b_MO_tellRow 77 = .ok (.iinc 4 1, 3) := by decide +kernel
theorem d_MO_tellRow_80 : decode b_MO_tellRow 80 = .ok (.goto (-41), 3) := by decide +kernel
theorem d_MO_tellRow_83 : decode b_MO_tellRow 83 = .ok (.aload_n 0, 1) := by decide +kernel
theorem d_MO_tellRow_84 : decode b_MO_tellRow 84 = .ok (.iload_n 1, 1) := by decide +kernel
theorem d_MO_tellRow_85 : decode b_MO_tellRow 85 = .ok (.iload_n 2, 1) := by decide +kernel
theorem d_MO_tellRow_86 : decode b_MO_tellRow 86 = .ok (.iload_n 3, 1) := by decide +kernel
theorem d_MO_tellRow_87 : decode b_MO_tellRow 87 = .ok (.invokevirtual 69, 3) := by decide +kernel
theorem d_MO_tellRow_90 : decode b_MO_tellRow 90 = .ok (.aload_n 0, 1) := by decide +kernel
theorem d_MO_tellRow_91 : decode b_MO_tellRow 91 = .ok (.getfield 57, 3) := by decide +kernel
theorem d_MO_tellRow_94 : decode b_MO_tellRow 94 = .ok (.iconst 4, 1) := by decide +kernel
theorem d_MO_tellRow_95 : decode b_MO_tellRow 95 = .ok (.if_icmp .lt 45, 3) := by decide +kernel
theorem d_MO_tellRow_98 : decode b_MO_tellRow 98 = .ok (.aload_n 0, 1) := by decide +kernel
theorem d_MO_tellRow_99 : decode b_MO_tellRow 99 = .ok (.getfield 57, 3) := by decide +kernel
theorem d_MO_tellRow_102 : decode b_MO_tellRow 102 = .ok (.iload 4, 2) := by decide +kernel
theorem d_MO_tellRow_104 : decode b_MO_tellRow 104 = .ok (.if_icmp .le 36, 3) := by decide +kernel
theorem d_MO_tellRow_107 : decode b_MO_tellRow 107 = .ok (.aload_n 0, 1) := by decide +kernel
theorem d_MO_tellRow_108 : decode b_MO_tellRow 108 = .ok (.iconst 2, 1) := by decide +kernel
theorem d_MO_tellRow_109 : decode b_MO_tellRow 109 = .ok (.iload_n 1, 1) := by decide +kernel
theorem d_MO_tellRow_110 : decode b_MO_tellRow 110 = .ok (.iload_n 2, 1) := by decide +kernel
theorem d_MO_tellRow_111 : decode b_MO_tellRow 111 = .ok (.aload_n 0, 1) := by decide +kernel
theorem d_MO_tellRow_112 : decode b_MO_tellRow 112 = .ok (.getfield 57, 3) := by decide +kernel
theorem d_MO_tellRow_115 : decode b_MO_tellRow 115 = .ok (.aload_n 0, 1) := by decide +kernel
theorem d_MO_tellRow_116 : decode b_MO_tellRow 116 = .ok (.getfield 63, 3) := by decide +kernel
theorem d_MO_tellRow_119 : decode b_MO_tellRow 119 = .ok (.aload_n 0, 1) := by decide +kernel
theorem d_MO_tellRow_120 : decode b_MO_tellRow 120 = .ok (.getfield 66, 3) := by decide +kernel
theorem d_MO_tellRow_123 : decode b_MO_tellRow 123 = .ok (.invokevirtual 73, 3) := by decide +kernel
theorem d_MO_tellRow_126 : decode b_MO_tellRow 126 = .ok (.aload_n 0, 1) := by decide +kernel
theorem d_MO_tellRow_127 : decode b_MO_tellRow 127 = .ok (.iload_n 1, 1) := by decide +kernel
theorem d_MO_tellRow_128 : decode b_MO_tellRow 128 = .ok (.iload_n 2, 1) := by decide +kernel
theorem d_MO_tellRow_129 : decode b_MO_tellRow 129 = .ok (.aload_n 0, 1) := by decide +kernel
theorem d_MO_tellRow_130 : decode b_MO_tellRow 130 = .ok (.getfield 57, 3) := by decide +kernel
theorem d_MO_tellRow_133 : decode b_MO_tellRow 133 = .ok (.iconst 1, 1) := by decide +kernel
theorem d_MO_tellRow_134 : decode b_MO_tellRow 134 = .ok (.invokevirtual 77, 3) := by decide +kernel
theorem d_MO_tellRow_137 : decode b_MO_tellRow 137 = .ok (.goto 35, 3) := by decide +kernel
theorem d_MO_tellRow_140 : decode b_MO_tellRow 140 = .ok (.aload_n 0, 1) := by decide +kernel
theorem d_MO_tellRow_141 : decode b_MO_tellRow 141 = .ok (.iconst 3, 1) := by decide +kernel
theorem d_MO_tellRow_142 : decode b_MO_tellRow 142 = .ok (.iload_n 1, 1) := by decide +kernel
theorem d_MO_tellRow_143 : decode b_MO_tellRow 143 = .ok (.iload_n 2, 1) := by decide +kernel
theorem d_MO_tellRow_144 : decode b_MO_tellRow 144 = .ok (.iload 4, 2) := by decide +kernel
theorem d_MO_tellRow_146 : decode b_MO_tellRow 146 = .ok (.aload_n 0, 1) := by decide +kernel
theorem d_MO_tellRow_147 : decode b_MO_tellRow 147 = .ok (.getfield 7, 3) := by decide +kernel
theorem d_MO_tellRow_150 : decode b_MO_tellRow 150 = .ok (.aload_n 0, 1) := by decide +kernel
theorem d_MO_tellRow_151 : decode b_MO_tellRow 151 = .ok (.getfield 32, 3) := by decide +kernel
theorem d_MO_tellRow_154 : decode b_MO_tellRow 154 = .ok (.iload_n 2, 1) := by decide +kernel
theorem d_MO_tellRow_155 : decode b_MO_tellRow 155 = .ok (.imul, 1) := by decide +kernel
theorem d_MO_tellRow_156 : decode b_MO_tellRow 156 = .ok (.iload_n 1, 1) := by decide +kernel
theorem d_MO_tellRow_157 : decode b_MO_tellRow 157 = .ok (.iadd, 1) := by decide +kernel
theorem d_MO_tellRow_158 : decode b_MO_tellRow 158 = .ok (.iaload, 1) := by decide +kernel
theorem d_MO_tellRow_159 : decode b_MO_tellRow 159 = .ok (.iconst (-1), 1) := by decide +kernel
theorem d_MO_tellRow_160 : decode b_MO_tellRow 160 = .ok (.invokevirtual 73, 3) := by decide +kernel
theorem d_MO_tellRow_163 : decode b_MO_tellRow 163 = .ok (.aload_n 0, 1) := by decide +kernel
theorem d_MO_tellRow_164 : decode b_MO_tellRow 164 = .ok (.iload_n 1, 1) := by decide +kernel
theorem d_MO_tellRow_165 : decode b_MO_tellRow 165 = .ok (.iload_n 2, 1) := by decide +kernel
theorem d_MO_tellRow_166 : decode b_MO_tellRow 166 = .ok (.iload 4, 2) := by decide +kernel
theorem d_MO_tellRow_168 : decode b_MO_tellRow 168 = .ok (.iconst 1, 1) := by decide +kernel
theorem d_MO_tellRow_169 : decode b_MO_tellRow 169 = .ok (.invokevirtual 77, 3) := by decide +kernel
theorem d_MO_tellRow_172 : decode b_MO_tellRow 172 = .ok (.return_, 1) := by decide +kernel
theorem d_MO_say_0 : decode b_MO_say 0 = .ok (.aload_n 0, 1) := by decide +kernel
theorem d_MO_say_1 : decode b_MO_say 1 = .ok (.getfield 23, 3) := by decide +kernel
theorem d_MO_say_4 : decode b_MO_say 4 = .ok (.aload_n 0, 1) := by decide +kernel
theorem d_MO_say_5 : decode b_MO_say 5 = .ok (.getfield 81, 3) := by decide +kernel
theorem d_MO_say_8 : decode b_MO_say 8 = .ok (.iload_n 1, 1) := by decide +kernel
theorem d_MO_say_9 : decode b_MO_say 9 = .ok (.iastore, 1) := by decide +kernel
theorem d_MO_say_10 : decode b_MO_say 10 = .ok (.aload_n 0, 1) := by decide +kernel
theorem d_MO_say_11 : decode b_MO_say 11 = .ok (.dup, 1) := by decide +kernel
theorem d_MO_say_12 : decode b_MO_say 12 = .ok (.getfield 81, 3) := by decide +kernel
theorem d_MO_say_15 : decode b_MO_say 15 = .ok (.iconst 1, 1) := by decide +kernel
theorem d_MO_say_16 : decode b_MO_say 16 = .ok (.iadd, 1) := by decide +kernel
theorem d_MO_say_17 : decode b_MO_say 17 = .ok (.putfield 81, 3) := by decide +kernel
theorem d_MO_say_20 : decode b_MO_say 20 = .ok (.return_, 1) := by decide +kernel
theorem d_MO_encode_0 : decode b_MO_encode 0 = .ok (.aload_n 0, 1) := by decide +kernel
theorem d_MO_encode_1 : decode b_MO_encode 1 = .ok (.iconst 0, 1) := by decide +kernel
theorem d_MO_encode_2 : decode b_MO_encode 2 = .ok (.putfield 39, 3) := by decide +kernel
theorem d_MO_encode_5 : decode b_MO_encode 5 = .ok (.aload_n 0, 1) := by decide +kernel
theorem d_MO_encode_6 : decode b_MO_encode 6 = .ok (.iconst 0, 1) := by decide +kernel
theorem d_MO_encode_7 : decode b_MO_encode 7 = .ok (.putfield 54, 3) := by decide +kernel
theorem d_MO_encode_10 : decode b_MO_encode 10 = .ok (.aload_n 0, 1) := by decide +kernel
theorem d_MO_encode_11 : decode b_MO_encode 11 = .ok (.invokevirtual 84, 3) := by decide +kernel
theorem d_MO_encode_14 : decode b_MO_encode 14 = .ok (.istore_n 1, 1) := by decide +kernel
theorem d_MO_encode_15 : decode b_MO_encode 15 = .ok (.iconst 0, 1) := by decide +kernel
theorem d_MO_encode_16 : decode b_MO_encode 16 = .ok (.istore_n 2, 1) := by decide +kernel
theorem d_MO_encode_17 : decode b_MO_encode 17 = .ok (.iload_n 2, 1) := by decide +kernel
theorem d_MO_encode_18 : decode b_MO_encode 18 = .ok (.aload_n 0, 1) := by decide +kernel
theorem d_MO_encode_19 : decode b_MO_encode 19 = .ok (.invokevirtual 50, 3) := by decide +kernel
theorem d_MO_encode_22 : decode b_MO_encode 22 = .ok (.if_icmp .ge 30, 3) := by decide +kernel
theorem d_MO_encode_25 : decode b_MO_encode 25 = .ok (.aload_n 0, 1) := by decide +kernel
theorem d_MO_encode_26 : decode b_MO_encode 26 = .ok (.getfield 16, 3) := by decide +kernel
theorem d_MO_encode_29 : decode b_MO_encode 29 = .ok (.iload_n 2, 1) := by decide +kernel
theorem d_MO_encode_30 : decode b_MO_encode 30 = .ok (.aload_n 0, 1) := by decide +kernel
theorem d_MO_encode_31 : decode b_MO_encode 31 = .ok (.getfield 7, 3) := by decide +kernel
theorem d_MO_encode_34 : decode b_MO_encode 34 = .ok (.iload_n 2, 1) := by decide +kernel
theorem d_MO_encode_35 : decode b_MO_encode 35 = .ok (.iaload, 1) := by decide +kernel
theorem d_MO_encode_36 : decode b_MO_encode 36 = .ok (.iload_n 1, 1) := by decide +kernel
theorem d_MO_encode_37 : decode b_MO_encode 37 = .ok (.if_icmp .eq 7, 3) := by decide +kernel
theorem d_MO_encode_40 : decode b_MO_encode 40 = .ok (.iconst 1, 1) := by decide +kernel
theorem d_MO_encode_41 : decode b_MO_encode 41 = .ok (.goto 4, 3) := by decide +kernel
theorem d_MO_encode_44 : decode b_MO_encode 44 = .ok (.iconst 0, 1) := by decide +kernel
theorem d_MO_encode_45 : decode b_MO_encode 45 = .ok (.bastore, 1) := by decide +kernel
theorem d_MO_encode_46 : decode b_MO_encode 46 = .ok (.iinc 2 1, 3) := by decide +kernel
theorem d_MO_encode_49 : decode b_MO_encode 49 = .ok (.goto (-32), 3) := by decide +kernel
theorem d_MO_encode_52 : decode b_MO_encode 52 = .ok (.iconst 0, 1) := by decide +kernel
theorem d_MO_encode_53 : decode b_MO_encode 53 = .ok (.istore_n 2, 1) := by decide +kernel
theorem d_MO_encode_54 : decode b_MO_encode 54 = .ok (.iload_n 2, 1) := by decide +kernel
theorem d_MO_encode_55 : decode b_MO_encode 55 = .ok (.aload_n 0, 1) := by decide +kernel
theorem d_MO_encode_56 : decode b_MO_encode 56 = .ok (.invokevirtual 50, 3) := by decide +kernel
theorem d_MO_encode_59 : decode b_MO_encode 59 = .ok (.if_icmp .ge 98, 3) := by decide +kernel
theorem d_MO_encode_62 : decode b_MO_encode 62 = .ok (.aload_n 0, 1) := by decide +kernel
theorem d_MO_encode_63 : decode b_MO_encode 63 = .ok (.getfield 16, 3) := by decide +kernel
theorem d_MO_encode_66 : decode b_MO_encode 66 = .ok (.iload_n 2, 1) := by decide +kernel
theorem d_MO_encode_67 : decode b_MO_encode 67 = .ok (.baload, 1) := by decide +kernel
theorem d_MO_encode_68 : decode b_MO_encode 68 = .ok (.ifCond .eq 83, 3) := by decide +kernel
theorem d_MO_encode_71 : decode b_MO_encode 71 = .ok (.aload_n 0, 1) := by decide +kernel
theorem d_MO_encode_72 : decode b_MO_encode 72 = .ok (.iload_n 2, 1) := by decide +kernel
theorem d_MO_encode_73 : decode b_MO_encode 73 = .ok (.aload_n 0, 1) := by decide +kernel
theorem d_MO_encode_74 : decode b_MO_encode 74 = .ok (.getfield 32, 3) := by decide +kernel
theorem d_MO_encode_77 : decode b_MO_encode 77 = .ok (.irem, 1) := by decide +kernel
theorem d_MO_encode_78 : decode b_MO_encode 78 = .ok (.iload_n 2, 1) := by decide +kernel
theorem d_MO_encode_79 : decode b_MO_encode 79 = .ok (.aload_n 0, 1) := by decide +kernel
theorem d_MO_encode_80 : decode b_MO_encode 80 = .ok (.getfield 32, 3) := by decide +kernel
theorem d_MO_encode_83 : decode b_MO_encode 83 = .ok (.idiv, 1) := by decide +kernel
theorem d_MO_encode_84 : decode b_MO_encode 84 = .ok (.invokevirtual 87, 3) := by decide +kernel
theorem d_MO_encode_87 : decode b_MO_encode 87 = .ok (.aload_n 0, 1) := by decide +kernel
theorem d_MO_encode_88 : decode b_MO_encode 88 = .ok (.getfield 57, 3) := by decide +kernel
theorem d_MO_encode_91 : decode b_MO_encode 91 = .ok (.bipush 6, 2) := by decide +kernel
theorem d_MO_encode_93 : decode b_MO_encode 93 = .ok (.if_icmp .lt 58, 3) := by decide +kernel
theorem d_MO_encode_96 : decode b_MO_encode 96 = .ok (.aload_n 0, 1) := by decide +kernel
theorem d_MO_encode_97 : decode b_MO_encode 97 = .ok (.iconst 1, 1) := by decide +kernel
theorem d_MO_encode_98 : decode b_MO_encode 98 = .ok (.iload_n 2, 1) := by decide +kernel
theorem d_MO_encode_99 : decode b_MO_encode 99 = .ok (.aload_n 0, 1) := by decide +kernel
theorem d_MO_encode_100 : decode b_MO_encode 100 = .ok (.getfield 32, 3) := by decide +kernel
theorem d_MO_encode_103 : decode b_MO_encode 103 = .ok (.irem, 1) := by decide +kernel
theorem d_MO_encode_104 : decode b_MO_encode 104 = .ok (.iload_n 2, 1) := by decide +kernel
theorem d_MO_encode_105 : decode b_MO_encode 105 = .ok (.aload_n 0, 1) := by decide +kernel
theorem d_MO_encode_106 : decode b_MO_encode 106 = .ok (.getfield 32, 3) := by decide +kernel
theorem d_MO_encode_109 : decode b_MO_encode 109 = .ok (.idiv, 1) := by decide +kernel
theorem d_MO_encode_110 : decode b_MO_encode 110 = .ok (.aload_n 0, 1) := by decide +kernel
theorem d_MO_encode_111 : decode b_MO_encode 111 = .ok (.getfield 63, 3) := by decide +kernel
theorem d_MO_encode_114 : decode b_MO_encode 114 = .ok (.aload_n 0, 1) := by decide +kernel
theorem d_MO_encode_115 : decode b_MO_encode 115 = .ok (.getfield 66, 3) := by decide +kernel
theorem d_MO_encode_118 : decode b_MO_encode 118 = .ok (.aload_n 0, 1) := by decide +kernel
theorem d_MO_encode_119 : decode b_MO_encode 119 = .ok (.getfield 7, 3) := by decide +kernel
theorem d_MO_encode_122 : decode b_MO_encode 122 = .ok (.iload_n 2, 1) := by decide +kernel
theorem d_MO_encode_123 : decode b_MO_encode 123 = .ok (.iaload, 1) := by decide +kernel
theorem d_MO_encode_124 : decode b_MO_encode 124 = .ok (.invokevirtual 73, 3) := by decide +kernel
theorem d_MO_encode_127 : decode b_MO_encode 127 = .ok (.aload_n 0, 1) := by decide +kernel
theorem d_MO_encode_128 : decode b_MO_encode 128 = .ok (.iload_n 2, 1) := by decide +kernel
theorem d_MO_encode_129 : decode b_MO_encode 129 = .ok (.aload_n 0, 1) := by decide +kernel
theorem d_MO_encode_130 : decode b_MO_encode 130 = .ok (.getfield 32, 3) := by decide +kernel
theorem d_MO_encode_133 : decode b_MO_encode 133 = .ok (.irem, 1) := by decide +kernel
theorem d_MO_encode_134 : decode b_MO_encode 134 = .ok (.iload_n 2, 1) := by decide +kernel
theorem d_MO_encode_135 : decode b_MO_encode 135 = .ok (.aload_n 0, 1) := by decide +kernel
theorem d_MO_encode_136 : decode b_MO_encode 136 = .ok (.getfield 32, 3) := by decide +kernel
theorem d_MO_encode_139 : decode b_MO_encode 139 = .ok (.idiv, 1) := by decide +kernel
theorem d_MO_encode_140 : decode b_MO_encode 140 = .ok (.aload_n 0, 1) := by decide +kernel
theorem d_MO_encode_141 : decode b_MO_encode 141 = .ok (.getfield 63, 3) := by decide +kernel
theorem d_MO_encode_144 : decode b_MO_encode 144 = .ok (.aload_n 0, 1) := by decide +kernel
theorem d_MO_encode_145 : decode b_MO_encode 145 = .ok (.getfield 66, 3) := by decide +kernel
theorem d_MO_encode_148 : decode b_MO_encode 148 = .ok (.invokevirtual 77, 3) := by decide +kernel
theorem d_MO_encode_151 : decode b_MO_encode 151 = .ok (.iinc 2 1, 3) := by decide +kernel
theorem d_MO_encode_154 : decode b_MO_encode 154 = .ok (.goto (-100), 3) := by decide +kernel
theorem d_MO_encode_157 : decode b_MO_encode 157 = .ok (.iconst 0, 1) := by decide +kernel
theorem d_MO_encode_158 : decode b_MO_encode 158 = .ok (.istore_n 2, 1) := by decide +kernel
theorem d_MO_encode_159 : decode b_MO_encode 159 = .ok (.iload_n 2, 1) := by decide +kernel
theorem d_MO_encode_160 : decode b_MO_encode 160 = .ok (.aload_n 0, 1) := by decide +kernel
theorem d_MO_encode_161 : decode b_MO_encode 161 = .ok (.invokevirtual 50, 3) := by decide +kernel
theorem d_MO_encode_164 : decode b_MO_encode 164 = .ok (.if_icmp .ge 34, 3) := by decide +kernel
theorem d_MO_encode_167 : decode b_MO_encode 167 = .ok (.aload_n 0, 1) := by decide +kernel
theorem d_MO_encode_168 : decode b_MO_encode 168 = .ok (.getfield 16, 3) := by decide +kernel
theorem d_MO_encode_171 : decode b_MO_encode 171 = .ok (.iload_n 2, 1) := by decide +kernel
theorem d_MO_encode_172 : decode b_MO_encode 172 = .ok (.baload, 1) := by decide +kernel
theorem d_MO_encode_173 : decode b_MO_encode 173 = .ok (.ifCond .eq 19, 3) := by decide +kernel
theorem d_MO_encode_176 : decode b_MO_encode 176 = .ok (.aload_n 0, 1) := by decide +kernel
theorem d_MO_encode_177 : decode b_MO_encode 177 = .ok (.iload_n 2, 1) := by decide +kernel
theorem d_MO_encode_178 : decode b_MO_encode 178 = .ok (.aload_n 0, 1) := by decide +kernel
theorem d_MO_encode_179 : decode b_MO_encode 179 = .ok (.getfield 32, 3) := by decide +kernel
theorem d_MO_encode_182 : decode b_MO_encode 182 = .ok (.irem, 1) := by decide +kernel
theorem d_MO_encode_183 : decode b_MO_encode 183 = .ok (.iload_n 2, 1) := by decide +kernel
theorem d_MO_encode_184 : decode b_MO_encode 184 = .ok (.aload_n 0, 1) := by decide +kernel
theorem d_MO_encode_185 : decode b_MO_encode 185 = .ok (.getfield 32, 3) := by decide +kernel
theorem d_MO_encode_188 : decode b_MO_encode 188 = .ok (.idiv, 1) := by decide +kernel
theorem d_MO_encode_189 : decode b_MO_encode 189 = .ok (.invokevirtual 91, 3) := by decide +kernel
theorem d_MO_encode_192 : decode b_MO_encode 192 = .ok (.iinc 2 1, 3) := by decide +kernel
theorem d_MO_encode_195 : decode b_MO_encode 195 = .ok (.goto (-36), 3) := by decide +kernel
theorem d_MO_encode_198 : decode b_MO_encode 198 = .ok (.iconst 3, 1) := by decide +kernel
theorem d_MO_encode_199 : decode b_MO_encode 199 = .ok (.istore_n 2, 1) := by decide +kernel
theorem d_MO_encode_200 : decode b_MO_encode 200 = .ok (.iconst 0, 1) := by decide +kernel
theorem d_MO_encode_201 : decode b_MO_encode 201 = .ok (.istore_n 3, 1) := by decide +kernel
theorem d_MO_encode_202 : decode b_MO_encode 202 = .ok (.iload_n 3, 1) := by decide +kernel
theorem d_MO_encode_203 : decode b_MO_encode 203 = .ok (.aload_n 0, 1) := by decide +kernel
theorem d_MO_encode_204 : decode b_MO_encode 204 = .ok (.getfield 54, 3) := by decide +kernel
theorem d_MO_encode_207 : decode b_MO_encode 207 = .ok (.if_icmp .ge 31, 3) := by decide +kernel
theorem d_MO_encode_210 : decode b_MO_encode 210 = .ok (.iload_n 2, 1) := by decide +kernel
theorem d_MO_encode_211 : decode b_MO_encode 211 = .ok (.aload_n 0, 1) := by decide +kernel
theorem d_MO_encode_212 : decode b_MO_encode 212 = .ok (.getfield 29, 3) := by decide +kernel
theorem d_MO_encode_215 : decode b_MO_encode 215 = .ok (.bipush 6, 2) := by decide +kernel
theorem d_MO_encode_217 : decode b_MO_encode 217 = .ok (.iload_n 3, 1) := by decide +kernel
theorem d_MO_encode_218 : decode b_MO_encode 218 = .ok (.imul, 1) := by decide +kernel
theorem d_MO_encode_219 : decode b_MO_encode 219 = .ok (.iaload, 1) := by decide +kernel
theorem d_MO_encode_220 : decode b_MO_encode 220 = .ok (.iconst 3, 1) := by decide +kernel
theorem d_MO_encode_221 : decode b_MO_encode 221 = .ok (.if_icmp .ne 7, 3) := by decide +kernel
theorem d_MO_encode_224 : decode b_MO_encode 224 = .ok (.iconst 5, 1) := by decide +kernel
theorem d_MO_encode_225 : decode b_MO_encode 225 = .ok (.goto 5, 3) := by decide +kernel
theorem d_MO_encode_228 : decode b_MO_encode 228 = .ok (.bipush 6, 2) := by decide +kernel
theorem d_MO_encode_230 : decode b_MO_encode 230 = .ok (.iadd, 1) := by decide +kernel
theorem d_MO_encode_231 : decode b_MO_encode 231 = .ok (.istore_n 2, 1) := by decide +kernel
theorem d_MO_encode_232 : decode b_MO_encode 232 = .ok (.iinc 3 1, 3) := by decide +kernel
theorem d_MO_encode_235 : decode b_MO_encode 235 = .ok (.goto (-33), 3) := by decide +kernel
theorem d_MO_encode_238 : decode b_MO_encode 238 = .ok (.aload_n 0, 1) := by decide +kernel
theorem d_MO_encode_239 : decode b_MO_encode 239 = .ok (.iload_n 2, 1) := by decide +kernel
theorem d_MO_encode_240 : decode b_MO_encode 240 = .ok (.iconst 1, 1) := by decide +kernel
theorem d_MO_encode_241 : decode b_MO_encode 241 = .ok (.aload_n 0, 1) := by decide +kernel
theorem d_MO_encode_242 : decode b_MO_encode 242 = .ok (.invokevirtual 50, 3) := by decide +kernel
theorem d_MO_encode_245 : decode b_MO_encode 245 = .ok (.iadd, 1) := by decide +kernel
theorem d_MO_encode_246 : decode b_MO_encode 246 = .ok (.if_icmp .le 7, 3) := by decide +kernel
theorem d_MO_encode_249 : decode b_MO_encode 249 = .ok (.iconst 1, 1) := by decide +kernel
theorem d_MO_encode_250 : decode b_MO_encode 250 = .ok (.goto 4, 3) := by decide +kernel
theorem d_MO_encode_253 : decode b_MO_encode 253 = .ok (.iconst 0, 1) := by decide +kernel
theorem d_MO_encode_254 : decode b_MO_encode 254 = .ok (.putfield 94, 3) := by decide +kernel
theorem d_MO_encode_257 : decode b_MO_encode 257 = .ok (.aload_n 0, 1) := by decide +kernel
theorem d_MO_encode_258 : decode b_MO_encode 258 = .ok (.iconst 0, 1) := by decide +kernel
theorem d_MO_encode_259 : decode b_MO_encode 259 = .ok (.putfield 81, 3) := by decide +kernel
theorem d_MO_encode_262 : decode b_MO_encode 262 = .ok (.aload_n 0, 1) := by decide +kernel
theorem d_MO_encode_263 : decode b_MO_encode 263 = .ok (.aload_n 0, 1) := by decide +kernel
theorem d_MO_encode_264 : decode b_MO_encode 264 = .ok (.getfield 94, 3) := by decide +kernel
theorem d_MO_encode_267 : decode b_MO_encode 267 = .ok (.ifCond .eq 7, 3) := by decide +kernel
theorem d_MO_encode_270 : decode b_MO_encode 270 = .ok (.iconst 0, 1) := by decide +kernel
theorem d_MO_encode_271 : decode b_MO_encode 271 = .ok (.goto 4, 3) := by decide +kernel
theorem d_MO_encode_274 : decode b_MO_encode 274 = .ok (.iconst 1, 1) := by decide +kernel
theorem d_MO_encode_275 : decode b_MO_encode 275 = .ok (.invokevirtual 98, 3) := by decide +kernel
theorem d_MO_encode_278 : decode b_MO_encode 278 = .ok (.iconst 0, 1) := by decide +kernel
theorem d_MO_encode_279 : decode b_MO_encode 279 = .ok (.istore_n 3, 1) := by decide +kernel
theorem d_MO_encode_280 : decode b_MO_encode 280 = .ok (.iload_n 3, 1) := by decide +kernel
theorem d_MO_encode_281 : decode b_MO_encode 281 = .ok (.aload_n 0, 1) := by decide +kernel
theorem d_MO_encode_282 : decode b_MO_encode 282 = .ok (.invokevirtual 50, 3) := by decide +kernel
theorem d_MO_encode_285 : decode b_MO_encode 285 = .ok (.if_icmp .ge 26, 3) := by decide +kernel
theorem d_MO_encode_288 : decode b_MO_encode 288 = .ok (.aload_n 0, 1) := by decide +kernel
theorem d_MO_encode_289 : decode b_MO_encode 289 = .ok (.getfield 94, 3) := by decide +kernel
theorem d_MO_encode_292 : decode b_MO_encode 292 = .ok (.ifCond .eq 19, 3) := by decide +kernel
theorem d_MO_encode_295 : decode b_MO_encode 295 = .ok (.aload_n 0, 1) := by decide +kernel
theorem d_MO_encode_296 : decode b_MO_encode 296 = .ok (.aload_n 0, 1) := by decide +kernel
theorem d_MO_encode_297 : decode b_MO_encode 297 = .ok (.getfield 7, 3) := by decide +kernel
theorem d_MO_encode_300 : decode b_MO_encode 300 = .ok (.iload_n 3, 1) := by decide +kernel
theorem d_MO_encode_301 : decode b_MO_encode 301 = .ok (.iaload, 1) := by decide +kernel
theorem d_MO_encode_302 : decode b_MO_encode 302 = .ok (.invokevirtual 98, 3) := by decide +kernel
theorem d_MO_encode_305 : decode b_MO_encode 305 = .ok (.iinc 3 1, 3) := by decide +kernel
theorem d_MO_encode_308 : decode b_MO_encode 308 = .ok (.goto (-28), 3) := by decide +kernel
theorem d_MO_encode_311 : decode b_MO_encode 311 = .ok (.aload_n 0, 1) := by decide +kernel
theorem d_MO_encode_312 : decode b_MO_encode 312 = .ok (.getfield 94, 3) := by decide +kernel
theorem d_MO_encode_315 : decode b_MO_encode 315 = .ok (.ifCond .ne 118, 3) := by decide +kernel
theorem d_MO_encode_318 : decode b_MO_encode 318 = .ok (.aload_n 0, 1) := by decide +kernel
theorem d_MO_encode_319 : decode b_MO_encode 319 = .ok (.iload_n 1, 1) := by decide +kernel
theorem d_MO_encode_320 : decode b_MO_encode 320 = .ok (.invokevirtual 98, 3) := by decide +kernel
theorem d_MO_encode_323 : decode b_MO_encode 323 = .ok (.iconst 0, 1) := by decide +kernel
theorem d_MO_encode_324 : decode b_MO_encode 324 = .ok (.istore_n 3, 1) := by decide +kernel
theorem d_MO_encode_325 : decode b_MO_encode 325 = .ok (.iload_n 3, 1) := by decide +kernel
theorem d_MO_encode_326 : decode b_MO_encode 326 = .ok (.aload_n 0, 1) := by decide +kernel
theorem d_MO_encode_327 : decode b_MO_encode 327 = .ok (.getfield 54, 3) := by decide +kernel
theorem d_MO_encode_330 : decode b_MO_encode 330 = .ok (.if_icmp .ge 98, 3) := by decide +kernel
theorem d_MO_encode_333 : decode b_MO_encode 333 = .ok (.aload_n 0, 1) := by decide +kernel
theorem d_MO_encode_334 : decode b_MO_encode 334 = .ok (.getfield 29, 3) := by decide +kernel
theorem d_MO_encode_337 : decode b_MO_encode 337 = .ok (.bipush 6, 2) := by decide +kernel
theorem d_MO_encode_339 : decode b_MO_encode 339 = .ok (.iload_n 3, 1) := by decide +kernel
theorem d_MO_encode_340 : decode b_MO_encode 340 = .ok (.imul, 1) := by decide +kernel
theorem d_MO_encode_341 : decode b_MO_encode 341 = .ok (.iaload, 1) := by decide +kernel
theorem d_MO_encode_342 : decode b_MO_encode 342 = .ok (.iconst 3, 1) := by decide +kernel
theorem d_MO_encode_343 : decode b_MO_encode 343 = .ok (.if_icmp .ne 7, 3) := by decide +kernel
theorem d_MO_encode_346 : decode b_MO_encode 346 = .ok (.iconst 5, 1) := by decide +kernel
theorem d_MO_encode_347 : decode b_MO_encode 347 = .ok (.goto 5, 3) := by decide +kernel
theorem d_MO_encode_350 : decode b_MO_encode 350 = .ok (.bipush 6, 2) := by decide +kernel
theorem d_MO_encode_352 : decode b_MO_encode 352 = .ok (.istore 4, 2) := by decide +kernel
theorem d_MO_encode_354 : decode b_MO_encode 354 = .ok (.iconst 0, 1) := by decide +kernel
theorem d_MO_encode_355 : decode b_MO_encode 355 = .ok (.istore 5, 2) := by decide +kernel
theorem d_MO_encode_357 : decode b_MO_encode 357 = .ok (.iload 5, 2) := by decide +kernel
theorem d_MO_encode_359 : decode b_MO_encode 359 = .ok (.iload 4, 2) := by decide +kernel
theorem d_MO_encode_361 : decode b_MO_encode 361 = .ok (.if_icmp .ge 61, 3) := by decide +kernel
theorem d_MO_encode_364 : decode b_MO_encode 364 = .ok (.aload_n 0, 1) := by decide +kernel
theorem d_MO_encode_365 : decode b_MO_encode 365 = .ok (.aload_n 0, 1) := by decide +kernel
theorem d_MO_encode_366 : decode b_MO_encode 366 = .ok (.getfield 29, 3) := by decide +kernel
theorem d_MO_encode_369 : decode b_MO_encode 369 = .ok (.bipush 6, 2) := by decide +kernel
theorem d_MO_encode_371 : decode b_MO_encode 371 = .ok (.iload_n 3, 1) := by decide +kernel
theorem d_MO_encode_372 : decode b_MO_encode 372 = .ok (.imul, 1) := by decide +kernel
theorem d_MO_encode_373 : decode b_MO_encode 373 = .ok (.iaload, 1) := by decide +kernel
theorem d_MO_encode_374 : decode b_MO_encode 374 = .ok (.iconst 2, 1) := by decide +kernel
theorem d_MO_encode_375 : decode b_MO_encode 375 = .ok (.if_icmp .ne 26, 3) := by decide +kernel
theorem d_MO_encode_378 : decode b_MO_encode 378 = .ok (.iload 5, 2) := by decide +kernel
theorem d_MO_encode_380 : decode b_MO_encode 380 = .ok (.iconst 4, 1) := by decide +kernel
theorem d_MO_encode_381 : decode b_MO_encode 381 = .ok (.if_icmp .ne 20, 3) := by decide +kernel
theorem d_MO_encode_384 : decode b_MO_encode 384 = .ok (.aload_n 0, 1) := by decide +kernel
theorem d_MO_encode_385 : decode b_MO_encode 385 = .ok (.getfield 29, 3) := by decide +kernel
theorem d_MO_encode_388 : decode b_MO_encode 388 = .ok (.bipush 6, 2) := by decide +kernel
theorem d_MO_encode_390 : decode b_MO_encode 390 = .ok (.iload_n 3, 1) := by decide +kernel
theorem d_MO_encode_391 : decode b_MO_encode 391 = .ok (.imul, 1) := by decide +kernel
theorem d_MO_encode_392 : decode b_MO_encode 392 = .ok (.iload 5, 2) := by decide +kernel
theorem d_MO_encode_394 : decode b_MO_encode 394 = .ok (.iadd, 1) := by decide +kernel
theorem d_MO_encode_395 : decode b_MO_encode 395 = .ok (.iaload, 1) := by decide +kernel
theorem d_MO_encode_396 : decode b_MO_encode 396 = .ok (.iconst 4, 1) := by decide +kernel
theorem d_MO_encode_397 : decode b_MO_encode 397 = .ok (.iadd, 1) := by decide +kernel
theorem d_MO_encode_398 : decode b_MO_encode 398 = .ok (.goto 15, 3) := by decide +kernel
theorem d_MO_encode_401 : decode b_MO_encode 401 = .ok (.aload_n 0, 1) := by decide +kernel
theorem d_MO_encode_402 : decode b_MO_encode 402 = .ok (.getfield 29, 3) := by decide +kernel
theorem d_MO_encode_405 : decode b_MO_encode 405 = .ok (.bipush 6, 2) := by decide +kernel
theorem d_MO_encode_407 : decode b_MO_encode 407 = .ok (.iload_n 3, 1) := by decide +kernel
theorem d_MO_encode_408 : decode b_MO_encode 408 = .ok (.imul, 1) := by decide +kernel
theorem d_MO_encode_409 : decode b_MO_encode 409 = .ok (.iload 5, 2) := by decide +kernel
theorem d_MO_encode_411 : decode b_MO_encode 411 = .ok (.iadd, 1) := by decide +kernel
theorem d_MO_encode_412 : decode b_MO_encode 412 = .ok (.iaload, 1) := by decide +kernel
theorem d_MO_encode_413 : decode b_MO_encode 413 = .ok (.invokevirtual 98, 3) := by decide +kernel
theorem d_MO_encode_416 : decode b_MO_encode 416 = .ok (.iinc 5 1, 3) := by decide +kernel
theorem d_MO_encode_419 : decode b_MO_encode 419 = .ok (.goto (-62), 3) := by decide +kernel
theorem d_MO_encode_422 : decode b_MO_encode 422 = .ok (.iinc 3 1, 3) := by decide +kernel
theorem d_MO_encode_425 : decode b_MO_encode 425 = .ok (.goto (-100), 3) := by decide +kernel
theorem d_MO_encode_428 : decode b_MO_encode 428 = .ok (.aload_n 0, 1) := by decide +kernel
theorem d_MO_encode_429 : decode b_MO_encode 429 = .ok (.iconst 0, 1) := by decide +kernel
theorem d_MO_encode_430 : decode b_MO_encode 430 = .ok (.invokevirtual 98, 3) := by decide +kernel
theorem d_MO_encode_433 : decode b_MO_encode 433 = .ok (.aload_n 0, 1) := by decide +kernel
theorem d_MO_encode_434 : decode b_MO_encode 434 = .ok (.getfield 81, 3) := by decide +kernel
theorem d_MO_encode_437 : decode b_MO_encode 437 = .ok (.ireturn, 1) := by decide +kernel
theorem d_MO_byteAt_0 : decode b_MO_byteAt 0 = .ok (.aload_n 0, 1) := by decide +kernel
theorem d_MO_byteAt_1 : decode b_MO_byteAt 1 = .ok (.iload_n 1, 1) := by decide +kernel
theorem d_MO_byteAt_2 : decode b_MO_byteAt 2 = .ok (.iconst 0, 1) := by decide +kernel
theorem d_MO_byteAt_3 : decode b_MO_byteAt 3 = .ok (.aload_n 0, 1) := by decide +kernel
theorem d_MO_byteAt_4 : decode b_MO_byteAt 4 = .ok (.getfield 81, 3) := by decide +kernel
theorem d_MO_byteAt_7 : decode b_MO_byteAt 7 = .ok (.iconst 1, 1) := by decide +kernel
theorem d_MO_byteAt_8 : decode b_MO_byteAt 8 = .ok (.isub, 1) := by decide +kernel
theorem d_MO_byteAt_9 : decode b_MO_byteAt 9 = .ok (.invokestatic 42, 3) := by decide +kernel
theorem d_MO_byteAt_12 : decode b_MO_byteAt 12 = .ok (.ifCond .eq 7, 3) := by decide +kernel
theorem d_MO_byteAt_15 : decode b_MO_byteAt 15 = .ok (.iconst 0, 1) := by decide +kernel
theorem d_MO_byteAt_16 : decode b_MO_byteAt 16 = .ok (.goto 4, 3) := by decide +kernel
theorem d_MO_byteAt_19 : decode b_MO_byteAt 19 = .ok (.iconst 1, 1) := by decide +kernel
theorem d_MO_byteAt_20 : decode b_MO_byteAt 20 = .ok (.putfield 39, 3) := by decide +kernel
theorem d_MO_byteAt_23 : decode b_MO_byteAt 23 = .ok (.aload_n 0, 1) := by decide +kernel
theorem d_MO_byteAt_24 : decode b_MO_byteAt 24 = .ok (.getfield 39, 3) := by decide +kernel
theorem d_MO_byteAt_27 : decode b_MO_byteAt 27 = .ok (.ifCond .le 7, 3) := by decide +kernel
theorem d_MO_byteAt_30 : decode b_MO_byteAt 30 = .ok (.iconst 0, 1) := by decide +kernel
theorem d_MO_byteAt_31 : decode b_MO_byteAt 31 = .ok (.goto 9, 3) := by decide +kernel
theorem d_MO_byteAt_34 : decode b_MO_byteAt 34 = .ok (.aload_n 0, 1) := by decide +kernel
theorem d_MO_byteAt_35 : decode b_MO_byteAt 35 = .ok (.getfield 23, 3) := by decide +kernel
theorem d_MO_byteAt_38 : decode b_MO_byteAt 38 = .ok (.iload_n 1, 1) := by decide +kernel
theorem d_MO_byteAt_39 : decode b_MO_byteAt 39 = .ok (.iaload, 1) := by decide +kernel
theorem d_MO_byteAt_40 : decode b_MO_byteAt 40 = .ok (.ireturn, 1) := by decide +kernel
theorem d_MO_parts_0 : decode b_MO_parts 0 = .ok (.aload_n 0, 1) := by decide +kernel
theorem d_MO_parts_1 : decode b_MO_parts 1 = .ok (.iconst 0, 1) := by decide +kernel
theorem d_MO_parts_2 : decode b_MO_parts 2 = .ok (.putfield 39, 3) := by decide +kernel
theorem d_MO_parts_5 : decode b_MO_parts 5 = .ok (.aload_n 0, 1) := by decide +kernel
theorem d_MO_parts_6 : decode b_MO_parts 6 = .ok (.getfield 54, 3) := by decide +kernel
theorem d_MO_parts_9 : decode b_MO_parts 9 = .ok (.ireturn, 1) := by decide +kernel
theorem d_MO_part_0 : decode b_MO_part 0 = .ok (.aload_n 0, 1) := by decide +kernel
theorem d_MO_part_1 : decode b_MO_part 1 = .ok (.iload_n 1, 1) := by decide +kernel
theorem d_MO_part_2 : decode b_MO_part 2 = .ok (.iconst 0, 1) := by decide +kernel
theorem d_MO_part_3 : decode b_MO_part 3 = .ok (.aload_n 0, 1) := by decide +kernel
theorem d_MO_part_4 : decode b_MO_part 4 = .ok (.getfield 54, 3) := by decide +kernel
theorem d_MO_part_7 : decode b_MO_part 7 = .ok (.iconst 1, 1) := by decide +kernel
theorem d_MO_part_8 : decode b_MO_part 8 = .ok (.isub, 1) := by decide +kernel
theorem d_MO_part_9 : decode b_MO_part 9 = .ok (.invokestatic 42, 3) := by decide +kernel
theorem d_MO_part_12 : decode b_MO_part 12 = .ok (.ifCond .ne 7, 3) := by decide +kernel
theorem d_MO_part_15 : decode b_MO_part 15 = .ok (.iconst 1, 1) := by decide +kernel
theorem d_MO_part_16 : decode b_MO_part 16 = .ok (.goto 17, 3) := by decide +kernel
theorem d_MO_part_19 : decode b_MO_part 19 = .ok (.iload_n 2, 1) := by decide +kernel
theorem d_MO_part_20 : decode b_MO_part 20 = .ok (.iconst 0, 1) := by decide +kernel
theorem d_MO_part_21 : decode b_MO_part 21 = .ok (.iconst 5, 1) := by decide +kernel
theorem d_MO_part_22 : decode b_MO_part 22 = .ok (.invokestatic 42, 3) := by decide +kernel
theorem d_MO_part_25 : decode b_MO_part 25 = .ok (.ifCond .ne 7, 3) := by decide +kernel
theorem d_MO_part_28 : decode b_MO_part 28 = .ok (.iconst 2, 1) := by decide +kernel
theorem d_MO_part_29 : decode b_MO_part 29 = .ok (.goto 4, 3) := by decide +kernel
theorem d_MO_part_32 : decode b_MO_part 32 = .ok (.iconst 0, 1) := by decide +kernel
theorem d_MO_part_33 : decode b_MO_part 33 = .ok (.putfield 39, 3) := by decide +kernel
theorem d_MO_part_36 : decode b_MO_part 36 = .ok (.aload_n 0, 1) := by decide +kernel
theorem d_MO_part_37 : decode b_MO_part 37 = .ok (.getfield 39, 3) := by decide +kernel
theorem d_MO_part_40 : decode b_MO_part 40 = .ok (.ifCond .le 7, 3) := by decide +kernel
theorem d_MO_part_43 : decode b_MO_part 43 = .ok (.iconst 0, 1) := by decide +kernel
theorem d_MO_part_44 : decode b_MO_part 44 = .ok (.goto 14, 3) := by decide +kernel
theorem d_MO_part_47 : decode b_MO_part 47 = .ok (.aload_n 0, 1) := by decide +kernel
theorem d_MO_part_48 : decode b_MO_part 48 = .ok (.getfield 29, 3) := by decide +kernel
theorem d_MO_part_51 : decode b_MO_part 51 = .ok (.bipush 6, 2) := by decide +kernel
theorem d_MO_part_53 : decode b_MO_part 53 = .ok (.iload_n 1, 1) := by decide +kernel
theorem d_MO_part_54 : decode b_MO_part 54 = .ok (.imul, 1) := by decide +kernel
theorem d_MO_part_55 : decode b_MO_part 55 = .ok (.iload_n 2, 1) := by decide +kernel
theorem d_MO_part_56 : decode b_MO_part 56 = .ok (.iadd, 1) := by decide +kernel
theorem d_MO_part_57 : decode b_MO_part 57 = .ok (.iaload, 1) := by decide +kernel
theorem d_MO_part_58 : decode b_MO_part 58 = .ok (.ireturn, 1) := by decide +kernel
theorem d_MO_isPlain_0 : decode b_MO_isPlain 0 = .ok (.aload_n 0, 1) := by decide +kernel
theorem d_MO_isPlain_1 : decode b_MO_isPlain 1 = .ok (.iconst 0, 1) := by decide +kernel
theorem d_MO_isPlain_2 : decode b_MO_isPlain 2 = .ok (.putfield 39, 3) := by decide +kernel
theorem d_MO_isPlain_5 : decode b_MO_isPlain 5 = .ok (.aload_n 0, 1) := by decide +kernel
theorem d_MO_isPlain_6 : decode b_MO_isPlain 6 = .ok (.getfield 94, 3) := by decide +kernel
theorem d_MO_isPlain_9 : decode b_MO_isPlain 9 = .ok (.ireturn, 1) := by decide +kernel
theorem d_MO_feed_0 : decode b_MO_feed 0 = .ok (.aload_n 0, 1) := by decide +kernel
theorem d_MO_feed_1 : decode b_MO_feed 1 = .ok (.iload_n 1, 1) := by decide +kernel
theorem d_MO_feed_2 : decode b_MO_feed 2 = .ok (.iconst 0, 1) := by decide +kernel
theorem d_MO_feed_3 : decode b_MO_feed 3 = .ok (.sipush 255, 3) := by decide +kernel
theorem d_MO_feed_6 : decode b_MO_feed 6 = .ok (.invokestatic 42, 3) := by decide +kernel
theorem d_MO_feed_9 : decode b_MO_feed 9 = .ok (.ifCond .ne 7, 3) := by decide +kernel
theorem d_MO_feed_12 : decode b_MO_feed 12 = .ok (.iconst 1, 1) := by decide +kernel
theorem d_MO_feed_13 : decode b_MO_feed 13 = .ok (.goto 18, 3) := by decide +kernel
theorem d_MO_feed_16 : decode b_MO_feed 16 = .ok (.aload_n 0, 1) := by decide +kernel
theorem d_MO_feed_17 : decode b_MO_feed 17 = .ok (.getfield 102, 3) := by decide +kernel
theorem d_MO_feed_20 : decode b_MO_feed 20 = .ok (.sipush 4000, 3) := by decide +kernel
theorem d_MO_feed_23 : decode b_MO_feed 23 = .ok (.if_icmp .ne 7, 3) := by decide +kernel
theorem d_MO_feed_26 : decode b_MO_feed 26 = .ok (.iconst 2, 1) := by decide +kernel
theorem d_MO_feed_27 : decode b_MO_feed 27 = .ok (.goto 4, 3) := by decide +kernel
theorem d_MO_feed_30 : decode b_MO_feed 30 = .ok (.iconst 0, 1) := by decide +kernel
theorem d_MO_feed_31 : decode b_MO_feed 31 = .ok (.putfield 39, 3) := by decide +kernel
theorem d_MO_feed_34 : decode b_MO_feed 34 = .ok (.aload_n 0, 1) := by decide +kernel
theorem d_MO_feed_35 : decode b_MO_feed 35 = .ok (.getfield 39, 3) := by decide +kernel
theorem d_MO_feed_38 : decode b_MO_feed 38 = .ok (.ifCond .le 5, 3) := by decide +kernel
theorem d_MO_feed_41 : decode b_MO_feed 41 = .ok (.iconst 0, 1) := by decide +kernel
theorem d_MO_feed_42 : decode b_MO_feed 42 = .ok (.ireturn, 1) := by decide +kernel
theorem d_MO_feed_43 : decode b_MO_feed 43 = .ok (.aload_n 0, 1) := by decide +kernel
theorem d_MO_feed_44 : decode b_MO_feed 44 = .ok (.getfield 26, 3) := by decide +kernel
theorem d_MO_feed_47 : decode b_MO_feed 47 = .ok (.aload_n 0, 1) := by decide +kernel
theorem d_MO_feed_48 : decode b_MO_feed 48 = .ok (.getfield 102, 3) := by decide +kernel
theorem d_MO_feed_51 : decode b_MO_feed 51 = .ok (.iload_n 1, 1) := by decide +kernel
theorem d_MO_feed_52 : decode b_MO_feed 52 = .ok (.iastore, 1) := by decide +kernel
theorem d_MO_feed_53 : decode b_MO_feed 53 = .ok (.aload_n 0, 1) := by decide +kernel
theorem d_MO_feed_54 : decode b_MO_feed 54 = .ok (.dup, 1) := by decide +kernel
theorem d_MO_feed_55 : decode b_MO_feed 55 = .ok (.getfield 102, 3) := by decide +kernel
theorem d_MO_feed_58 : decode b_MO_feed 58 = .ok (.iconst 1, 1) := by decide +kernel
theorem d_MO_feed_59 : decode b_MO_feed 59 = .ok (.iadd, 1) := by decide +kernel
theorem d_MO_feed_60 : decode b_MO_feed 60 = .ok (.putfield 102, 3) := by decide +kernel
theorem d_MO_feed_63 : decode b_MO_feed 63 = .ok (.aload_n 0, 1) := by decide +kernel
theorem d_MO_feed_64 : decode b_MO_feed 64 = .ok (.getfield 102, 3) := by decide +kernel
theorem d_MO_feed_67 : decode b_MO_feed 67 = .ok (.ireturn, 1) := by decide +kernel
theorem d_MO_pass_0 : decode b_MO_pass 0 = .ok (.aload_n 0, 1) := by decide +kernel
theorem d_MO_pass_1 : decode b_MO_pass 1 = .ok (.aload_n 0, 1) := by decide +kernel
theorem d_MO_pass_2 : decode b_MO_pass 2 = .ok (.getfield 102, 3) := by decide +kernel
theorem d_MO_pass_5 : decode b_MO_pass 5 = .ok (.aload_n 0, 1) := by decide +kernel
theorem d_MO_pass_6 : decode b_MO_pass 6 = .ok (.getfield 81, 3) := by decide +kernel
theorem d_MO_pass_9 : decode b_MO_pass 9 = .ok (.iadd, 1) := by decide +kernel
theorem d_MO_pass_10 : decode b_MO_pass 10 = .ok (.sipush 4000, 3) := by decide +kernel
theorem d_MO_pass_13 : decode b_MO_pass 13 = .ok (.if_icmp .le 7, 3) := by decide +kernel
theorem d_MO_pass_16 : decode b_MO_pass 16 = .ok (.iconst 1, 1) := by decide +kernel
theorem d_MO_pass_17 : decode b_MO_pass 17 = .ok (.goto 4, 3) := by decide +kernel
theorem d_MO_pass_20 : decode b_MO_pass 20 = .ok (.iconst 0, 1) := by decide +kernel
theorem d_MO_pass_21 : decode b_MO_pass 21 = .ok (.putfield 39, 3) := by decide +kernel
theorem d_MO_pass_24 : decode b_MO_pass 24 = .ok (.aload_n 0, 1) := by decide +kernel
theorem d_MO_pass_25 : decode b_MO_pass 25 = .ok (.getfield 39, 3) := by decide +kernel
theorem d_MO_pass_28 : decode b_MO_pass 28 = .ok (.ifCond .le 5, 3) := by decide +kernel
theorem d_MO_pass_31 : decode b_MO_pass 31 = .ok (.iconst 0, 1) := by decide +kernel
theorem d_MO_pass_32 : decode b_MO_pass 32 = .ok (.ireturn, 1) := by decide +kernel
theorem d_MO_pass_33 : decode b_MO_pass 33 = .ok (.iconst 0, 1) := by decide +kernel
theorem d_MO_pass_34 : decode b_MO_pass 34 = .ok (.istore_n 1, 1) := by decide +kernel
theorem d_MO_pass_35 : decode b_MO_pass 35 = .ok (.iload_n 1, 1) := by decide +kernel
theorem d_MO_pass_36 : decode b_MO_pass 36 = .ok (.aload_n 0, 1) := by decide +kernel
theorem d_MO_pass_37 : decode b_MO_pass 37 = .ok (.getfield 81, 3) := by decide +kernel
theorem d_MO_pass_40 : decode b_MO_pass 40 = .ok (.if_icmp .ge 34, 3) := by decide +kernel
theorem d_MO_pass_43 : decode b_MO_pass 43 = .ok (.aload_n 0, 1) := by decide +kernel
theorem d_MO_pass_44 : decode b_MO_pass 44 = .ok (.getfield 26, 3) := by decide +kernel
theorem d_MO_pass_47 : decode b_MO_pass 47 = .ok (.aload_n 0, 1) := by decide +kernel
theorem d_MO_pass_48 : decode b_MO_pass 48 = .ok (.getfield 102, 3) := by decide +kernel
theorem d_MO_pass_51 : decode b_MO_pass 51 = .ok (.aload_n 0, 1) := by decide +kernel
theorem d_MO_pass_52 : decode b_MO_pass 52 = .ok (.getfield 23, 3) := by decide +kernel
theorem d_MO_pass_55 : decode b_MO_pass 55 = .ok (.iload_n 1, 1) := by decide +kernel
theorem d_MO_pass_56 : decode b_MO_pass 56 = .ok (.iaload, 1) := by decide +kernel
theorem d_MO_pass_57 : decode b_MO_pass 57 = .ok (.iastore, 1) := by decide +kernel
theorem d_MO_pass_58 : decode b_MO_pass 58 = .ok (.aload_n 0, 1) := by decide +kernel
theorem d_MO_pass_59 : decode b_MO_pass 59 = .ok (.dup, 1) := by decide +kernel
theorem d_MO_pass_60 : decode b_MO_pass 60 = .ok (.getfield 102, 3) := by decide +kernel
theorem d_MO_pass_63 : decode b_MO_pass 63 = .ok (.iconst 1, 1) := by decide +kernel
theorem d_MO_pass_64 : decode b_MO_pass 64 = .ok (.iadd, 1) := by decide +kernel
theorem d_MO_pass_65 : decode b_MO_pass 65 = .ok (.putfield 102, 3) := by decide +kernel
theorem d_MO_pass_68 : decode b_MO_pass 68 = .ok (.iinc 1 1, 3) := by decide +kernel
theorem d_MO_pass_71 : decode b_MO_pass 71 = .ok (.goto (-36), 3) := by decide +kernel
theorem d_MO_pass_74 : decode b_MO_pass 74 = .ok (.aload_n 0, 1) := by decide +kernel
theorem d_MO_pass_75 : decode b_MO_pass 75 = .ok (.getfield 102, 3) := by decide +kernel
theorem d_MO_pass_78 : decode b_MO_pass 78 = .ok (.ireturn, 1) := by decide +kernel
