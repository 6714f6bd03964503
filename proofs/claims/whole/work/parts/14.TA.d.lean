theorem k_TE_3 : Cond.methodLink R_TE 3 objectInit ∈ AW := aw_mem (List.mem_of_getElem? (i := 90) (by decide +kernel)) (by decide +kernel)
theorem k_arr_boolean : Cond.arrayClass .boolean ∈ AW := aw_mem (List.mem_of_getElem? (i := 109) (by decide +kernel)) (by decide +kernel)
theorem k_TE_9 : Cond.fieldLink R_TE 9 R_TE "open" "[Z" ∈ AW := aw_mem (List.mem_of_getElem? (i := 110) (by decide +kernel)) (by decide +kernel)
theorem k_TE_15 : Cond.fieldLink R_TE 15 R_TE "counts" "[I" ∈ AW := aw_mem (List.mem_of_getElem? (i := 111) (by decide +kernel)) (by decide +kernel)
theorem nw_TE_19 : Cond.classLink R_TE 19 R_PL ∈ AW ∧ Cond.instantiable R_PL 3 ∈ AW ∧ Cond.initialized R_PL ∈ AW := ⟨aw_mem (List.mem_of_getElem? (i := 91) (by decide +kernel)) (by decide +kernel), aw_mem (List.mem_of_getElem? (i := 92) (by decide +kernel)) (by decide +kernel), aw_mem (List.mem_of_getElem? (i := 31) (by decide +kernel)) (by decide +kernel)⟩
theorem iw_TE_21 : IW R_TE 21 y_PL_init b_PL_init 2 := ⟨aw_mem (List.mem_of_getElem? (i := 93) (by decide +kernel)) (by decide +kernel), aw_mem (List.mem_of_getElem? (i := 94) (by decide +kernel)) (by decide +kernel), aw_mem (List.mem_of_getElem? (i := 31) (by decide +kernel)) (by decide +kernel), aw_mem (List.mem_of_getElem? (i := 95) (by decide +kernel)) (by decide +kernel), rfl⟩
theorem md_PL_init : MD y_PL_init 1 := by decide +kernel
theorem k_TE_24 : Cond.fieldLink R_TE 24 R_TE "found" "LDrawingForms$PartList;" ∈ AW := aw_mem (List.mem_of_getElem? (i := 112) (by decide +kernel)) (by decide +kernel)
theorem vw_TE_28 : VW R_TE 28 R_PL y_PL_drop b_PL_drop 1 (none) := ⟨aw_mem (List.mem_of_getElem? (i := 187) (by decide +kernel)) (by decide +kernel), aw_mem (List.mem_of_getElem? (i := 188) (by decide +kernel)) (by decide +kernel), aw_mem (List.mem_of_getElem? (i := 189) (by decide +kernel)) (by decide +kernel), aw_mem (List.mem_of_getElem? (i := 31) (by decide +kernel)) (by decide +kernel), aw_mem (List.mem_of_getElem? (i := 190) (by decide +kernel)) (by decide +kernel)⟩
theorem md_PL_drop : MD y_PL_drop 0 := by decide +kernel
theorem k_TE_31 : Cond.fieldLink R_TE 31 R_TE "plain" "Z" ∈ AW := aw_mem (List.mem_of_getElem? (i := 114) (by decide +kernel)) (by decide +kernel)
theorem sw_TE_73 : SW R_TE 73 y_AR_fill b_AR_fill 4 (none) := ⟨aw_mem (List.mem_of_getElem? (i := 180) (by decide +kernel)) (by decide +kernel), aw_mem (List.mem_of_getElem? (i := 181) (by decide +kernel)) (by decide +kernel), aw_mem (List.mem_of_getElem? (i := 39) (by decide +kernel)) (by decide +kernel), aw_mem (List.mem_of_getElem? (i := 182) (by decide +kernel)) (by decide +kernel)⟩
theorem kn_TE_54 : Cond.fieldLinkNest R_TE 54 R_PI "values" "[I" R_DF ∈ lw_tbl := (List.mem_of_getElem? (i := 76) (by decide +kernel))
theorem vw_TE_66 : VW R_TE 66 R_BR y_BR_add b_BR_add 2 (none) := ⟨aw_mem (List.mem_of_getElem? (i := 247) (by decide +kernel)) (by decide +kernel), aw_mem (List.mem_of_getElem? (i := 248) (by decide +kernel)) (by decide +kernel), aw_mem (List.mem_of_getElem? (i := 249) (by decide +kernel)) (by decide +kernel), aw_mem (List.mem_of_getElem? (i := 32) (by decide +kernel)) (by decide +kernel), aw_mem (List.mem_of_getElem? (i := 250) (by decide +kernel)) (by decide +kernel)⟩
theorem kn_TE_79 : Cond.fieldLinkNest R_TE 79 R_PI "width" "I" R_DF ∈ lw_tbl := (List.mem_of_getElem? (i := 69) (by decide +kernel))
theorem vw_TE_82 : VW R_TE 82 R_PI y_PI_has b_PI_has 3 (some .boolean) := ⟨aw_mem (List.mem_of_getElem? (i := 199) (by decide +kernel)) (by decide +kernel), aw_mem (List.mem_of_getElem? (i := 200) (by decide +kernel)) (by decide +kernel), aw_mem (List.mem_of_getElem? (i := 201) (by decide +kernel)) (by decide +kernel), aw_mem (List.mem_of_getElem? (i := 29) (by decide +kernel)) (by decide +kernel), aw_mem (List.mem_of_getElem? (i := 202) (by decide +kernel)) (by decide +kernel)⟩
theorem vw_TE_89 : VW R_TE 89 R_TE y_TE_isOpen b_TE_isOpen 5 (some .boolean) := ⟨aw_mem (List.mem_of_getElem? (i := 195) (by decide +kernel)) (by decide +kernel), aw_mem (List.mem_of_getElem? (i := 197) (by decide +kernel)) (by decide +kernel), aw_mem (List.mem_of_getElem? (i := 2) (by decide +kernel)) (by decide +kernel), aw_mem (List.mem_of_getElem? (i := 30) (by decide +kernel)) (by decide +kernel), aw_mem (List.mem_of_getElem? (i := 198) (by decide +kernel)) (by decide +kernel)⟩
theorem md_TE_isOpen : MD y_TE_isOpen 3 := by decide +kernel
theorem vw_TE_97 : VW R_TE 97 R_PI y_PI_value b_PI_value 3 (some .int) := ⟨aw_mem (List.mem_of_getElem? (i := 207) (by decide +kernel)) (by decide +kernel), aw_mem (List.mem_of_getElem? (i := 208) (by decide +kernel)) (by decide +kernel), aw_mem (List.mem_of_getElem? (i := 209) (by decide +kernel)) (by decide +kernel), aw_mem (List.mem_of_getElem? (i := 29) (by decide +kernel)) (by decide +kernel), aw_mem (List.mem_of_getElem? (i := 210) (by decide +kernel)) (by decide +kernel)⟩
theorem d_TE_init_0 : decode b_TE_init 0 = .ok (.aload_n 0, 1) := by decide +kernel
theorem d_TE_init_1 : decode b_TE_init 1 = .ok (.invokespecial 3, 3) := by decide +kernel
theorem d_TE_init_4 : decode b_TE_init 4 = .ok (.aload_n 0, 1) := by decide +kernel
theorem d_TE_init_5 : decode b_TE_init 5 = .ok (.iload_n 1, 1) := by decide +kernel
theorem d_TE_init_6 : decode b_TE_init 6 = .ok (.newarray .boolean, 2) := by decide +kernel
theorem d_TE_init_8 : decode b_TE_init 8 = .ok (.putfield 9, 3) := by decide +kernel
theorem d_TE_init_11 : decode b_TE_init 11 = .ok (.aload_n 0, 1) := by decide +kernel
theorem d_TE_init_12 : decode b_TE_init 12 = .ok (.sipush 256, 3) := by decide +kernel
theorem d_TE_init_15 : decode b_TE_init 15 = .ok (.newarray .int, 2) := by decide +kernel
theorem d_TE_init_17 : decode b_TE_init 17 = .ok (.putfield 15, 3) := by decide +kernel
theorem d_TE_init_20 : decode b_TE_init 20 = .ok (.aload_n 0, 1) := by decide +kernel
theorem d_TE_init_21 : decode b_TE_init 21 = .ok (.new 19, 3) := by decide +kernel
theorem d_TE_init_24 : decode b_TE_init 24 = .ok (.dup, 1) := by decide +kernel
theorem d_TE_init_25 : decode b_TE_init 25 = .ok (.iload_n 1, 1) := by decide +kernel
theorem d_TE_init_26 : decode b_TE_init 26 = .ok (.invokespecial 21, 3) := by decide +kernel
theorem d_TE_init_29 : decode b_TE_init 29 = .ok (.putfield 24, 3) := by decide +kernel
theorem d_TE_init_32 : decode b_TE_init 32 = .ok (.return_, 1) := by decide +kernel
theorem d_TE_forget_0 : decode b_TE_forget 0 = .ok (.aload_n 0, 1) := by decide +kernel
theorem d_TE_forget_1 : decode b_TE_forget 1 = .ok (.getfield 24, 3) := by decide +kernel
theorem d_TE_forget_4 : decode b_TE_forget 4 = .ok (.invokevirtual 28, 3) := by decide +kernel
theorem d_TE_forget_7 : decode b_TE_forget 7 = .ok (.aload_n 0, 1) := by decide +kernel
theorem d_TE_forget_8 : decode b_TE_forget 8 = .ok (.iconst 0, 1) := by decide +kernel
theorem d_TE_forget_9 : decode b_TE_forget 9 = .ok (.putfield 31, 3) := by decide +kernel
theorem d_TE_forget_12 : decode b_TE_forget 12 = .ok (.return_, 1) := by decide +kernel
theorem d_TE_groundOf_0 : decode b_TE_groundOf 0 = .ok (.aload_n 0, 1) := by decide +kernel
theorem d_TE_groundOf_1 : decode b_TE_groundOf 1 = .ok (.getfield 15, 3) := by decide +kernel
theorem d_TE_groundOf_4 : decode b_TE_groundOf 4 = .ok (.iconst 0, 1) := by decide +kernel
theorem d_TE_groundOf_5 : decode b_TE_groundOf 5 = .ok (.invokestatic 73, 3) := by decide +kernel
theorem d_TE_groundOf_8 : decode b_TE_groundOf 8 = .ok (.iconst 0, 1) := by decide +kernel
theorem d_TE_groundOf_9 : decode b_TE_groundOf 9 = .ok (.istore_n 2, 1) := by decide +kernel
theorem d_TE_groundOf_10 : decode b_TE_groundOf 10 = .ok (.iload_n 2, 1) := by decide +kernel
theorem d_TE_groundOf_11 : decode b_TE_groundOf 11 = .ok (.aload_n 1, 1) := by decide +kernel
theorem d_TE_groundOf_12 : decode b_TE_groundOf 12 = .ok (.getfield 54, 3) := by decide +kernel
theorem d_TE_groundOf_15 : decode b_TE_groundOf 15 = .ok (.arraylength, 1) := by decide +kernel
theorem d_TE_groundOf_16 : decode b_TE_groundOf 16 = .ok (.if_icmp .ge 39, 3) := by decide +kernel
theorem d_TE_groundOf_19 : decode b_TE_groundOf 19 = .ok (.aload_n 1, 1) := by decide +kernel
theorem d_TE_groundOf_20 : decode b_TE_groundOf 20 = .ok (.getfield 54, 3) := by decide +kernel
theorem d_TE_groundOf_23 : decode b_TE_groundOf 23 = .ok (.iload_n 2, 1) := by decide +kernel
theorem d_TE_groundOf_24 : decode b_TE_groundOf 24 = .ok (.iaload, 1) := by decide +kernel
theorem d_TE_groundOf_25 : decode b_TE_groundOf 25 = .ok (.istore_n 3, 1) := by decide +kernel
theorem d_TE_groundOf_26 : decode b_TE_groundOf 26 = .ok (.iload_n 3, 1) := by decide +kernel
theorem d_TE_groundOf_27 : decode b_TE_groundOf 27 = .ok (.ifCond .lt 22, 3) := by decide +kernel
theorem d_TE_groundOf_30 : decode b_TE_groundOf 30 = .ok (.iload_n 3, 1) := by decide +kernel
theorem d_TE_groundOf_31 : decode b_TE_groundOf 31 = .ok (.aload_n 0, 1) := by decide +kernel
theorem d_TE_groundOf_32 : decode b_TE_groundOf 32 = .ok (.getfield 15, 3) := by decide +kernel
theorem d_TE_groundOf_35 : decode b_TE_groundOf 35 = .ok (.arraylength, 1) := by decide +kernel
theorem d_TE_groundOf_36 : decode b_TE_groundOf 36 = .ok (.if_icmp .ge 13, 3) := by decide +kernel
theorem d_TE_groundOf_39 : decode b_TE_groundOf 39 = .ok (.aload_n 0, 1) := by decide +kernel
theorem d_TE_groundOf_40 : decode b_TE_groundOf 40 = .ok (.getfield 15, 3) := by decide +kernel
theorem d_TE_groundOf_43 : decode b_TE_groundOf 43 = .ok (.iload_n 3, 1) := by decide +kernel
theorem d_TE_groundOf_44 : decode b_TE_groundOf 44 = .ok (.dup2, 1) := by decide +kernel
theorem d_TE_groundOf_45 : decode b_TE_groundOf 45 = .ok (.iaload, 1) := by decide +kernel
theorem d_TE_groundOf_46 : decode b_TE_groundOf 46 = .ok (.iconst 1, 1) := by decide +kernel
theorem d_TE_groundOf_47 : decode b_TE_groundOf 47 = .ok (.iadd, 1) := by decide +kernel
theorem d_TE_groundOf_48 : decode b_TE_groundOf 48 = .ok (.iastore, 1) := by decide +kernel
theorem d_TE_groundOf_49 : decode b_TE_groundOf 49 = .ok (.iinc 2 1, 3) := by decide +kernel
theorem d_TE_groundOf_52 : decode b_TE_groundOf 52 = .ok (.goto (-42), 3) := by decide +kernel
theorem d_TE_groundOf_55 : decode b_TE_groundOf 55 = .ok (.iconst 0, 1) := by decide +kernel
theorem d_TE_groundOf_56 : decode b_TE_groundOf 56 = .ok (.istore_n 2, 1) := by decide +kernel
theorem d_TE_groundOf_57 : decode b_TE_groundOf 57 = .ok (.iconst 0, 1) := by decide +kernel
theorem d_TE_groundOf_58 : decode b_TE_groundOf 58 = .ok (.istore_n 3, 1) := by decide +kernel
theorem d_TE_groundOf_59 : decode b_TE_groundOf 59 = .ok (.iconst 0, 1) := by decide +kernel
theorem d_TE_groundOf_60 : decode b_TE_groundOf 60 = .ok (.istore 4, 2) := by decide +kernel
theorem d_TE_groundOf_62 : decode b_TE_groundOf 62 = .ok (.iload 4, 2) := by decide +kernel
theorem d_TE_groundOf_64 : decode b_TE_groundOf 64 = .ok (.aload_n 0, 1) := by decide +kernel
theorem d_TE_groundOf_65 : decode b_TE_groundOf 65 = .ok (.getfield 15, 3) := by decide +kernel
theorem d_TE_groundOf_68 : decode b_TE_groundOf 68 = .ok (.arraylength, 1) := by decide +kernel
theorem d_TE_groundOf_69 : decode b_TE_groundOf 69 = .ok (.if_icmp .ge 31, 3) := by decide +kernel
theorem d_TE_groundOf_72 : decode b_TE_groundOf 72 = .ok (.aload_n 0, 1) := by decide +kernel
theorem d_TE_groundOf_73 : decode b_TE_groundOf 73 = .ok (.getfield 15, 3) := by decide +kernel
theorem d_TE_groundOf_76 : decode b_TE_groundOf 76 = .ok (.iload 4, 2) := by decide +kernel
theorem d_TE_groundOf_78 : decode b_TE_groundOf 78 = .ok (.iaload, 1) := by decide +kernel
theorem d_TE_groundOf_79 : decode b_TE_groundOf 79 = .ok (.iload_n 3, 1) := by decide +kernel
theorem d_TE_groundOf_80 : decode b_TE_groundOf 80 = .ok (.if_icmp .le 14, 3) := by decide +kernel
theorem d_TE_groundOf_83 : decode b_TE_groundOf 83 = .ok (.aload_n 0, 1) := by decide +kernel
theorem d_TE_groundOf_84 : decode b_TE_groundOf 84 = .ok (.getfield 15, 3) := by decide +kernel
theorem d_TE_groundOf_87 : decode b_TE_groundOf 87 = .ok (.iload 4, 2) := by decide +kernel
theorem d_TE_groundOf_89 : decode b_TE_groundOf 89 = .ok (.iaload, 1) := by decide +kernel
theorem d_TE_groundOf_90 : decode b_TE_groundOf 90 = .ok (.istore_n 3, 1) := by decide +kernel
theorem d_TE_groundOf_91 : decode b_TE_groundOf 91 = .ok (.iload 4, 2) := by decide +kernel
theorem d_TE_groundOf_93 : decode b_TE_groundOf 93 = .ok (.istore_n 2, 1) := by decide +kernel
theorem d_TE_groundOf_94 : decode b_TE_groundOf 94 = .ok (.iinc 4 1, 3) := by decide +kernel
theorem d_TE_groundOf_97 : decode b_TE_groundOf 97 = .ok (.goto (-35), 3) := by decide +kernel
theorem d_TE_groundOf_100 : decode b_TE_groundOf 100 = .ok (.iload_n 2, 1) := by decide +kernel
theorem d_TE_groundOf_101 : decode b_TE_groundOf 101 = .ok (.ireturn, 1) := by decide +kernel
theorem d_TE_writePlain_0 : decode b_TE_writePlain 0 = .ok (.aload_n 1, 1) := by decide +kernel
theorem d_TE_writePlain_1 : decode b_TE_writePlain 1 = .ok (.iconst 0, 1) := by decide +kernel
theorem d_TE_writePlain_2 : decode b_TE_writePlain 2 = .ok (.invokevirtual 66, 3) := by decide +kernel
theorem d_TE_writePlain_5 : decode b_TE_writePlain 5 = .ok (.iconst 0, 1) := by decide +kernel
theorem d_TE_writePlain_6 : decode b_TE_writePlain 6 = .ok (.istore_n 2, 1) := by decide +kernel
theorem d_TE_writePlain_7 : decode b_TE_writePlain 7 = .ok (.iload_n 2, 1) := by decide +kernel
theorem d_TE_writePlain_8 : decode b_TE_writePlain 8 = .ok (.aload_n 0, 1) := by decide +kernel
theorem d_TE_writePlain_9 : decode b_TE_writePlain 9 = .ok (.getfield 54, 3) := by decide +kernel
theorem d_TE_writePlain_12 : decode b_TE_writePlain 12 = .ok (.arraylength, 1) := by decide +kernel
theorem d_TE_writePlain_13 : decode b_TE_writePlain 13 = .ok (.if_icmp .ge 19, 3) := by decide +kernel
theorem d_TE_writePlain_16 : decode b_TE_writePlain 16 = .ok (.aload_n 1, 1) := by decide +kernel
theorem d_TE_writePlain_17 : decode b_TE_writePlain 17 = .ok (.aload_n 0, 1) := by decide +kernel
theorem d_TE_writePlain_18 : decode b_TE_writePlain 18 = .ok (.getfield 54, 3) := by decide +kernel
theorem d_TE_writePlain_21 : decode b_TE_writePlain 21 = .ok (.iload_n 2, 1) := by decide +kernel
theorem d_TE_writePlain_22 : decode b_TE_writePlain 22 = .ok (.iaload, 1) := by decide +kernel
theorem d_TE_writePlain_23 : decode b_TE_writePlain 23 = .ok (.invokevirtual 66, 3) := by decide +kernel
theorem d_TE_writePlain_26 : decode b_TE_writePlain 26 = .ok (.iinc 2 1, 3) := by decide +kernel
theorem d_TE_writePlain_29 : decode b_TE_writePlain 29 = .ok (.goto (-22), 3) := by decide +kernel
theorem d_TE_writePlain_32 : decode b_TE_writePlain 32 = .ok (.return_, 1) := by decide +kernel
theorem d_TE_openAllBut_0 : decode b_TE_openAllBut 0 = .ok (.iconst 0, 1) := by decide +kernel
theorem d_TE_openAllBut_1 : decode b_TE_openAllBut 1 = .ok (.istore_n 3, 1) := by decide +kernel
theorem d_TE_openAllBut_2 : decode b_TE_openAllBut 2 = .ok (.iload_n 3, 1) := by decide +kernel
theorem d_TE_openAllBut_3 : decode b_TE_openAllBut 3 = .ok (.aload_n 0, 1) := by decide +kernel
theorem d_TE_openAllBut_4 : decode b_TE_openAllBut 4 = .ok (.getfield 9, 3) := by decide +kernel
theorem d_TE_openAllBut_7 : decode b_TE_openAllBut 7 = .ok (.arraylength, 1) := by decide +kernel
theorem d_TE_openAllBut_8 : decode b_TE_openAllBut 8 = .ok (.if_icmp .ge 39, 3) := by decide +kernel
theorem d_TE_openAllBut_11 : decode b_TE_openAllBut 11 = .ok (.iload_n 3, 1) := by decide +kernel
theorem d_TE_openAllBut_12 : decode b_TE_openAllBut 12 = .ok (.aload_n 2, 1) := by decide +kernel
theorem d_TE_openAllBut_13 : decode b_TE_openAllBut 13 = .ok (.getfield 54, 3) := by decide +kernel
theorem d_TE_openAllBut_16 : decode b_TE_openAllBut 16 = .ok (.arraylength, 1) := by decide +kernel
theorem d_TE_openAllBut_17 : decode b_TE_openAllBut 17 = .ok (.if_icmp .ge 30, 3) := by decide +kernel
theorem d_TE_openAllBut_20 : decode b_TE_openAllBut 20 = .ok (.aload_n 0, 1) := by decide +kernel
theorem d_TE_openAllBut_21 : decode b_TE_openAllBut 21 = .ok (.getfield 9, 3) := by decide +kernel
theorem d_TE_openAllBut_24 : decode b_TE_openAllBut 24 = .ok (.iload_n 3, 1) := by decide +kernel
theorem d_TE_openAllBut_25 : decode b_TE_openAllBut 25 = .ok (.aload_n 2, 1) := by decide +kernel
theorem d_TE_openAllBut_26 : decode b_TE_openAllBut 26 = .ok (.getfield 54, 3) := by decide +kernel
theorem d_TE_openAllBut_29 : decode b_TE_openAllBut 29 = .ok (.iload_n 3, 1) := by decide +kernel
theorem d_TE_openAllBut_30 : decode b_TE_openAllBut 30 = .ok (.iaload, 1) := by decide +kernel
theorem d_TE_openAllBut_31 : decode b_TE_openAllBut 31 = .ok (.iload_n 1, 1) := by decide +kernel
theorem d_TE_openAllBut_32 : decode b_TE_openAllBut 32 = .ok (.if_icmp .eq 7, 3) := by decide +kernel
theorem d_TE_openAllBut_35 : decode b_TE_openAllBut 35 = .ok (.iconst 1, 1) := by decide +kernel
theorem d_TE_openAllBut_36 : decode b_TE_openAllBut 36 = .ok (.goto 4, 3) := by decide +kernel
theorem d_TE_openAllBut_39 : decode b_TE_openAllBut 39 = .ok (.iconst 0, 1) := by decide +kernel
theorem d_TE_openAllBut_40 : decode b_TE_openAllBut 40 = .ok (.bastore, 1) := by decide +kernel
theorem d_TE_openAllBut_41 : decode b_TE_openAllBut 41 = .ok (.iinc 3 1, 3) := by decide +kernel
theorem d_TE_openAllBut_44 : decode b_TE_openAllBut 44 = .ok (.goto (-42), 3) := by decide +kernel
theorem d_TE_openAllBut_47 : decode b_TE_openAllBut 47 = .ok (.return_, 1) := by decide +kernel
theorem d_TE_isOpen_0 : decode b_TE_isOpen 0 = .ok (.iload_n 3, 1) := by decide +kernel
theorem d_TE_isOpen_1 : decode b_TE_isOpen 1 = .ok (.aload_n 1, 1) := by decide +kernel
theorem d_TE_isOpen_2 : decode b_TE_isOpen 2 = .ok (.getfield 79, 3) := by decide +kernel
theorem d_TE_isOpen_5 : decode b_TE_isOpen 5 = .ok (.imul, 1) := by decide +kernel
theorem d_TE_isOpen_6 : decode b_TE_isOpen 6 = .ok (.iload_n 2, 1) := by decide +kernel
theorem d_TE_isOpen_7 : decode b_TE_isOpen 7 = .ok (.iadd, 1) := by decide +kernel
theorem d_TE_isOpen_8 : decode b_TE_isOpen 8 = .ok (.istore 4, 2) := by decide +kernel
theorem d_TE_isOpen_10 : decode b_TE_isOpen 10 = .ok (.aload_n 1, 1) := by decide +kernel
theorem d_TE_isOpen_11 : decode b_TE_isOpen 11 = .ok (.iload_n 2, 1) := by decide +kernel
theorem d_TE_isOpen_12 : decode b_TE_isOpen 12 = .ok (.iload_n 3, 1) := by decide +kernel
theorem d_TE_isOpen_13 : decode b_TE_isOpen 13 = .ok (.invokevirtual 82, 3) := by decide +kernel
theorem d_TE_isOpen_16 : decode b_TE_isOpen 16 = .ok (.ifCond .eq 32, 3) := by decide +kernel
theorem d_TE_isOpen_19 : decode b_TE_isOpen 19 = .ok (.iload 4, 2) := by decide +kernel
theorem d_TE_isOpen_21 : decode b_TE_isOpen 21 = .ok (.ifCond .lt 27, 3) := by decide +kernel
theorem d_TE_isOpen_24 : decode b_TE_isOpen 24 = .ok (.iload 4, 2) := by decide +kernel
theorem d_TE_isOpen_26 : decode b_TE_isOpen 26 = .ok (.aload_n 0, 1) := by decide +kernel
theorem d_TE_isOpen_27 : decode b_TE_isOpen 27 = .ok (.getfield 9, 3) := by decide +kernel
theorem d_TE_isOpen_30 : decode b_TE_isOpen 30 = .ok (.arraylength, 1) := by decide +kernel
theorem d_TE_isOpen_31 : decode b_TE_isOpen 31 = .ok (.if_icmp .ge 17, 3) := by decide +kernel
theorem d_TE_isOpen_34 : decode b_TE_isOpen 34 = .ok (.aload_n 0, 1) := by decide +kernel
theorem d_TE_isOpen_35 : decode b_TE_isOpen 35 = .ok (.getfield 9, 3) := by decide +kernel
theorem d_TE_isOpen_38 : decode b_TE_isOpen 38 = .ok (.iload 4, 2) := by decide +kernel
theorem d_TE_isOpen_40 : decode b_TE_isOpen 40 = .ok (.baload, 1) := by decide +kernel
theorem d_TE_isOpen_41 : decode b_TE_isOpen 41 = .ok (.ifCond .eq 7, 3) := by decide +kernel
theorem d_TE_isOpen_44 : decode b_TE_isOpen 44 = .ok (.iconst 1, 1) := by decide +kernel
theorem d_TE_isOpen_45 : decode b_TE_isOpen 45 = .ok (.goto 4, 3) := by decide +kernel
theorem d_TE_isOpen_48 : decode b_TE_isOpen 48 = .ok (.iconst 0, 1) := by decide +kernel
theorem d_TE_isOpen_49 : decode b_TE_isOpen 49 = .ok (.ireturn, 1) := by decide +kernel
theorem d_TE_close_0 : decode b_TE_close 0 = .ok (.iload_n 3, 1) := by decide +kernel
theorem d_TE_close_1 : decode b_TE_close 1 = .ok (.istore 6, 2) := by decide +kernel
theorem d_TE_close_3 : decode b_TE_close 3 = .ok (.iload 6, 2) := by decide +kernel
theorem d_TE_close_5 : decode b_TE_close 5 = .ok (.iload_n 3, 1) := by decide +kernel
theorem d_TE_close_6 : decode b_TE_close 6 = .ok (.iload 5, 2) := by decide +kernel
theorem d_TE_close_8 : decode b_TE_close 8 = .ok (.iadd, 1) := by decide +kernel
theorem d_TE_close_9 : decode b_TE_close 9 = .ok (.if_icmp .ge 73, 3) := by decide +kernel
theorem d_TE_close_12 : decode b_TE_close 12 = .ok (.iload_n 2, 1) := by decide +kernel
theorem d_TE_close_13 : decode b_TE_close 13 = .ok (.istore 7, 2) := by decide +kernel
theorem d_TE_close_15 : decode b_TE_close 15 = .ok (.iload 7, 2) := by decide +kernel
theorem d_TE_close_17 : decode b_TE_close 17 = .ok (.iload_n 2, 1) := by decide +kernel
theorem d_TE_close_18 : decode b_TE_close 18 = .ok (.iload 4, 2) := by decide +kernel
theorem d_TE_close_20 : decode b_TE_close 20 = .ok (.iadd, 1) := by decide +kernel
theorem d_TE_close_21 : decode b_TE_close 21 = .ok (.if_icmp .ge 55, 3) := by decide +kernel
theorem d_TE_close_24 : decode b_TE_close 24 = .ok (.iload 6, 2) := by decide +kernel
theorem d_TE_close_26 : decode b_TE_close 26 = .ok (.aload_n 1, 1) := by decide +kernel
theorem d_TE_close_27 : decode b_TE_close 27 = .ok (.getfield 79, 3) := by decide +kernel
theorem d_TE_close_30 : decode b_TE_close 30 = .ok (.imul, 1) := by decide +kernel
theorem d_TE_close_31 : decode b_TE_close 31 = .ok (.iload 7, 2) := by decide +kernel
theorem d_TE_close_33 : decode b_TE_close 33 = .ok (.iadd, 1) := by decide +kernel
theorem d_TE_close_34 : decode b_TE_close 34 = .ok (.istore 8, 2) := by decide +kernel
theorem d_TE_close_36 : decode b_TE_close 36 = .ok (.aload_n 1, 1) := by decide +kernel
theorem d_TE_close_37 : decode b_TE_close 37 = .ok (.iload 7, 2) := by decide +kernel
theorem d_TE_close_39 : decode b_TE_close 39 = .ok (.iload 6, 2) := by decide +kernel
theorem d_TE_close_41 : decode b_TE_close 41 = .ok (.invokevirtual 82, 3) := by decide +kernel
theorem d_TE_close_44 : decode b_TE_close 44 = .ok (.ifCond .eq 26, 3) := by decide +kernel
theorem d_TE_close_47 : decode b_TE_close 47 = .ok (.iload 8, 2) := by decide +kernel
theorem d_TE_close_49 : decode b_TE_close 49 = .ok (.ifCond .lt 21, 3) := by decide +kernel
theorem d_TE_close_52 : decode b_TE_close 52 = .ok (.iload 8, 2) := by decide +kernel
theorem d_TE_close_54 : decode b_TE_close 54 = .ok (.aload_n 0, 1) := by decide +kernel
theorem d_TE_close_55 : decode b_TE_close 55 = .ok (.getfield 9, 3) := by decide +kernel
theorem d_TE_close_58 : decode b_TE_close 58 = .ok (.arraylength, 1) := by decide +kernel
theorem d_TE_close_59 : decode b_TE_close 59 = .ok (.if_icmp .ge 11, 3) := by decide +kernel
theorem d_TE_close_62 : decode b_TE_close 62 = .ok (.aload_n 0, 1) := by decide +kernel
theorem d_TE_close_63 : decode b_TE_close 63 = .ok (.getfield 9, 3) := by decide +kernel
theorem d_TE_close_66 : decode b_TE_close 66 = .ok (.iload 8, 2) := by decide +kernel
theorem d_TE_close_68 : decode b_TE_close 68 = .ok (.iconst 0, 1) := by decide +kernel
theorem d_TE_close_69 : decode b_TE_close 69 = .ok (.bastore, 1) := by decide +kernel
theorem d_TE_close_70 : decode b_TE_close 70 = .ok (.iinc 7 1, 3) := by decide +kernel
theorem d_TE_close_73 : decode b_TE_close 73 = .ok (.goto (-58), 3) := by decide +kernel
theorem d_TE_close_76 : decode b_TE_close 76 = .ok (.iinc 6 1, 3) := by decide +kernel
theorem d_TE_close_79 : decode b_TE_close 79 = .ok (.goto (-76), 3) := by decide +kernel
theorem d_TE_close_82 : decode b_TE_close 82 = .ok (.return_, 1) := by decide +kernel
theorem d_TE_openOfValue_0 : decode b_TE_openOfValue 0 = .ok (.iconst 0, 1) := by decide +kernel
theorem d_TE_openOfValue_1 : decode b_TE_openOfValue 1 = .ok (.istore 5, 2) := by decide +kernel
theorem d_TE_openOfValue_3 : decode b_TE_openOfValue 3 = .ok (.iload 5, 2) := by decide +kernel
theorem d_TE_openOfValue_5 : decode b_TE_openOfValue 5 = .ok (.aload_n 1, 1) := by decide +kernel
theorem d_TE_openOfValue_6 : decode b_TE_openOfValue 6 = .ok (.getfield 79, 3) := by decide +kernel
theorem d_TE_openOfValue_9 : decode b_TE_openOfValue 9 = .ok (.if_icmp .ge 36, 3) := by decide +kernel
theorem d_TE_openOfValue_12 : decode b_TE_openOfValue 12 = .ok (.aload_n 0, 1) := by decide +kernel
theorem d_TE_openOfValue_13 : decode b_TE_openOfValue 13 = .ok (.aload_n 1, 1) := by decide +kernel
theorem d_TE_openOfValue_14 : decode b_TE_openOfValue 14 = .ok (.iload_n 2, 1) := by decide +kernel
theorem d_TE_openOfValue_15 : decode b_TE_openOfValue 15 = .ok (.iload 5, 2) := by decide +kernel
theorem d_TE_openOfValue_17 : decode b_TE_openOfValue 17 = .ok (.iadd, 1) := by decide +kernel
theorem d_TE_openOfValue_18 : decode b_TE_openOfValue 18 = .ok (.iload_n 3, 1) := by decide +kernel
theorem d_TE_openOfValue_19 : decode b_TE_openOfValue 19 = .ok (.invokevirtual 89, 3) := by decide +kernel
theorem d_TE_openOfValue_22 : decode b_TE_openOfValue 22 = .ok (.ifCond .eq 23, 3) := by decide +kernel
theorem d_TE_openOfValue_25 : decode b_TE_openOfValue 25 = .ok (.aload_n 1, 1) := by decide +kernel
theorem d_TE_openOfValue_26 : decode b_TE_openOfValue 26 = .ok (.iload_n 2, 1) := by decide +kernel
theorem d_TE_openOfValue_27 : decode b_TE_openOfValue 27 = .ok (.iload 5, 2) := by decide +kernel
theorem d_TE_openOfValue_29 : decode b_TE_openOfValue 29 = .ok (.iadd, 1) := by decide +kernel
theorem d_TE_openOfValue_30 : decode b_TE_openOfValue 30 = .ok (.iload_n 3, 1) := by decide +kernel
theorem d_TE_openOfValue_31 : decode b_TE_openOfValue 31 = .ok (.invokevirtual 97, 3) := by decide +kernel
theorem d_TE_openOfValue_34 : decode b_TE_openOfValue 34 = .ok (.iload 4, 2) := by decide +kernel
theorem d_TE_openOfValue_36 : decode b_TE_openOfValue 36 = .ok (.if_icmp .ne 9, 3) := by decide +kernel
theorem d_TE_openOfValue_39 : decode b_TE_openOfValue 39 = .ok (.iinc 5 1, 3) := by decide +kernel
theorem d_TE_openOfValue_42 : decode b_TE_openOfValue 42 = .ok (.goto (-39), 3) := by decide +kernel
theorem d_TE_openOfValue_45 : decode b_TE_openOfValue 45 = .ok (.iload 5, 2) := by decide +kernel
theorem d_TE_openOfValue_47 : decode b_TE_openOfValue 47 = .ok (.ireturn, 1) := by decide +kernel
theorem d_TE_openAsCopied_0 : decode b_TE_openAsCopied 0 = .ok (.iconst 0, 1) := by decide +kernel
theorem d_TE_openAsCopied_1 : decode b_TE_openAsCopied 1 = .ok (.istore 6, 2) := by decide +kernel
theorem d_TE_openAsCopied_3 : decode b_TE_openAsCopied 3 = .ok (.iload 6, 2) := by decide +kernel
theorem d_TE_openAsCopied_5 : decode b_TE_openAsCopied 5 = .ok (.aload_n 1, 1) := by decide +kernel
theorem d_TE_openAsCopied_6 : decode b_TE_openAsCopied 6 = .ok (.getfield 79, 3) := by decide +kernel
theorem d_TE_openAsCopied_9 : decode b_TE_openAsCopied 9 = .ok (.if_icmp .ge 49, 3) := by decide +kernel
theorem d_TE_openAsCopied_12 : decode b_TE_openAsCopied 12 = .ok (.aload_n 0, 1) := by decide +kernel
theorem d_TE_openAsCopied_13 : decode b_TE_openAsCopied 13 = .ok (.aload_n 1, 1) := by decide +kernel
theorem d_TE_openAsCopied_14 : decode b_TE_openAsCopied 14 = .ok (.iload_n 2, 1) := by decide +kernel
theorem d_TE_openAsCopied_15 : decode b_TE_openAsCopied 15 = .ok (.iload 6, 2) := by decide +kernel
theorem d_TE_openAsCopied_17 : decode b_TE_openAsCopied 17 = .ok (.iadd, 1) := by decide +kernel
theorem d_TE_openAsCopied_18 : decode b_TE_openAsCopied 18 = .ok (.iload_n 3, 1) := by decide +kernel
theorem d_TE_openAsCopied_19 : decode b_TE_openAsCopied 19 = .ok (.invokevirtual 89, 3) := by decide +kernel
theorem d_TE_openAsCopied_22 : decode b_TE_openAsCopied 22 = .ok (.ifCond .eq 36, 3) := by decide +kernel
theorem d_TE_openAsCopied_25 : decode b_TE_openAsCopied 25 = .ok (.aload_n 1, 1) := by decide +kernel
theorem d_TE_openAsCopied_26 : decode b_TE_openAsCopied 26 = .ok (.iload_n 2, 1) := by decide +kernel
theorem d_TE_openAsCopied_27 : decode b_TE_openAsCopied 27 = .ok (.iload 6, 2) := by decide +kernel
theorem d_TE_openAsCopied_29 : decode b_TE_openAsCopied 29 = .ok (.iadd, 1) := by decide +kernel
theorem d_TE_openAsCopied_30 : decode b_TE_openAsCopied 30 = .ok (.iload_n 3, 1) := by decide +kernel
theorem d_TE_openAsCopied_31 : decode b_TE_openAsCopied 31 = .ok (.invokevirtual 97, 3) := by decide +kernel
theorem d_TE_openAsCopied_34 : decode b_TE_openAsCopied 34 = .ok (.aload_n 1, 1) := by decide +kernel
theorem d_TE_openAsCopied_35 : decode b_TE_openAsCopied 35 = .ok (.iload_n 2, 1) := by decide +kernel
theorem d_TE_openAsCopied_36 : decode b_TE_openAsCopied 36 = .ok (.iload 6, 2) := by decide +kernel
theorem d_TE_openAsCopied_38 : decode b_TE_openAsCopied 38 = .ok (.iadd, 1) := by decide +kernel
theorem d_TE_openAsCopied_39 : decode b_TE_openAsCopied 39 = .ok (.iload 4, 2) := by decide +kernel
theorem d_TE_openAsCopied_41 : decode b_TE_openAsCopied 41 = .ok (.iadd, 1) := by decide +kernel
theorem d_TE_openAsCopied_42 : decode b_TE_openAsCopied 42 = .ok (.iload_n 3, 1) := by decide +kernel
theorem d_TE_openAsCopied_43 : decode b_TE_openAsCopied 43 = .ok (.iload 5, 2) := by decide +kernel
theorem d_TE_openAsCopied_45 : decode b_TE_openAsCopied 45 = .ok (.isub, 1) := by decide +kernel
theorem d_TE_openAsCopied_46 : decode b_TE_openAsCopied 46 = .ok (.invokevirtual 97, 3) := by decide +kernel
theorem d_TE_openAsCopied_49 : decode b_TE_openAsCopied 49 = .ok (.if_icmp .ne 9, 3) := by decide +kernel
theorem d_TE_openAsCopied_52 : decode b_TE_openAsCopied 52 = .ok (.iinc 6 1, 3) := by decide +kernel
theorem d_TE_openAsCopied_55 : decode b_TE_openAsCopied 55 = .ok (.goto (-52), 3) := by decide +kernel
theorem d_TE_openAsCopied_58 : decode b_TE_openAsCopied 58 = .ok (.iload 6, 2) := by decide +kernel
theorem d_TE_openAsCopied_60 : decode b_TE_openAsCopied 60 = .ok (.ireturn, 1) := by decide +kernel
