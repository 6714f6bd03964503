theorem k_DF_1 : Cond.methodLink R_DF 1 objectInit ∈ AW := aw_mem (List.mem_of_getElem? (i := 48) (by decide +kernel)) (by decide +kernel)
theorem sw_DF_7 : SW R_DF 7 y_DF_nearestSide b_DF_nearestSide 1 (some .int) := ⟨aw_mem (List.mem_of_getElem? (i := 51) (by decide +kernel)) (by decide +kernel), aw_mem (List.mem_of_getElem? (i := 52) (by decide +kernel)) (by decide +kernel), aw_mem (List.mem_of_getElem? (i := 27) (by decide +kernel)) (by decide +kernel), aw_mem (List.mem_of_getElem? (i := 53) (by decide +kernel)) (by decide +kernel)⟩
theorem md_DF_nearestSide : MD y_DF_nearestSide 1 := by decide +kernel
theorem nw_DF_13 : Cond.classLink R_DF 13 R_PI ∈ AW ∧ Cond.instantiable R_PI 3 ∈ AW ∧ Cond.initialized R_PI ∈ AW := ⟨aw_mem (List.mem_of_getElem? (i := 60) (by decide +kernel)) (by decide +kernel), aw_mem (List.mem_of_getElem? (i := 61) (by decide +kernel)) (by decide +kernel), aw_mem (List.mem_of_getElem? (i := 29) (by decide +kernel)) (by decide +kernel)⟩
theorem iw_DF_15 : IW R_DF 15 y_PI_init b_PI_init 3 := ⟨aw_mem (List.mem_of_getElem? (i := 62) (by decide +kernel)) (by decide +kernel), aw_mem (List.mem_of_getElem? (i := 63) (by decide +kernel)) (by decide +kernel), aw_mem (List.mem_of_getElem? (i := 29) (by decide +kernel)) (by decide +kernel), aw_mem (List.mem_of_getElem? (i := 64) (by decide +kernel)) (by decide +kernel), rfl⟩
theorem md_PI_init : MD y_PI_init 2 := by decide +kernel
theorem k_DF_18 : Cond.fieldLink R_DF 18 R_DF "picture" "LDrawingForms$Picture;" ∈ AW := aw_mem (List.mem_of_getElem? (i := 144) (by decide +kernel)) (by decide +kernel)
theorem k_DF_22 : Cond.fieldLink R_DF 22 R_DF "other" "LDrawingForms$Picture;" ∈ AW := aw_mem (List.mem_of_getElem? (i := 145) (by decide +kernel)) (by decide +kernel)
theorem k_DF_25 : Cond.fieldLink R_DF 25 R_DF "draft" "LDrawingForms$Picture;" ∈ AW := aw_mem (List.mem_of_getElem? (i := 146) (by decide +kernel)) (by decide +kernel)
theorem nw_DF_28 : Cond.classLink R_DF 28 R_TE ∈ AW ∧ Cond.instantiable R_TE 4 ∈ AW ∧ Cond.initialized R_TE ∈ AW := ⟨aw_mem (List.mem_of_getElem? (i := 85) (by decide +kernel)) (by decide +kernel), aw_mem (List.mem_of_getElem? (i := 86) (by decide +kernel)) (by decide +kernel), aw_mem (List.mem_of_getElem? (i := 30) (by decide +kernel)) (by decide +kernel)⟩
theorem iw_DF_30 : IW R_DF 30 y_TE_init b_TE_init 2 := ⟨aw_mem (List.mem_of_getElem? (i := 87) (by decide +kernel)) (by decide +kernel), aw_mem (List.mem_of_getElem? (i := 88) (by decide +kernel)) (by decide +kernel), aw_mem (List.mem_of_getElem? (i := 30) (by decide +kernel)) (by decide +kernel), aw_mem (List.mem_of_getElem? (i := 89) (by decide +kernel)) (by decide +kernel), rfl⟩
theorem md_TE_init : MD y_TE_init 1 := by decide +kernel
theorem k_DF_33 : Cond.fieldLink R_DF 33 R_DF "teller" "LDrawingForms$Teller;" ∈ AW := aw_mem (List.mem_of_getElem? (i := 141) (by decide +kernel)) (by decide +kernel)
theorem nw_DF_37 : Cond.classLink R_DF 37 R_BR ∈ AW ∧ Cond.instantiable R_BR 2 ∈ AW ∧ Cond.initialized R_BR ∈ AW := ⟨aw_mem (List.mem_of_getElem? (i := 125) (by decide +kernel)) (by decide +kernel), aw_mem (List.mem_of_getElem? (i := 126) (by decide +kernel)) (by decide +kernel), aw_mem (List.mem_of_getElem? (i := 32) (by decide +kernel)) (by decide +kernel)⟩
theorem iw_DF_39 : IW R_DF 39 y_BR_init b_BR_init 2 := ⟨aw_mem (List.mem_of_getElem? (i := 127) (by decide +kernel)) (by decide +kernel), aw_mem (List.mem_of_getElem? (i := 128) (by decide +kernel)) (by decide +kernel), aw_mem (List.mem_of_getElem? (i := 32) (by decide +kernel)) (by decide +kernel), aw_mem (List.mem_of_getElem? (i := 129) (by decide +kernel)) (by decide +kernel), rfl⟩
theorem md_BR_init : MD y_BR_init 1 := by decide +kernel
theorem k_DF_40 : Cond.fieldLink R_DF 40 R_DF "toldBytes" "LDrawingForms$ByteRow;" ∈ AW := aw_mem (List.mem_of_getElem? (i := 142) (by decide +kernel)) (by decide +kernel)
theorem k_DF_44 : Cond.fieldLink R_DF 44 R_DF "toRead" "LDrawingForms$ByteRow;" ∈ AW := aw_mem (List.mem_of_getElem? (i := 143) (by decide +kernel)) (by decide +kernel)
theorem vw_DF_84 : VW R_DF 84 R_PI y_PI_differences b_PI_differences 4 (some .int) := ⟨aw_mem (List.mem_of_getElem? (i := 164) (by decide +kernel)) (by decide +kernel), aw_mem (List.mem_of_getElem? (i := 165) (by decide +kernel)) (by decide +kernel), aw_mem (List.mem_of_getElem? (i := 166) (by decide +kernel)) (by decide +kernel), aw_mem (List.mem_of_getElem? (i := 29) (by decide +kernel)) (by decide +kernel), aw_mem (List.mem_of_getElem? (i := 167) (by decide +kernel)) (by decide +kernel)⟩
theorem md_PI_differences : MD y_PI_differences 1 := by decide +kernel
theorem vw_DF_88 : VW R_DF 88 R_TE y_TE_tell b_TE_tell 4 (none) := ⟨aw_mem (List.mem_of_getElem? (i := 172) (by decide +kernel)) (by decide +kernel), aw_mem (List.mem_of_getElem? (i := 173) (by decide +kernel)) (by decide +kernel), aw_mem (List.mem_of_getElem? (i := 174) (by decide +kernel)) (by decide +kernel), aw_mem (List.mem_of_getElem? (i := 30) (by decide +kernel)) (by decide +kernel), aw_mem (List.mem_of_getElem? (i := 175) (by decide +kernel)) (by decide +kernel)⟩
theorem md_TE_tell : MD y_TE_tell 2 := by decide +kernel
theorem kn_DF_92 : Cond.fieldLinkNest R_DF 92 R_BR "count" "I" R_DF ∈ lw_tbl := (List.mem_of_getElem? (i := 135) (by decide +kernel))
theorem kn_DF_103 : Cond.fieldLinkNest R_DF 103 R_TE "found" "LDrawingForms$PartList;" R_DF ∈ lw_tbl := (List.mem_of_getElem? (i := 113) (by decide +kernel))
theorem kn_DF_107 : Cond.fieldLinkNest R_DF 107 R_PL "count" "I" R_DF ∈ lw_tbl := (List.mem_of_getElem? (i := 99) (by decide +kernel))
theorem kn_DF_117 : Cond.fieldLinkNest R_DF 117 R_TE "plain" "Z" R_DF ∈ lw_tbl := (List.mem_of_getElem? (i := 115) (by decide +kernel))
theorem vw_DF_164 : VW R_DF 164 R_BR y_BR_drop b_BR_drop 1 (none) := ⟨aw_mem (List.mem_of_getElem? (i := 325) (by decide +kernel)) (by decide +kernel), aw_mem (List.mem_of_getElem? (i := 241) (by decide +kernel)) (by decide +kernel), aw_mem (List.mem_of_getElem? (i := 242) (by decide +kernel)) (by decide +kernel), aw_mem (List.mem_of_getElem? (i := 32) (by decide +kernel)) (by decide +kernel), aw_mem (List.mem_of_getElem? (i := 243) (by decide +kernel)) (by decide +kernel)⟩
theorem sw_DF_133 : SW R_DF 133 y_DR_readDrawing b_DR_readDrawing 4 (some .int) := ⟨aw_mem (List.mem_of_getElem? (i := 272) (by decide +kernel)) (by decide +kernel), aw_mem (List.mem_of_getElem? (i := 273) (by decide +kernel)) (by decide +kernel), aw_mem (List.mem_of_getElem? (i := 41) (by decide +kernel)) (by decide +kernel), aw_mem (List.mem_of_getElem? (i := 274) (by decide +kernel)) (by decide +kernel)⟩
theorem md_DR_readDrawing : MD y_DR_readDrawing 2 := by decide +kernel
theorem vw_DF_139 : VW R_DF 139 R_DF y_DF_takeDraft b_DF_takeDraft 3 (some .int) := ⟨aw_mem (List.mem_of_getElem? (i := 321) (by decide +kernel)) (by decide +kernel), aw_mem (List.mem_of_getElem? (i := 323) (by decide +kernel)) (by decide +kernel), aw_mem (List.mem_of_getElem? (i := 9) (by decide +kernel)) (by decide +kernel), aw_mem (List.mem_of_getElem? (i := 27) (by decide +kernel)) (by decide +kernel), aw_mem (List.mem_of_getElem? (i := 324) (by decide +kernel)) (by decide +kernel)⟩
theorem md_DF_takeDraft : MD y_DF_takeDraft 1 := by decide +kernel
theorem sw_DF_142 : SW R_DF 142 y_CH_write b_CH_write 6 (none) := ⟨aw_mem (List.mem_of_getElem? (i := 330) (by decide +kernel)) (by decide +kernel), aw_mem (List.mem_of_getElem? (i := 331) (by decide +kernel)) (by decide +kernel), aw_mem (List.mem_of_getElem? (i := 42) (by decide +kernel)) (by decide +kernel), aw_mem (List.mem_of_getElem? (i := 332) (by decide +kernel)) (by decide +kernel)⟩
theorem md_CH_write : MD y_CH_write 3 := by decide +kernel
theorem vw_DF_148 : VW R_DF 148 R_PI y_PI_takeFrom b_PI_takeFrom 3 (none) := ⟨aw_mem (List.mem_of_getElem? (i := 346) (by decide +kernel)) (by decide +kernel), aw_mem (List.mem_of_getElem? (i := 347) (by decide +kernel)) (by decide +kernel), aw_mem (List.mem_of_getElem? (i := 348) (by decide +kernel)) (by decide +kernel), aw_mem (List.mem_of_getElem? (i := 29) (by decide +kernel)) (by decide +kernel), aw_mem (List.mem_of_getElem? (i := 349) (by decide +kernel)) (by decide +kernel)⟩
theorem md_PI_takeFrom : MD y_PI_takeFrom 1 := by decide +kernel
theorem sw_DF_152 : SW R_DF 152 y_CH_read b_CH_read 6 (some .int) := ⟨aw_mem (List.mem_of_getElem? (i := 350) (by decide +kernel)) (by decide +kernel), aw_mem (List.mem_of_getElem? (i := 351) (by decide +kernel)) (by decide +kernel), aw_mem (List.mem_of_getElem? (i := 42) (by decide +kernel)) (by decide +kernel), aw_mem (List.mem_of_getElem? (i := 352) (by decide +kernel)) (by decide +kernel)⟩
theorem md_CH_read : MD y_CH_read 2 := by decide +kernel
theorem kn_DF_64 : Cond.fieldLinkNest R_DF 64 R_PI "width" "I" R_DF ∈ lw_tbl := (List.mem_of_getElem? (i := 68) (by decide +kernel))
theorem kn_DF_74 : Cond.fieldLinkNest R_DF 74 R_PI "height" "I" R_DF ∈ lw_tbl := (List.mem_of_getElem? (i := 72) (by decide +kernel))
theorem vw_DF_155 : VW R_DF 155 R_TE y_TE_groundOf b_TE_groundOf 5 (some .int) := ⟨aw_mem (List.mem_of_getElem? (i := 364) (by decide +kernel)) (by decide +kernel), aw_mem (List.mem_of_getElem? (i := 177) (by decide +kernel)) (by decide +kernel), aw_mem (List.mem_of_getElem? (i := 178) (by decide +kernel)) (by decide +kernel), aw_mem (List.mem_of_getElem? (i := 30) (by decide +kernel)) (by decide +kernel), aw_mem (List.mem_of_getElem? (i := 179) (by decide +kernel)) (by decide +kernel)⟩
theorem vw_DF_158 : VW R_DF 158 R_PI y_PI_paintAll b_PI_paintAll 2 (none) := ⟨aw_mem (List.mem_of_getElem? (i := 369) (by decide +kernel)) (by decide +kernel), aw_mem (List.mem_of_getElem? (i := 287) (by decide +kernel)) (by decide +kernel), aw_mem (List.mem_of_getElem? (i := 288) (by decide +kernel)) (by decide +kernel), aw_mem (List.mem_of_getElem? (i := 29) (by decide +kernel)) (by decide +kernel), aw_mem (List.mem_of_getElem? (i := 289) (by decide +kernel)) (by decide +kernel)⟩
theorem vw_DF_161 : VW R_DF 161 R_TE y_TE_forget b_TE_forget 1 (none) := ⟨aw_mem (List.mem_of_getElem? (i := 370) (by decide +kernel)) (by decide +kernel), aw_mem (List.mem_of_getElem? (i := 371) (by decide +kernel)) (by decide +kernel), aw_mem (List.mem_of_getElem? (i := 372) (by decide +kernel)) (by decide +kernel), aw_mem (List.mem_of_getElem? (i := 30) (by decide +kernel)) (by decide +kernel), aw_mem (List.mem_of_getElem? (i := 373) (by decide +kernel)) (by decide +kernel)⟩
theorem md_TE_forget : MD y_TE_forget 0 := by decide +kernel
theorem d_DF_init_0 : decode b_DF_init 0 = .ok (.aload_n 0, 1) := by decide +kernel
theorem d_DF_init_1 : decode b_DF_init 1 = .ok (.invokespecial 1, 3) := by decide +kernel
theorem d_DF_init_4 : decode b_DF_init 4 = .ok (.iload_n 1, 1) := by decide +kernel
theorem d_DF_init_5 : decode b_DF_init 5 = .ok (.invokestatic 7, 3) := by decide +kernel
theorem d_DF_init_8 : decode b_DF_init 8 = .ok (.istore_n 3, 1) := by decide +kernel
theorem d_DF_init_9 : decode b_DF_init 9 = .ok (.iload_n 2, 1) := by decide +kernel
theorem d_DF_init_10 : decode b_DF_init 10 = .ok (.invokestatic 7, 3) := by decide +kernel
theorem d_DF_init_13 : decode b_DF_init 13 = .ok (.istore 4, 2) := by decide +kernel
theorem d_DF_init_15 : decode b_DF_init 15 = .ok (.aload_n 0, 1) := by decide +kernel
theorem d_DF_init_16 : decode b_DF_init 16 = .ok (.new 13, 3) := by decide +kernel
theorem d_DF_init_19 : decode b_DF_init 19 = .ok (.dup, 1) := by decide +kernel
theorem d_DF_init_20 : decode b_DF_init 20 = .ok (.iload_n 3, 1) := by decide +kernel
theorem d_DF_init_21 : decode b_DF_init 21 = .ok (.iload 4, 2) := by decide +kernel
theorem d_DF_init_23 : decode b_DF_init 23 = .ok (.invokespecial 15, 3) := by decide +kernel
theorem d_DF_init_26 : decode b_DF_init 26 = .ok (.putfield 18, 3) := by decide +kernel
theorem d_DF_init_29 : decode b_DF_init 29 = .ok (.aload_n 0, 1) := by decide +kernel
theorem d_DF_init_30 : decode b_DF_init 30 = .ok (.new 13, 3) := by decide +kernel
theorem d_DF_init_33 : decode b_DF_init 33 = .ok (.dup, 1) := by decide +kernel
theorem d_DF_init_34 : decode b_DF_init 34 = .ok (.iload_n 3, 1) := by decide +kernel
theorem d_DF_init_35 : decode b_DF_init 35 = .ok (.iload 4, 2) := by decide +kernel
theorem d_DF_init_37 : decode b_DF_init 37 = .ok (.invokespecial 15, 3) := by decide +kernel
theorem d_DF_init_40 : decode b_DF_init 40 = .ok (.putfield 22, 3) := by decide +kernel
theorem d_DF_init_43 : decode b_DF_init 43 = .ok (.aload_n 0, 1) := by decide +kernel
theorem d_DF_init_44 : decode b_DF_init 44 = .ok (.new 13, 3) := by decide +kernel
theorem d_DF_init_47 : decode b_DF_init 47 = .ok (.dup, 1) := by decide +kernel
theorem d_DF_init_48 : decode b_DF_init 48 = .ok (.iload_n 3, 1) := by decide +kernel
theorem d_DF_init_49 : decode b_DF_init 49 = .ok (.iload 4, 2) := by decide +kernel
theorem d_DF_init_51 : decode b_DF_init 51 = .ok (.invokespecial 15, 3) := by decide +kernel
theorem d_DF_init_54 : decode b_DF_init 54 = .ok (.putfield 25, 3) := by decide +kernel
theorem d_DF_init_57 : decode b_DF_init 57 = .ok (.aload_n 0, 1) := by decide +kernel
theorem d_DF_init_58 : decode b_DF_init 58 = .ok (.new 28, 3) := by decide +kernel
theorem d_DF_init_61 : decode b_DF_init 61 = .ok (.dup, 1) := by decide +kernel
theorem d_DF_init_62 : decode b_DF_init 62 = .ok (.iload_n 3, 1) := by decide +kernel
theorem d_DF_init_63 : decode b_DF_init 63 = .ok (.iload 4, 2) := by decide +kernel
theorem d_DF_init_65 : decode b_DF_init 65 = .ok (.imul, 1) := by decide +kernel
theorem d_DF_init_66 : decode b_DF_init 66 = .ok (.invokespecial 30, 3) := by decide +kernel
theorem d_DF_init_69 : decode b_DF_init 69 = .ok (.putfield 33, 3) := by decide +kernel
theorem d_DF_init_72 : decode b_DF_init 72 = .ok (.aload_n 0, 1) := by decide +kernel
theorem d_DF_init_73 : decode b_DF_init 73 = .ok (.new 37, 3) := by decide +kernel
theorem d_DF_init_76 : decode b_DF_init 76 = .ok (.dup, 1) := by decide +kernel
theorem d_DF_init_77 : decode b_DF_init 77 = .ok (.iload 4, 2) := by decide +kernel
theorem d_DF_init_79 : decode b_DF_init 79 = .ok (.iconst 2, 1) := by decide +kernel
theorem d_DF_init_80 : decode b_DF_init 80 = .ok (.iload_n 3, 1) := by decide +kernel
theorem d_DF_init_81 : decode b_DF_init 81 = .ok (.imul, 1) := by decide +kernel
theorem d_DF_init_82 : decode b_DF_init 82 = .ok (.iconst 2, 1) := by decide +kernel
theorem d_DF_init_83 : decode b_DF_init 83 = .ok (.iadd, 1) := by decide +kernel
theorem d_DF_init_84 : decode b_DF_init 84 = .ok (.imul, 1) := by decide +kernel
theorem d_DF_init_85 : decode b_DF_init 85 = .ok (.iconst 1, 1) := by decide +kernel
theorem d_DF_init_86 : decode b_DF_init 86 = .ok (.iadd, 1) := by decide +kernel
theorem d_DF_init_87 : decode b_DF_init 87 = .ok (.invokespecial 39, 3) := by decide +kernel
theorem d_DF_init_90 : decode b_DF_init 90 = .ok (.putfield 40, 3) := by decide +kernel
theorem d_DF_init_93 : decode b_DF_init 93 = .ok (.aload_n 0, 1) := by decide +kernel
theorem d_DF_init_94 : decode b_DF_init 94 = .ok (.new 37, 3) := by decide +kernel
theorem d_DF_init_97 : decode b_DF_init 97 = .ok (.dup, 1) := by decide +kernel
theorem d_DF_init_98 : decode b_DF_init 98 = .ok (.sipush 4000, 3) := by decide +kernel
theorem d_DF_init_101 : decode b_DF_init 101 = .ok (.invokespecial 39, 3) := by decide +kernel
theorem d_DF_init_104 : decode b_DF_init 104 = .ok (.putfield 44, 3) := by decide +kernel
theorem d_DF_init_107 : decode b_DF_init 107 = .ok (.return_, 1) := by decide +kernel
theorem d_DF_swap_0 : decode b_DF_swap 0 = .ok (.aload_n 0, 1) := by decide +kernel
theorem d_DF_swap_1 : decode b_DF_swap 1 = .ok (.getfield 18, 3) := by decide +kernel
theorem d_DF_swap_4 : decode b_DF_swap 4 = .ok (.astore_n 1, 1) := by decide +kernel
theorem d_DF_swap_5 : decode b_DF_swap 5 = .ok (.aload_n 0, 1) := by decide +kernel
theorem d_DF_swap_6 : decode b_DF_swap 6 = .ok (.aload_n 0, 1) := by decide +kernel
theorem d_DF_swap_7 : decode b_DF_swap 7 = .ok (.getfield 22, 3) := by decide +kernel
theorem d_DF_swap_10 : decode b_DF_swap 10 = .ok (.putfield 18, 3) := by decide +kernel
theorem d_DF_swap_13 : decode b_DF_swap 13 = .ok (.aload_n 0, 1) := by decide +kernel
theorem d_DF_swap_14 : decode b_DF_swap 14 = .ok (.aload_n 1, 1) := by decide +kernel
theorem d_DF_swap_15 : decode b_DF_swap 15 = .ok (.putfield 22, 3) := by decide +kernel
theorem d_DF_swap_18 : decode b_DF_swap 18 = .ok (.aload_n 0, 1) := by decide +kernel
theorem d_DF_swap_19 : decode b_DF_swap 19 = .ok (.getfield 18, 3) := by decide +kernel
theorem d_DF_swap_22 : decode b_DF_swap 22 = .ok (.aload_n 0, 1) := by decide +kernel
theorem d_DF_swap_23 : decode b_DF_swap 23 = .ok (.getfield 22, 3) := by decide +kernel
theorem d_DF_swap_26 : decode b_DF_swap 26 = .ok (.invokevirtual 84, 3) := by decide +kernel
theorem d_DF_swap_29 : decode b_DF_swap 29 = .ok (.ireturn, 1) := by decide +kernel
theorem d_DF_encode_0 : decode b_DF_encode 0 = .ok (.aload_n 0, 1) := by decide +kernel
theorem d_DF_encode_1 : decode b_DF_encode 1 = .ok (.getfield 33, 3) := by decide +kernel
theorem d_DF_encode_4 : decode b_DF_encode 4 = .ok (.aload_n 0, 1) := by decide +kernel
theorem d_DF_encode_5 : decode b_DF_encode 5 = .ok (.getfield 18, 3) := by decide +kernel
theorem d_DF_encode_8 : decode b_DF_encode 8 = .ok (.aload_n 0, 1) := by decide +kernel
theorem d_DF_encode_9 : decode b_DF_encode 9 = .ok (.getfield 40, 3) := by decide +kernel
theorem d_DF_encode_12 : decode b_DF_encode 12 = .ok (.invokevirtual 88, 3) := by decide +kernel
theorem d_DF_encode_15 : decode b_DF_encode 15 = .ok (.aload_n 0, 1) := by decide +kernel
theorem d_DF_encode_16 : decode b_DF_encode 16 = .ok (.getfield 40, 3) := by decide +kernel
theorem d_DF_encode_19 : decode b_DF_encode 19 = .ok (.getfield 92, 3) := by decide +kernel
theorem d_DF_encode_22 : decode b_DF_encode 22 = .ok (.ireturn, 1) := by decide +kernel
theorem d_DF_parts_0 : decode b_DF_parts 0 = .ok (.aload_n 0, 1) := by decide +kernel
theorem d_DF_parts_1 : decode b_DF_parts 1 = .ok (.getfield 33, 3) := by decide +kernel
theorem d_DF_parts_4 : decode b_DF_parts 4 = .ok (.getfield 103, 3) := by decide +kernel
theorem d_DF_parts_7 : decode b_DF_parts 7 = .ok (.getfield 107, 3) := by decide +kernel
theorem d_DF_parts_10 : decode b_DF_parts 10 = .ok (.ireturn, 1) := by decide +kernel
theorem d_DF_isPlain_0 : decode b_DF_isPlain 0 = .ok (.aload_n 0, 1) := by decide +kernel
theorem d_DF_isPlain_1 : decode b_DF_isPlain 1 = .ok (.getfield 33, 3) := by decide +kernel
theorem d_DF_isPlain_4 : decode b_DF_isPlain 4 = .ok (.getfield 117, 3) := by decide +kernel
theorem d_DF_isPlain_7 : decode b_DF_isPlain 7 = .ok (.ireturn, 1) := by decide +kernel
theorem d_DF_decode_0 : decode b_DF_decode 0 = .ok (.aload_n 0, 1) := by decide +kernel
theorem d_DF_decode_1 : decode b_DF_decode 1 = .ok (.aload_n 0, 1) := by decide +kernel
theorem d_DF_decode_2 : decode b_DF_decode 2 = .ok (.getfield 44, 3) := by decide +kernel
theorem d_DF_decode_5 : decode b_DF_decode 5 = .ok (.aload_n 0, 1) := by decide +kernel
theorem d_DF_decode_6 : decode b_DF_decode 6 = .ok (.getfield 25, 3) := by decide +kernel
theorem d_DF_decode_9 : decode b_DF_decode 9 = .ok (.invokestatic 133, 3) := by decide +kernel
theorem d_DF_decode_12 : decode b_DF_decode 12 = .ok (.invokevirtual 139, 3) := by decide +kernel
theorem d_DF_decode_15 : decode b_DF_decode 15 = .ok (.ireturn, 1) := by decide +kernel
theorem d_DF_change_0 : decode b_DF_change 0 = .ok (.aload_n 0, 1) := by decide +kernel
theorem d_DF_change_1 : decode b_DF_change 1 = .ok (.getfield 18, 3) := by decide +kernel
theorem d_DF_change_4 : decode b_DF_change 4 = .ok (.aload_n 0, 1) := by decide +kernel
theorem d_DF_change_5 : decode b_DF_change 5 = .ok (.getfield 22, 3) := by decide +kernel
theorem d_DF_change_8 : decode b_DF_change 8 = .ok (.aload_n 0, 1) := by decide +kernel
theorem d_DF_change_9 : decode b_DF_change 9 = .ok (.getfield 40, 3) := by decide +kernel
theorem d_DF_change_12 : decode b_DF_change 12 = .ok (.invokestatic 142, 3) := by decide +kernel
theorem d_DF_change_15 : decode b_DF_change 15 = .ok (.aload_n 0, 1) := by decide +kernel
theorem d_DF_change_16 : decode b_DF_change 16 = .ok (.getfield 40, 3) := by decide +kernel
theorem d_DF_change_19 : decode b_DF_change 19 = .ok (.getfield 92, 3) := by decide +kernel
theorem d_DF_change_22 : decode b_DF_change 22 = .ok (.ireturn, 1) := by decide +kernel
theorem d_DF_apply_0 : decode b_DF_apply 0 = .ok (.aload_n 0, 1) := by decide +kernel
theorem d_DF_apply_1 : decode b_DF_apply 1 = .ok (.getfield 25, 3) := by decide +kernel
theorem d_DF_apply_4 : decode b_DF_apply 4 = .ok (.aload_n 0, 1) := by decide +kernel
theorem d_DF_apply_5 : decode b_DF_apply 5 = .ok (.getfield 18, 3) := by decide +kernel
theorem d_DF_apply_8 : decode b_DF_apply 8 = .ok (.invokevirtual 148, 3) := by decide +kernel
theorem d_DF_apply_11 : decode b_DF_apply 11 = .ok (.aload_n 0, 1) := by decide +kernel
theorem d_DF_apply_12 : decode b_DF_apply 12 = .ok (.aload_n 0, 1) := by decide +kernel
theorem d_DF_apply_13 : decode b_DF_apply 13 = .ok (.getfield 44, 3) := by decide +kernel
theorem d_DF_apply_16 : decode b_DF_apply 16 = .ok (.aload_n 0, 1) := by decide +kernel
theorem d_DF_apply_17 : decode b_DF_apply 17 = .ok (.getfield 25, 3) := by decide +kernel
theorem d_DF_apply_20 : decode b_DF_apply 20 = .ok (.invokestatic 152, 3) := by decide +kernel
theorem d_DF_apply_23 : decode b_DF_apply 23 = .ok (.invokevirtual 139, 3) := by decide +kernel
theorem d_DF_apply_26 : decode b_DF_apply 26 = .ok (.ireturn, 1) := by decide +kernel
theorem d_DF_told_0 : decode b_DF_told 0 = .ok (.iload_n 1, 1) := by decide +kernel
theorem d_DF_told_1 : decode b_DF_told 1 = .ok (.tableswitch 79 0 4 #[35, 43, 51, 59, 67], 35) := by decide +kernel
theorem d_DF_told_36 : decode b_DF_told 36 = .ok (.aload_n 0, 1) := by decide +kernel
theorem d_DF_told_37 : decode b_DF_told 37 = .ok (.getfield 18, 3) := by decide +kernel
theorem d_DF_told_40 : decode b_DF_told 40 = .ok (.getfield 64, 3) := by decide +kernel
theorem d_DF_told_43 : decode b_DF_told 43 = .ok (.ireturn, 1) := by decide +kernel
theorem d_DF_told_44 : decode b_DF_told 44 = .ok (.aload_n 0, 1) := by decide +kernel
theorem d_DF_told_45 : decode b_DF_told 45 = .ok (.getfield 18, 3) := by decide +kernel
theorem d_DF_told_48 : decode b_DF_told 48 = .ok (.getfield 74, 3) := by decide +kernel
theorem d_DF_told_51 : decode b_DF_told 51 = .ok (.ireturn, 1) := by decide +kernel
theorem d_DF_told_52 : decode b_DF_told 52 = .ok (.aload_n 0, 1) := by decide +kernel
theorem d_DF_told_53 : decode b_DF_told 53 = .ok (.getfield 40, 3) := by decide +kernel
theorem d_DF_told_56 : decode b_DF_told 56 = .ok (.getfield 92, 3) := by decide +kernel
theorem d_DF_told_59 : decode b_DF_told 59 = .ok (.ireturn, 1) := by decide +kernel
theorem d_DF_told_60 : decode b_DF_told 60 = .ok (.aload_n 0, 1) := by decide +kernel
theorem d_DF_told_61 : decode b_DF_told 61 = .ok (.getfield 44, 3) := by decide +kernel
theorem d_DF_told_64 : decode b_DF_told 64 = .ok (.getfield 92, 3) := by decide +kernel
theorem d_DF_told_67 : decode b_DF_told 67 = .ok (.ireturn, 1) := by decide +kernel
theorem d_DF_told_68 : decode b_DF_told 68 = .ok (.aload_n 0, 1) := by decide +kernel
theorem d_DF_told_69 : decode b_DF_told 69 = .ok (.getfield 33, 3) := by decide +kernel
theorem d_DF_told_72 : decode b_DF_told 72 = .ok (.aload_n 0, 1) := by decide +kernel
theorem d_DF_told_73 : decode b_DF_told 73 = .ok (.getfield 18, 3) := by decide +kernel
theorem d_DF_told_76 : decode b_DF_told 76 = .ok (.invokevirtual 155, 3) := by decide +kernel
theorem d_DF_told_79 : decode b_DF_told 79 = .ok (.ireturn, 1) := by decide +kernel
theorem d_DF_told_80 : decode b_DF_told 80 = .ok (.iconst (-1), 1) := by decide +kernel
theorem d_DF_told_81 : decode b_DF_told 81 = .ok (.ireturn, 1) := by decide +kernel
theorem d_DF_clear_0 : decode b_DF_clear 0 = .ok (.aload_n 0, 1) := by decide +kernel
theorem d_DF_clear_1 : decode b_DF_clear 1 = .ok (.getfield 18, 3) := by decide +kernel
theorem d_DF_clear_4 : decode b_DF_clear 4 = .ok (.iconst 0, 1) := by decide +kernel
theorem d_DF_clear_5 : decode b_DF_clear 5 = .ok (.invokevirtual 158, 3) := by decide +kernel
theorem d_DF_clear_8 : decode b_DF_clear 8 = .ok (.aload_n 0, 1) := by decide +kernel
theorem d_DF_clear_9 : decode b_DF_clear 9 = .ok (.getfield 22, 3) := by decide +kernel
theorem d_DF_clear_12 : decode b_DF_clear 12 = .ok (.iconst 0, 1) := by decide +kernel
theorem d_DF_clear_13 : decode b_DF_clear 13 = .ok (.invokevirtual 158, 3) := by decide +kernel
theorem d_DF_clear_16 : decode b_DF_clear 16 = .ok (.aload_n 0, 1) := by decide +kernel
theorem d_DF_clear_17 : decode b_DF_clear 17 = .ok (.getfield 33, 3) := by decide +kernel
theorem d_DF_clear_20 : decode b_DF_clear 20 = .ok (.invokevirtual 161, 3) := by decide +kernel
theorem d_DF_clear_23 : decode b_DF_clear 23 = .ok (.aload_n 0, 1) := by decide +kernel
theorem d_DF_clear_24 : decode b_DF_clear 24 = .ok (.getfield 40, 3) := by decide +kernel
theorem d_DF_clear_27 : decode b_DF_clear 27 = .ok (.invokevirtual 164, 3) := by decide +kernel
theorem d_DF_clear_30 : decode b_DF_clear 30 = .ok (.aload_n 0, 1) := by decide +kernel
theorem d_DF_clear_31 : decode b_DF_clear 31 = .ok (.getfield 44, 3) := by decide +kernel
theorem d_DF_clear_34 : decode b_DF_clear 34 = .ok (.invokevirtual 164, 3) := by decide +kernel
theorem d_DF_clear_37 : decode b_DF_clear 37 = .ok (.return_, 1) := by decide +kernel
theorem d_DF_takeDraft_0 : decode b_DF_takeDraft 0 = .ok (.aload_n 0, 1) := by decide +kernel
theorem d_DF_takeDraft_1 : decode b_DF_takeDraft 1 = .ok (.getfield 44, 3) := by decide +kernel
theorem d_DF_takeDraft_4 : decode b_DF_takeDraft 4 = .ok (.invokevirtual 164, 3) := by decide +kernel
theorem d_DF_takeDraft_7 : decode b_DF_takeDraft 7 = .ok (.iload_n 1, 1) := by decide +kernel
theorem d_DF_takeDraft_8 : decode b_DF_takeDraft 8 = .ok (.ifCond .lt 21, 3) := by decide +kernel
theorem d_DF_takeDraft_11 : decode b_DF_takeDraft 11 = .ok (.aload_n 0, 1) := by decide +kernel
theorem d_DF_takeDraft_12 : decode b_DF_takeDraft 12 = .ok (.getfield 18, 3) := by decide +kernel
theorem d_DF_takeDraft_15 : decode b_DF_takeDraft 15 = .ok (.astore_n 2, 1) := by decide +kernel
theorem d_DF_takeDraft_16 : decode b_DF_takeDraft 16 = .ok (.aload_n 0, 1) := by decide +kernel
theorem d_DF_takeDraft_17 : decode b_DF_takeDraft 17 = .ok (.aload_n 0, 1) := by decide +kernel
theorem d_DF_takeDraft_18 : decode b_DF_takeDraft 18 = .ok (.getfield 25, 3) := by decide +kernel
theorem d_DF_takeDraft_21 : decode b_DF_takeDraft 21 = .ok (.putfield 18, 3) := by decide +kernel
theorem d_DF_takeDraft_24 : decode b_DF_takeDraft 24 = .ok (.aload_n 0, 1) := by decide +kernel
theorem d_DF_takeDraft_25 : decode b_DF_takeDraft 25 = .ok (.aload_n 2, 1) := by decide +kernel
theorem d_DF_takeDraft_26 : decode b_DF_takeDraft 26 = .ok (.putfield 25, 3) := by decide +kernel
theorem d_DF_takeDraft_29 : decode b_DF_takeDraft 29 = .ok (.iload_n 1, 1) := by decide +kernel
theorem d_DF_takeDraft_30 : decode b_DF_takeDraft 30 = .ok (.ireturn, 1) := by decide +kernel
