theorem vw_DR_61 : VW R_DR 61 R_PI y_PI_holds b_PI_holds 5 (some .boolean) := ⟨aw_mem (List.mem_of_getElem? (i := 301) (by decide +kernel)) (by decide +kernel), aw_mem (List.mem_of_getElem? (i := 302) (by decide +kernel)) (by decide +kernel), aw_mem (List.mem_of_getElem? (i := 303) (by decide +kernel)) (by decide +kernel), aw_mem (List.mem_of_getElem? (i := 29) (by decide +kernel)) (by decide +kernel), aw_mem (List.mem_of_getElem? (i := 304) (by decide +kernel)) (by decide +kernel)⟩
theorem md_PI_holds : MD y_PI_holds 4 := by decide +kernel
theorem vw_DR_65 : VW R_DR 65 R_PI y_PI_paintRectangle b_PI_paintRectangle 9 (some .int) := ⟨aw_mem (List.mem_of_getElem? (i := 305) (by decide +kernel)) (by decide +kernel), aw_mem (List.mem_of_getElem? (i := 306) (by decide +kernel)) (by decide +kernel), aw_mem (List.mem_of_getElem? (i := 307) (by decide +kernel)) (by decide +kernel), aw_mem (List.mem_of_getElem? (i := 29) (by decide +kernel)) (by decide +kernel), aw_mem (List.mem_of_getElem? (i := 308) (by decide +kernel)) (by decide +kernel)⟩
theorem md_PI_paintRectangle : MD y_PI_paintRectangle 5 := by decide +kernel
theorem vw_DR_69 : VW R_DR 69 R_PI y_PI_paintCopy b_PI_paintCopy 7 (none) := ⟨aw_mem (List.mem_of_getElem? (i := 316) (by decide +kernel)) (by decide +kernel), aw_mem (List.mem_of_getElem? (i := 317) (by decide +kernel)) (by decide +kernel), aw_mem (List.mem_of_getElem? (i := 318) (by decide +kernel)) (by decide +kernel), aw_mem (List.mem_of_getElem? (i := 29) (by decide +kernel)) (by decide +kernel), aw_mem (List.mem_of_getElem? (i := 319) (by decide +kernel)) (by decide +kernel)⟩
theorem md_PI_paintCopy : MD y_PI_paintCopy 5 := by decide +kernel
theorem vw_DR_9 : VW R_DR 9 R_BR y_BR_get b_BR_get 2 (some .int) := ⟨aw_mem (List.mem_of_getElem? (i := 275) (by decide +kernel)) (by decide +kernel), aw_mem (List.mem_of_getElem? (i := 276) (by decide +kernel)) (by decide +kernel), aw_mem (List.mem_of_getElem? (i := 277) (by decide +kernel)) (by decide +kernel), aw_mem (List.mem_of_getElem? (i := 32) (by decide +kernel)) (by decide +kernel), aw_mem (List.mem_of_getElem? (i := 278) (by decide +kernel)) (by decide +kernel)⟩
theorem sw_DR_54 : SW R_DR 54 y_DR_drawRectangle b_DR_drawRectangle 6 (some .boolean) := ⟨aw_mem (List.mem_of_getElem? (i := 298) (by decide +kernel)) (by decide +kernel), aw_mem (List.mem_of_getElem? (i := 299) (by decide +kernel)) (by decide +kernel), aw_mem (List.mem_of_getElem? (i := 41) (by decide +kernel)) (by decide +kernel), aw_mem (List.mem_of_getElem? (i := 300) (by decide +kernel)) (by decide +kernel)⟩
theorem md_DR_drawRectangle : MD y_DR_drawRectangle 6 := by decide +kernel
theorem sw_DR_58 : SW R_DR 58 y_DR_drawCopy b_DR_drawCopy 6 (some .boolean) := ⟨aw_mem (List.mem_of_getElem? (i := 313) (by decide +kernel)) (by decide +kernel), aw_mem (List.mem_of_getElem? (i := 314) (by decide +kernel)) (by decide +kernel), aw_mem (List.mem_of_getElem? (i := 41) (by decide +kernel)) (by decide +kernel), aw_mem (List.mem_of_getElem? (i := 315) (by decide +kernel)) (by decide +kernel)⟩
theorem md_DR_drawCopy : MD y_DR_drawCopy 6 := by decide +kernel
theorem sn_DR_47 : SNW R_DR 47 R_DF y_DF_bytesOf b_DF_bytesOf 1 (some .int) := ⟨(List.mem_of_getElem? (i := 294) (by decide +kernel)), aw_mem (List.mem_of_getElem? (i := 222) (by decide +kernel)) (by decide +kernel), aw_mem (List.mem_of_getElem? (i := 27) (by decide +kernel)) (by decide +kernel), aw_mem (List.mem_of_getElem? (i := 223) (by decide +kernel)) (by decide +kernel)⟩
theorem kn_DR_37 : Cond.fieldLinkNest R_DR 37 R_BR "count" "I" R_DF ∈ lw_tbl := (List.mem_of_getElem? (i := 133) (by decide +kernel))
theorem sw_DR_50 : SW R_DR 50 y_DR_drawPart b_DR_drawPart 8 (some .boolean) := ⟨aw_mem (List.mem_of_getElem? (i := 295) (by decide +kernel)) (by decide +kernel), aw_mem (List.mem_of_getElem? (i := 296) (by decide +kernel)) (by decide +kernel), aw_mem (List.mem_of_getElem? (i := 41) (by decide +kernel)) (by decide +kernel), aw_mem (List.mem_of_getElem? (i := 297) (by decide +kernel)) (by decide +kernel)⟩
theorem md_DR_drawPart : MD y_DR_drawPart 3 := by decide +kernel
theorem sn_DR_21 : SNW R_DR 21 R_DF y_DF_refusedAt b_DF_refusedAt 1 (some .int) := ⟨(List.mem_of_getElem? (i := 283) (by decide +kernel)), aw_mem (List.mem_of_getElem? (i := 284) (by decide +kernel)) (by decide +kernel), aw_mem (List.mem_of_getElem? (i := 27) (by decide +kernel)) (by decide +kernel), aw_mem (List.mem_of_getElem? (i := 285) (by decide +kernel)) (by decide +kernel)⟩
theorem md_DF_refusedAt : MD y_DF_refusedAt 1 := by decide +kernel
theorem kn_DR_33 : Cond.fieldLinkNest R_DR 33 R_PI "values" "[I" R_DF ∈ lw_tbl := (List.mem_of_getElem? (i := 75) (by decide +kernel))
theorem k_DR_41 : Cond.methodLink R_DR 41 Lib.Math.min.name ∈ AW := aw_mem (List.mem_of_getElem? (i := 282) (by decide +kernel)) (by decide +kernel)
theorem vw_DR_24 : VW R_DR 24 R_PI y_PI_paintAll b_PI_paintAll 2 (none) := ⟨aw_mem (List.mem_of_getElem? (i := 286) (by decide +kernel)) (by decide +kernel), aw_mem (List.mem_of_getElem? (i := 287) (by decide +kernel)) (by decide +kernel), aw_mem (List.mem_of_getElem? (i := 288) (by decide +kernel)) (by decide +kernel), aw_mem (List.mem_of_getElem? (i := 29) (by decide +kernel)) (by decide +kernel), aw_mem (List.mem_of_getElem? (i := 289) (by decide +kernel)) (by decide +kernel)⟩
theorem md_PI_paintAll : MD y_PI_paintAll 1 := by decide +kernel
theorem sw_DR_30 : SW R_DR 30 y_DR_readParts b_DR_readParts 6 (some .int) := ⟨aw_mem (List.mem_of_getElem? (i := 291) (by decide +kernel)) (by decide +kernel), aw_mem (List.mem_of_getElem? (i := 292) (by decide +kernel)) (by decide +kernel), aw_mem (List.mem_of_getElem? (i := 41) (by decide +kernel)) (by decide +kernel), aw_mem (List.mem_of_getElem? (i := 293) (by decide +kernel)) (by decide +kernel)⟩
theorem md_DR_readParts : MD y_DR_readParts 2 := by decide +kernel
theorem sw_DR_15 : SW R_DR 15 y_DR_readPlain b_DR_readPlain 4 (some .int) := ⟨aw_mem (List.mem_of_getElem? (i := 279) (by decide +kernel)) (by decide +kernel), aw_mem (List.mem_of_getElem? (i := 280) (by decide +kernel)) (by decide +kernel), aw_mem (List.mem_of_getElem? (i := 41) (by decide +kernel)) (by decide +kernel), aw_mem (List.mem_of_getElem? (i := 281) (by decide +kernel)) (by decide +kernel)⟩
theorem md_DR_readPlain : MD y_DR_readPlain 2 := by decide +kernel
theorem kn_CH_20 : Cond.fieldLinkNest R_CH 20 R_PI "width" "I" R_DF ∈ lw_tbl := (List.mem_of_getElem? (i := 67) (by decide +kernel))
theorem vw_CH_37 : VW R_CH 37 R_PI y_PI_value b_PI_value 3 (some .int) := ⟨aw_mem (List.mem_of_getElem? (i := 337) (by decide +kernel)) (by decide +kernel), aw_mem (List.mem_of_getElem? (i := 208) (by decide +kernel)) (by decide +kernel), aw_mem (List.mem_of_getElem? (i := 209) (by decide +kernel)) (by decide +kernel), aw_mem (List.mem_of_getElem? (i := 29) (by decide +kernel)) (by decide +kernel), aw_mem (List.mem_of_getElem? (i := 210) (by decide +kernel)) (by decide +kernel)⟩
theorem vw_CH_33 : VW R_CH 33 R_BR y_BR_add b_BR_add 2 (none) := ⟨aw_mem (List.mem_of_getElem? (i := 341) (by decide +kernel)) (by decide +kernel), aw_mem (List.mem_of_getElem? (i := 248) (by decide +kernel)) (by decide +kernel), aw_mem (List.mem_of_getElem? (i := 249) (by decide +kernel)) (by decide +kernel), aw_mem (List.mem_of_getElem? (i := 32) (by decide +kernel)) (by decide +kernel), aw_mem (List.mem_of_getElem? (i := 250) (by decide +kernel)) (by decide +kernel)⟩
theorem vw_CH_9 : VW R_CH 9 R_BR y_BR_drop b_BR_drop 1 (none) := ⟨aw_mem (List.mem_of_getElem? (i := 333) (by decide +kernel)) (by decide +kernel), aw_mem (List.mem_of_getElem? (i := 241) (by decide +kernel)) (by decide +kernel), aw_mem (List.mem_of_getElem? (i := 242) (by decide +kernel)) (by decide +kernel), aw_mem (List.mem_of_getElem? (i := 32) (by decide +kernel)) (by decide +kernel), aw_mem (List.mem_of_getElem? (i := 243) (by decide +kernel)) (by decide +kernel)⟩
theorem kn_CH_14 : Cond.fieldLinkNest R_CH 14 R_PI "height" "I" R_DF ∈ lw_tbl := (List.mem_of_getElem? (i := 71) (by decide +kernel))
theorem sw_CH_23 : SW R_CH 23 y_CH_differing b_CH_differing 5 (some .int) := ⟨aw_mem (List.mem_of_getElem? (i := 334) (by decide +kernel)) (by decide +kernel), aw_mem (List.mem_of_getElem? (i := 335) (by decide +kernel)) (by decide +kernel), aw_mem (List.mem_of_getElem? (i := 42) (by decide +kernel)) (by decide +kernel), aw_mem (List.mem_of_getElem? (i := 336) (by decide +kernel)) (by decide +kernel)⟩
theorem md_CH_differing : MD y_CH_differing 4 := by decide +kernel
theorem sw_CH_29 : SW R_CH 29 y_CH_writeRun b_CH_writeRun 6 (none) := ⟨aw_mem (List.mem_of_getElem? (i := 338) (by decide +kernel)) (by decide +kernel), aw_mem (List.mem_of_getElem? (i := 339) (by decide +kernel)) (by decide +kernel), aw_mem (List.mem_of_getElem? (i := 42) (by decide +kernel)) (by decide +kernel), aw_mem (List.mem_of_getElem? (i := 340) (by decide +kernel)) (by decide +kernel)⟩
theorem md_CH_writeRun : MD y_CH_writeRun 5 := by decide +kernel
theorem vw_CH_41 : VW R_CH 41 R_BR y_BR_get b_BR_get 2 (some .int) := ⟨aw_mem (List.mem_of_getElem? (i := 353) (by decide +kernel)) (by decide +kernel), aw_mem (List.mem_of_getElem? (i := 276) (by decide +kernel)) (by decide +kernel), aw_mem (List.mem_of_getElem? (i := 277) (by decide +kernel)) (by decide +kernel), aw_mem (List.mem_of_getElem? (i := 32) (by decide +kernel)) (by decide +kernel), aw_mem (List.mem_of_getElem? (i := 278) (by decide +kernel)) (by decide +kernel)⟩
theorem vw_CH_55 : VW R_CH 55 R_PI y_PI_holds b_PI_holds 5 (some .boolean) := ⟨aw_mem (List.mem_of_getElem? (i := 358) (by decide +kernel)) (by decide +kernel), aw_mem (List.mem_of_getElem? (i := 302) (by decide +kernel)) (by decide +kernel), aw_mem (List.mem_of_getElem? (i := 303) (by decide +kernel)) (by decide +kernel), aw_mem (List.mem_of_getElem? (i := 29) (by decide +kernel)) (by decide +kernel), aw_mem (List.mem_of_getElem? (i := 304) (by decide +kernel)) (by decide +kernel)⟩
theorem kn_CH_45 : Cond.fieldLinkNest R_CH 45 R_BR "count" "I" R_DF ∈ lw_tbl := (List.mem_of_getElem? (i := 134) (by decide +kernel))
theorem vw_CH_59 : VW R_CH 59 R_PI y_PI_paint b_PI_paint 6 (some .boolean) := ⟨aw_mem (List.mem_of_getElem? (i := 359) (by decide +kernel)) (by decide +kernel), aw_mem (List.mem_of_getElem? (i := 310) (by decide +kernel)) (by decide +kernel), aw_mem (List.mem_of_getElem? (i := 311) (by decide +kernel)) (by decide +kernel), aw_mem (List.mem_of_getElem? (i := 29) (by decide +kernel)) (by decide +kernel), aw_mem (List.mem_of_getElem? (i := 312) (by decide +kernel)) (by decide +kernel)⟩
theorem sw_CH_51 : SW R_CH 51 y_CH_readRun b_CH_readRun 7 (some .int) := ⟨aw_mem (List.mem_of_getElem? (i := 355) (by decide +kernel)) (by decide +kernel), aw_mem (List.mem_of_getElem? (i := 356) (by decide +kernel)) (by decide +kernel), aw_mem (List.mem_of_getElem? (i := 42) (by decide +kernel)) (by decide +kernel), aw_mem (List.mem_of_getElem? (i := 357) (by decide +kernel)) (by decide +kernel)⟩
theorem md_CH_readRun : MD y_CH_readRun 3 := by decide +kernel
theorem sn_CH_48 : SNW R_CH 48 R_DF y_DF_refusedAt b_DF_refusedAt 1 (some .int) := ⟨(List.mem_of_getElem? (i := 354) (by decide +kernel)), aw_mem (List.mem_of_getElem? (i := 284) (by decide +kernel)) (by decide +kernel), aw_mem (List.mem_of_getElem? (i := 27) (by decide +kernel)) (by decide +kernel), aw_mem (List.mem_of_getElem? (i := 285) (by decide +kernel)) (by decide +kernel)⟩
theorem d_CH_write_0 : decode b_CH_write 0 = .ok (.aload_n 2, 1) := by decide +kernel
theorem d_CH_write_1 : decode b_CH_write 1 = .ok (.invokevirtual 9, 3) := by decide +kernel
theorem d_CH_write_4 : decode b_CH_write 4 = .ok (.iconst 0, 1) := by decide +kernel
theorem d_CH_write_5 : decode b_CH_write 5 = .ok (.istore_n 3, 1) := by decide +kernel
theorem d_CH_write_6 : decode b_CH_write 6 = .ok (.iload_n 3, 1) := by decide +kernel
theorem d_CH_write_7 : decode b_CH_write 7 = .ok (.aload_n 0, 1) := by decide +kernel
theorem d_CH_write_8 : decode b_CH_write 8 = .ok (.getfield 14, 3) := by decide +kernel
theorem d_CH_write_11 : decode b_CH_write 11 = .ok (.if_icmp .ge 59, 3) := by decide +kernel
theorem d_CH_write_14 : decode b_CH_write 14 = .ok (.iconst 0, 1) := by decide +kernel
theorem d_CH_write_15 : decode b_CH_write 15 = .ok (.istore 4, 2) := by decide +kernel
theorem d_CH_write_17 : decode b_CH_write 17 = .ok (.iload 4, 2) := by decide +kernel
theorem d_CH_write_19 : decode b_CH_write 19 = .ok (.aload_n 0, 1) := by decide +kernel
theorem d_CH_write_20 : decode b_CH_write 20 = .ok (.getfield 20, 3) := by decide +kernel
theorem d_CH_write_23 : decode b_CH_write 23 = .ok (.if_icmp .ge 41, 3) := by decide +kernel
theorem d_CH_write_26 : decode b_CH_write 26 = .ok (.aload_n 0, 1) := by decide +kernel
theorem d_CH_write_27 : decode b_CH_write 27 = .ok (.aload_n 1, 1) := by decide +kernel
theorem d_CH_write_28 : decode b_CH_write 28 = .ok (.iload 4, 2) := by decide +kernel
theorem d_CH_write_30 : decode b_CH_write 30 = .ok (.iload_n 3, 1) := by decide +kernel
theorem d_CH_write_31 : decode b_CH_write 31 = .ok (.invokestatic 23, 3) := by decide +kernel
theorem d_CH_write_34 : decode b_CH_write 34 = .ok (.istore 5, 2) := by decide +kernel
theorem d_CH_write_36 : decode b_CH_write 36 = .ok (.iload 5, 2) := by decide +kernel
theorem d_CH_write_38 : decode b_CH_write 38 = .ok (.ifCond .le 20, 3) := by decide +kernel
theorem d_CH_write_41 : decode b_CH_write 41 = .ok (.aload_n 1, 1) := by decide +kernel
theorem d_CH_write_42 : decode b_CH_write 42 = .ok (.iload 4, 2) := by decide +kernel
theorem d_CH_write_44 : decode b_CH_write 44 = .ok (.iload_n 3, 1) := by decide +kernel
theorem d_CH_write_45 : decode b_CH_write 45 = .ok (.iload 5, 2) := by decide +kernel
theorem d_CH_write_47 : decode b_CH_write 47 = .ok (.aload_n 2, 1) := by decide +kernel
theorem d_CH_write_48 : decode b_CH_write 48 = .ok (.invokestatic 29, 3) := by decide +kernel
theorem d_CH_write_51 : decode b_CH_write 51 = .ok (.iload 4, 2) := by decide +kernel
theorem d_CH_write_53 : decode b_CH_write 53 = .ok (.iload 5, 2) := by decide +kernel
theorem d_CH_write_55 : decode b_CH_write 55 = .ok (.iadd, 1) := by decide +kernel
theorem d_CH_write_56 : decode b_CH_write 56 = .ok (.istore 4, 2) := by decide +kernel
theorem d_CH_write_58 : decode b_CH_write 58 = .ok (.iinc 4 1, 3) := by decide +kernel
theorem d_CH_write_61 : decode b_CH_write 61 = .ok (.goto (-44), 3) := by decide +kernel
theorem d_CH_write_64 : decode b_CH_write 64 = .ok (.iinc 3 1, 3) := by decide +kernel
theorem d_CH_write_67 : decode b_CH_write 67 = .ok (.goto (-61), 3) := by decide +kernel
theorem d_CH_write_70 : decode b_CH_write 70 = .ok (.aload_n 2, 1) := by decide +kernel
theorem d_CH_write_71 : decode b_CH_write 71 = .ok (.sipush 255, 3) := by decide +kernel
theorem d_CH_write_74 : decode b_CH_write 74 = .ok (.invokevirtual 33, 3) := by decide +kernel
theorem d_CH_write_77 : decode b_CH_write 77 = .ok (.return_, 1) := by decide +kernel
theorem d_CH_differing_0 : decode b_CH_differing 0 = .ok (.iconst 0, 1) := by decide +kernel
theorem d_CH_differing_1 : decode b_CH_differing 1 = .ok (.istore 4, 2) := by decide +kernel
theorem d_CH_differing_3 : decode b_CH_differing 3 = .ok (.iload_n 2, 1) := by decide +kernel
theorem d_CH_differing_4 : decode b_CH_differing 4 = .ok (.iload 4, 2) := by decide +kernel
theorem d_CH_differing_6 : decode b_CH_differing 6 = .ok (.iadd, 1) := by decide +kernel
theorem d_CH_differing_7 : decode b_CH_differing 7 = .ok (.aload_n 0, 1) := by decide +kernel
theorem d_CH_differing_8 : decode b_CH_differing 8 = .ok (.getfield 20, 3) := by decide +kernel
theorem d_CH_differing_11 : decode b_CH_differing 11 = .ok (.if_icmp .ge 30, 3) := by decide +kernel
theorem d_CH_differing_14 : decode b_CH_differing 14 = .ok (.aload_n 0, 1) := by decide +kernel
theorem d_CH_differing_15 : decode b_CH_differing 15 = .ok (.iload_n 2, 1) := by decide +kernel
theorem d_CH_differing_16 : decode b_CH_differing 16 = .ok (.iload 4, 2) := by decide +kernel
theorem d_CH_differing_18 : decode b_CH_differing 18 = .ok (.iadd, 1) := by decide +kernel
theorem d_CH_differing_19 : decode b_CH_differing 19 = .ok (.iload_n 3, 1) := by decide +kernel
theorem d_CH_differing_20 : decode b_CH_differing 20 = .ok (.invokevirtual 37, 3) := by decide +kernel
theorem d_CH_differing_23 : decode b_CH_differing 23 = .ok (.aload_n 1, 1) := by decide +kernel
theorem d_CH_differing_24 : decode b_CH_differing 24 = .ok (.iload_n 2, 1) := by decide +kernel
theorem d_CH_differing_25 : decode b_CH_differing 25 = .ok (.iload 4, 2) := by decide +kernel
theorem d_CH_differing_27 : decode b_CH_differing 27 = .ok (.iadd, 1) := by decide +kernel
theorem d_CH_differing_28 : decode b_CH_differing 28 = .ok (.iload_n 3, 1) := by decide +kernel
theorem d_CH_differing_29 : decode b_CH_differing 29 = .ok (.invokevirtual 37, 3) := by decide +kernel
theorem d_CH_differing_32 : decode b_CH_differing 32 = .ok (.if_icmp .eq 9, 3) := by decide +kernel
theorem d_CH_differing_35 : decode b_CH_differing 35 = .ok (.iinc 4 1, 3) := by decide +kernel
theorem d_CH_differing_38 : decode b_CH_differing 38 = .ok (.goto (-35), 3) := by decide +kernel
theorem d_CH_differing_41 : decode b_CH_differing 41 = .ok (.iload 4, 2) := by decide +kernel
theorem d_CH_differing_43 : decode b_CH_differing 43 = .ok (.ireturn, 1) := by decide +kernel
theorem d_CH_writeRun_0 : decode b_CH_writeRun 0 = .ok (.aload 4, 2) := by decide +kernel
theorem d_CH_writeRun_2 : decode b_CH_writeRun 2 = .ok (.iload_n 1, 1) := by decide +kernel
theorem d_CH_writeRun_3 : decode b_CH_writeRun 3 = .ok (.invokevirtual 33, 3) := by decide +kernel
theorem d_CH_writeRun_6 : decode b_CH_writeRun 6 = .ok (.aload 4, 2) := by decide +kernel
theorem d_CH_writeRun_8 : decode b_CH_writeRun 8 = .ok (.iload_n 2, 1) := by decide +kernel
theorem d_CH_writeRun_9 : decode b_CH_writeRun 9 = .ok (.invokevirtual 33, 3) := by decide +kernel
theorem d_CH_writeRun_12 : decode b_CH_writeRun 12 = .ok (.aload 4, 2) := by decide +kernel
theorem d_CH_writeRun_14 : decode b_CH_writeRun 14 = .ok (.iload_n 3, 1) := by decide +kernel
theorem d_CH_writeRun_15 : decode b_CH_writeRun 15 = .ok (.invokevirtual 33, 3) := by decide +kernel
theorem d_CH_writeRun_18 : decode b_CH_writeRun 18 = .ok (.iconst 0, 1) := by decide +kernel
theorem d_CH_writeRun_19 : decode b_CH_writeRun 19 = .ok (.istore 5, 2) := by decide +kernel
theorem d_CH_writeRun_21 : decode b_CH_writeRun 21 = .ok (.iload 5, 2) := by decide +kernel
theorem d_CH_writeRun_23 : decode b_CH_writeRun 23 = .ok (.iload_n 3, 1) := by decide +kernel
theorem d_CH_writeRun_24 : decode b_CH_writeRun 24 = .ok (.if_icmp .ge 23, 3) := by decide +kernel
theorem d_CH_writeRun_27 : decode b_CH_writeRun 27 = .ok (.aload 4, 2) := by decide +kernel
theorem d_CH_writeRun_29 : decode b_CH_writeRun 29 = .ok (.aload_n 0, 1) := by decide +kernel
theorem d_CH_writeRun_30 : decode b_CH_writeRun 30 = .ok (.iload_n 1, 1) := by decide +kernel
theorem d_CH_writeRun_31 : decode b_CH_writeRun 31 = .ok (.iload 5, 2) := by decide +kernel
theorem d_CH_writeRun_33 : decode b_CH_writeRun 33 = .ok (.iadd, 1) := by decide +kernel
theorem d_CH_writeRun_34 : decode b_CH_writeRun 34 = .ok (.iload_n 2, 1) := by decide +kernel
theorem d_CH_writeRun_35 : decode b_CH_writeRun 35 = .ok (.invokevirtual 37, 3) := by decide +kernel
theorem d_CH_writeRun_38 : decode b_CH_writeRun 38 = .ok (.invokevirtual 33, 3) := by decide +kernel
theorem d_CH_writeRun_41 : decode b_CH_writeRun 41 = .ok (.iinc 5 1, 3) := by decide +kernel
theorem d_CH_writeRun_44 : decode b_CH_writeRun 44 = .ok (.goto (-23), 3) := by decide +kernel
theorem d_CH_writeRun_47 : decode b_CH_writeRun 47 = .ok (.return_, 1) := by decide +kernel
theorem d_CH_read_0 : decode b_CH_read 0 = .ok (.iconst 0, 1) := by decide +kernel
theorem d_CH_read_1 : decode b_CH_read 1 = .ok (.istore_n 2, 1) := by decide +kernel
theorem d_CH_read_2 : decode b_CH_read 2 = .ok (.iconst 0, 1) := by decide +kernel
theorem d_CH_read_3 : decode b_CH_read 3 = .ok (.istore_n 3, 1) := by decide +kernel
theorem d_CH_read_4 : decode b_CH_read 4 = .ok (.iconst 0, 1) := by decide +kernel
theorem d_CH_read_5 : decode b_CH_read 5 = .ok (.istore 4, 2) := by decide +kernel
theorem d_CH_read_7 : decode b_CH_read 7 = .ok (.iload 4, 2) := by decide +kernel
theorem d_CH_read_9 : decode b_CH_read 9 = .ok (.sipush 4000, 3) := by decide +kernel
theorem d_CH_read_12 : decode b_CH_read 12 = .ok (.if_icmp .ge 71, 3) := by decide +kernel
theorem d_CH_read_15 : decode b_CH_read 15 = .ok (.aload_n 0, 1) := by decide +kernel
theorem d_CH_read_16 : decode b_CH_read 16 = .ok (.iload_n 2, 1) := by decide +kernel
theorem d_CH_read_17 : decode b_CH_read 17 = .ok (.invokevirtual 41, 3) := by decide +kernel
theorem d_CH_read_20 : decode b_CH_read 20 = .ok (.sipush 255, 3) := by decide +kernel
theorem d_CH_read_23 : decode b_CH_read 23 = .ok (.if_icmp .ne 24, 3) := by decide +kernel
theorem d_CH_read_26 : decode b_CH_read 26 = .ok (.iload_n 2, 1) := by decide +kernel
theorem d_CH_read_27 : decode b_CH_read 27 = .ok (.iconst 1, 1) := by decide +kernel
theorem d_CH_read_28 : decode b_CH_read 28 = .ok (.iadd, 1) := by decide +kernel
theorem d_CH_read_29 : decode b_CH_read 29 = .ok (.aload_n 0, 1) := by decide +kernel
theorem d_CH_read_30 : decode b_CH_read 30 = .ok (.getfield 45, 3) := by decide +kernel
theorem d_CH_read_33 : decode b_CH_read 33 = .ok (.if_icmp .ne 7, 3) := by decide +kernel
theorem d_CH_read_36 : decode b_CH_read 36 = .ok (.iload_n 3, 1) := by decide +kernel
theorem d_CH_read_37 : decode b_CH_read 37 = .ok (.goto 9, 3) := by decide +kernel
theorem d_CH_read_40 : decode b_CH_read 40 = .ok (.iload_n 2, 1) := by decide +kernel
theorem d_CH_read_41 : decode b_CH_read 41 = .ok (.iconst 1, 1) := by decide +kernel
theorem d_CH_read_42 : decode b_CH_read 42 = .ok (.iadd, 1) := by decide +kernel
theorem d_CH_read_43 : decode b_CH_read 43 = .ok (.invokestatic 48, 3) := by decide +kernel
theorem d_CH_read_46 : decode b_CH_read 46 = .ok (.ireturn, 1) := by decide +kernel
theorem d_CH_read_47 : decode b_CH_read 47 = .ok (.aload_n 0, 1) := by decide +kernel
theorem d_CH_read_48 : decode b_CH_read 48 = .ok (.iload_n 2, 1) := by decide +kernel
theorem d_CH_read_49 : decode b_CH_read 49 = .ok (.aload_n 1, 1) := by decide +kernel
theorem d_CH_read_50 : decode b_CH_read 50 = .ok (.invokestatic 51, 3) := by decide +kernel
theorem d_CH_read_53 : decode b_CH_read 53 = .ok (.istore 5, 2) := by decide +kernel
theorem d_CH_read_55 : decode b_CH_read 55 = .ok (.iload 5, 2) := by decide +kernel
theorem d_CH_read_57 : decode b_CH_read 57 = .ok (.ifCond .ne 8, 3) := by decide +kernel
theorem d_CH_read_60 : decode b_CH_read 60 = .ok (.iload_n 2, 1) := by decide +kernel
theorem d_CH_read_61 : decode b_CH_read 61 = .ok (.invokestatic 48, 3) := by decide +kernel
theorem d_CH_read_64 : decode b_CH_read 64 = .ok (.ireturn, 1) := by decide +kernel
theorem d_CH_read_65 : decode b_CH_read 65 = .ok (.iload_n 3, 1) := by decide +kernel
theorem d_CH_read_66 : decode b_CH_read 66 = .ok (.iload 5, 2) := by decide +kernel
theorem d_CH_read_68 : decode b_CH_read 68 = .ok (.iadd, 1) := by decide +kernel
theorem d_CH_read_69 : decode b_CH_read 69 = .ok (.istore_n 3, 1) := by decide +kernel
theorem d_CH_read_70 : decode b_CH_read 70 = .ok (.iload_n 2, 1) := by decide +kernel
theorem d_CH_read_71 : decode b_CH_read 71 = .ok (.iconst 3, 1) := by decide +kernel
theorem d_CH_read_72 : decode b_CH_read 72 = .ok (.iload 5, 2) := by decide +kernel
theorem d_CH_read_74 : decode b_CH_read 74 = .ok (.iadd, 1) := by decide +kernel
theorem d_CH_read_75 : decode b_CH_read 75 = .ok (.iadd, 1) := by decide +kernel
theorem d_CH_read_76 : decode b_CH_read 76 = .ok (.istore_n 2, 1) := by decide +kernel
theorem d_CH_read_77 : decode b_CH_read 77 = .ok (.iinc 4 1, 3) := by decide +kernel
theorem d_CH_read_80 : decode b_CH_read 80 = .ok (.goto (-73), 3) := by decide +kernel
theorem d_CH_read_83 : decode b_CH_read 83 = .ok (.iload_n 2, 1) := by decide +kernel
theorem d_CH_read_84 : decode b_CH_read 84 = .ok (.invokestatic 48, 3) := by decide +kernel
theorem d_CH_read_87 : decode b_CH_read 87 = .ok (.ireturn, 1) := by decide +kernel
theorem d_CH_readRun_0 : decode b_CH_readRun 0 = .ok (.aload_n 0, 1) := by decide +kernel
theorem d_CH_readRun_1 : decode b_CH_readRun 1 = .ok (.iload_n 1, 1) := by decide +kernel
theorem d_CH_readRun_2 : decode b_CH_readRun 2 = .ok (.invokevirtual 41, 3) := by decide +kernel
theorem d_CH_readRun_5 : decode b_CH_readRun 5 = .ok (.istore_n 3, 1) := by decide +kernel
theorem d_CH_readRun_6 : decode b_CH_readRun 6 = .ok (.aload_n 0, 1) := by decide +kernel
theorem d_CH_readRun_7 : decode b_CH_readRun 7 = .ok (.iload_n 1, 1) := by decide +kernel
theorem d_CH_readRun_8 : decode b_CH_readRun 8 = .ok (.iconst 1, 1) := by decide +kernel
theorem d_CH_readRun_9 : decode b_CH_readRun 9 = .ok (.iadd, 1) := by decide +kernel
theorem d_CH_readRun_10 : decode b_CH_readRun 10 = .ok (.invokevirtual 41, 3) := by decide +kernel
theorem d_CH_readRun_13 : decode b_CH_readRun 13 = .ok (.istore 4, 2) := by decide +kernel
theorem d_CH_readRun_15 : decode b_CH_readRun 15 = .ok (.aload_n 0, 1) := by decide +kernel
theorem d_CH_readRun_16 : decode b_CH_readRun 16 = .ok (.iload_n 1, 1) := by decide +kernel
theorem d_CH_readRun_17 : decode b_CH_readRun 17 = .ok (.iconst 2, 1) := by decide +kernel
theorem d_CH_readRun_18 : decode b_CH_readRun 18 = .ok (.iadd, 1) := by decide +kernel
theorem d_CH_readRun_19 : decode b_CH_readRun 19 = .ok (.invokevirtual 41, 3) := by decide +kernel
theorem d_CH_readRun_22 : decode b_CH_readRun 22 = .ok (.istore 5, 2) := by decide +kernel
theorem d_CH_readRun_24 : decode b_CH_readRun 24 = .ok (.aload_n 2, 1) := by decide +kernel
theorem d_CH_readRun_25 : decode b_CH_readRun 25 = .ok (.iload_n 3, 1) := by decide +kernel
theorem d_CH_readRun_26 : decode b_CH_readRun 26 = .ok (.iload 4, 2) := by decide +kernel
theorem d_CH_readRun_28 : decode b_CH_readRun 28 = .ok (.iload 5, 2) := by decide +kernel
theorem d_CH_readRun_30 : decode b_CH_readRun 30 = .ok (.iconst 1, 1) := by decide +kernel
theorem d_CH_readRun_31 : decode b_CH_readRun 31 = .ok (.invokevirtual 55, 3) := by decide +kernel
theorem d_CH_readRun_34 : decode b_CH_readRun 34 = .ok (.ifCond .eq 16, 3) := by decide +kernel
theorem d_CH_readRun_37 : decode b_CH_readRun 37 = .ok (.iload 5, 2) := by decide +kernel
theorem d_CH_readRun_39 : decode b_CH_readRun 39 = .ok (.aload_n 0, 1) := by decide +kernel
theorem d_CH_readRun_40 : decode b_CH_readRun 40 = .ok (.getfield 45, 3) := by decide +kernel
theorem d_CH_readRun_43 : decode b_CH_readRun 43 = .ok (.iload_n 1, 1) := by decide +kernel
theorem d_CH_readRun_44 : decode b_CH_readRun 44 = .ok (.isub, 1) := by decide +kernel
theorem d_CH_readRun_45 : decode b_CH_readRun 45 = .ok (.iconst 3, 1) := by decide +kernel
theorem d_CH_readRun_46 : decode b_CH_readRun 46 = .ok (.isub, 1) := by decide +kernel
theorem d_CH_readRun_47 : decode b_CH_readRun 47 = .ok (.if_icmp .le 5, 3) := by decide +kernel
theorem d_CH_readRun_50 : decode b_CH_readRun 50 = .ok (.iconst 0, 1) := by decide +kernel
theorem d_CH_readRun_51 : decode b_CH_readRun 51 = .ok (.ireturn, 1) := by decide +kernel
theorem d_CH_readRun_52 : decode b_CH_readRun 52 = .ok (.iconst 0, 1) := by decide +kernel
theorem d_CH_readRun_53 : decode b_CH_readRun 53 = .ok (.istore 6, 2) := by decide +kernel
theorem d_CH_readRun_55 : decode b_CH_readRun 55 = .ok (.iload 6, 2) := by decide +kernel
theorem d_CH_readRun_57 : decode b_CH_readRun 57 = .ok (.iload 5, 2) := by decide +kernel
theorem d_CH_readRun_59 : decode b_CH_readRun 59 = .ok (.if_icmp .ge 30, 3) := by decide +kernel
theorem d_CH_readRun_62 : decode b_CH_readRun 62 = .ok (.aload_n 2, 1) := by decide +kernel
theorem d_CH_readRun_63 : decode b_CH_readRun 63 = .ok (.iload_n 3, 1) := by decide +kernel
theorem d_CH_readRun_64 : decode b_CH_readRun 64 = .ok (.iload 6, 2) := by decide +kernel
theorem d_CH_readRun_66 : decode b_CH_readRun 66 = .ok (.iadd, 1) := by decide +kernel
theorem d_CH_readRun_67 : decode b_CH_readRun 67 = .ok (.iload 4, 2) := by decide +kernel
theorem d_CH_readRun_69 : decode b_CH_readRun 69 = .ok (.aload_n 0, 1) := by decide +kernel
theorem d_CH_readRun_70 : decode b_CH_readRun 70 = .ok (.iload_n 1, 1) := by decide +kernel
theorem d_CH_readRun_71 : decode b_CH_readRun 71 = .ok (.iconst 3, 1) := by decide +kernel
theorem d_CH_readRun_72 : decode b_CH_readRun 72 = .ok (.iadd, 1) := by decide +kernel
theorem d_CH_readRun_73 : decode b_CH_readRun 73 = .ok (.iload 6, 2) := by decide +kernel
theorem d_CH_readRun_75 : decode b_CH_readRun 75 = .ok (.iadd, 1) := by decide +kernel
theorem d_CH_readRun_76 : decode b_CH_readRun 76 = .ok (.invokevirtual 41, 3) := by decide +kernel
theorem d_CH_readRun_79 : decode b_CH_readRun 79 = .ok (.invokevirtual 59, 3) := by decide +kernel
theorem d_CH_readRun_82 : decode b_CH_readRun 82 = .ok (.pop, 1) := by decide +kernel
theorem d_CH_readRun_83 : decode b_CH_readRun 83 = .ok (.iinc 6 1, 3) := by decide +kernel
theorem d_CH_readRun_86 : decode b_CH_readRun 86 = .ok (.goto (-31), 3) := by decide +kernel
theorem d_CH_readRun_89 : decode b_CH_readRun 89 = .ok (.iload 5, 2) := by decide +kernel
theorem d_CH_readRun_91 : decode b_CH_readRun 91 = .ok (.ireturn, 1) := by decide +kernel
theorem d_DR_readDrawing_0 : decode b_DR_readDrawing 0 = .ok (.aload_n 0, 1) := by decide +kernel
theorem d_DR_readDrawing_1 : decode b_DR_readDrawing 1 = .ok (.iconst 0, 1) := by decide +kernel
theorem d_DR_readDrawing_2 : decode b_DR_readDrawing 2 = .ok (.invokevirtual 9, 3) := by decide +kernel
theorem d_DR_readDrawing_5 : decode b_DR_readDrawing 5 = .ok (.istore_n 2, 1) := by decide +kernel
theorem d_DR_readDrawing_6 : decode b_DR_readDrawing 6 = .ok (.iload_n 2, 1) := by decide +kernel
theorem d_DR_readDrawing_7 : decode b_DR_readDrawing 7 = .ok (.ifCond .ne 9, 3) := by decide +kernel
theorem d_DR_readDrawing_10 : decode b_DR_readDrawing 10 = .ok (.aload_n 0, 1) := by decide +kernel
theorem d_DR_readDrawing_11 : decode b_DR_readDrawing 11 = .ok (.aload_n 1, 1) := by decide +kernel
theorem d_DR_readDrawing_12 : decode b_DR_readDrawing 12 = .ok (.invokestatic 15, 3) := by decide +kernel
theorem d_DR_readDrawing_15 : decode b_DR_readDrawing 15 = .ok (.ireturn, 1) := by decide +kernel
theorem d_DR_readDrawing_16 : decode b_DR_readDrawing 16 = .ok (.iload_n 2, 1) := by decide +kernel
theorem d_DR_readDrawing_17 : decode b_DR_readDrawing 17 = .ok (.iconst 1, 1) := by decide +kernel
theorem d_DR_readDrawing_18 : decode b_DR_readDrawing 18 = .ok (.if_icmp .eq 8, 3) := by decide +kernel
theorem d_DR_readDrawing_21 : decode b_DR_readDrawing 21 = .ok (.iconst 0, 1) := by decide +kernel
theorem d_DR_readDrawing_22 : decode b_DR_readDrawing 22 = .ok (.invokestatic 21, 3) := by decide +kernel
theorem d_DR_readDrawing_25 : decode b_DR_readDrawing 25 = .ok (.ireturn, 1) := by decide +kernel
theorem d_DR_readDrawing_26 : decode b_DR_readDrawing 26 = .ok (.aload_n 0, 1) := by decide +kernel
theorem d_DR_readDrawing_27 : decode b_DR_readDrawing 27 = .ok (.iconst 1, 1) := by decide +kernel
theorem d_DR_readDrawing_28 : decode b_DR_readDrawing 28 = .ok (.invokevirtual 9, 3) := by decide +kernel
theorem d_DR_readDrawing_31 : decode b_DR_readDrawing 31 = .ok (.istore_n 3, 1) := by decide +kernel
theorem d_DR_readDrawing_32 : decode b_DR_readDrawing 32 = .ok (.iload_n 3, 1) := by decide +kernel
theorem d_DR_readDrawing_33 : decode b_DR_readDrawing 33 = .ok (.iconst (-1), 1) := by decide +kernel
theorem d_DR_readDrawing_34 : decode b_DR_readDrawing 34 = .ok (.if_icmp .ne 8, 3) := by decide +kernel
theorem d_DR_readDrawing_37 : decode b_DR_readDrawing 37 = .ok (.iconst 1, 1) := by decide +kernel
theorem d_DR_readDrawing_38 : decode b_DR_readDrawing 38 = .ok (.invokestatic 21, 3) := by decide +kernel
theorem d_DR_readDrawing_41 : decode b_DR_readDrawing 41 = .ok (.ireturn, 1) := by decide +kernel
theorem d_DR_readDrawing_42 : decode b_DR_readDrawing 42 = .ok (.aload_n 1, 1) := by decide +kernel
theorem d_DR_readDrawing_43 : decode b_DR_readDrawing 43 = .ok (.iload_n 3, 1) := by decide +kernel
theorem d_DR_readDrawing_44 : decode b_DR_readDrawing 44 = .ok (.invokevirtual 24, 3) := by decide +kernel
theorem d_DR_readDrawing_47 : decode b_DR_readDrawing 47 = .ok (.aload_n 0, 1) := by decide +kernel
theorem d_DR_readDrawing_48 : decode b_DR_readDrawing 48 = .ok (.aload_n 1, 1) := by decide +kernel
theorem d_DR_readDrawing_49 : decode b_DR_readDrawing 49 = .ok (.invokestatic 30, 3) := by decide +kernel
theorem d_DR_readDrawing_52 : decode b_DR_readDrawing 52 = .ok (.ireturn, 1) := by decide +kernel
theorem d_DR_readPlain_0 : decode b_DR_readPlain 0 = .ok (.iconst 1, 1) := by decide +kernel
theorem d_DR_readPlain_1 : decode b_DR_readPlain 1 = .ok (.aload_n 1, 1) := by decide +kernel
theorem d_DR_readPlain_2 : decode b_DR_readPlain 2 = .ok (.getfield 33, 3) := by decide +kernel
theorem d_DR_readPlain_5 : decode b_DR_readPlain 5 = .ok (.arraylength, 1) := by decide +kernel
theorem d_DR_readPlain_6 : decode b_DR_readPlain 6 = .ok (.iadd, 1) := by decide +kernel
theorem d_DR_readPlain_7 : decode b_DR_readPlain 7 = .ok (.istore_n 2, 1) := by decide +kernel
theorem d_DR_readPlain_8 : decode b_DR_readPlain 8 = .ok (.aload_n 0, 1) := by decide +kernel
theorem d_DR_readPlain_9 : decode b_DR_readPlain 9 = .ok (.getfield 37, 3) := by decide +kernel
theorem d_DR_readPlain_12 : decode b_DR_readPlain 12 = .ok (.iload_n 2, 1) := by decide +kernel
theorem d_DR_readPlain_13 : decode b_DR_readPlain 13 = .ok (.if_icmp .eq 15, 3) := by decide +kernel
theorem d_DR_readPlain_16 : decode b_DR_readPlain 16 = .ok (.aload_n 0, 1) := by decide +kernel
theorem d_DR_readPlain_17 : decode b_DR_readPlain 17 = .ok (.getfield 37, 3) := by decide +kernel
theorem d_DR_readPlain_20 : decode b_DR_readPlain 20 = .ok (.iload_n 2, 1) := by decide +kernel
theorem d_DR_readPlain_21 : decode b_DR_readPlain 21 = .ok (.invokestatic 41, 3) := by decide +kernel
theorem d_DR_readPlain_24 : decode b_DR_readPlain 24 = .ok (.invokestatic 21, 3) := by decide +kernel
theorem d_DR_readPlain_27 : decode b_DR_readPlain 27 = .ok (.ireturn, 1) := by decide +kernel
theorem d_DR_readPlain_28 : decode b_DR_readPlain 28 = .ok (.iconst 0, 1) := by decide +kernel
theorem d_DR_readPlain_29 : decode b_DR_readPlain 29 = .ok (.istore_n 3, 1) := by decide +kernel
theorem d_DR_readPlain_30 : decode b_DR_readPlain 30 = .ok (.iload_n 3, 1) := by decide +kernel
theorem d_DR_readPlain_31 : decode b_DR_readPlain 31 = .ok (.aload_n 1, 1) := by decide +kernel
theorem d_DR_readPlain_32 : decode b_DR_readPlain 32 = .ok (.getfield 33, 3) := by decide +kernel
theorem d_DR_readPlain_35 : decode b_DR_readPlain 35 = .ok (.arraylength, 1) := by decide +kernel
theorem d_DR_readPlain_36 : decode b_DR_readPlain 36 = .ok (.if_icmp .ge 22, 3) := by decide +kernel
theorem d_DR_readPlain_39 : decode b_DR_readPlain 39 = .ok (.aload_n 1, 1) := by decide +kernel
theorem d_DR_readPlain_40 : decode b_DR_readPlain 40 = .ok (.getfield 33, 3) := by decide +kernel
theorem d_DR_readPlain_43 : decode b_DR_readPlain 43 = .ok (.iload_n 3, 1) := by decide +kernel
theorem d_DR_readPlain_44 : decode b_DR_readPlain 44 = .ok (.aload_n 0, 1) := by decide +kernel
theorem d_DR_readPlain_45 : decode b_DR_readPlain 45 = .ok (.iload_n 3, 1) := by decide +kernel
theorem d_DR_readPlain_46 : decode b_DR_readPlain 46 = .ok (.iconst 1, 1) := by decide +kernel
theorem d_DR_readPlain_47 : decode b_DR_readPlain 47 = .ok (.iadd, 1) := by decide +kernel
theorem d_DR_readPlain_48 : decode b_DR_readPlain 48 = .ok (.invokevirtual 9, 3) := by decide +kernel
theorem d_DR_readPlain_51 : decode b_DR_readPlain 51 = .ok (.iastore, 1) := by decide +kernel
theorem d_DR_readPlain_52 : decode b_DR_readPlain 52 = .ok (.iinc 3 1, 3) := by decide +kernel
theorem d_DR_readPlain_55 : decode b_DR_readPlain 55 = .ok (.goto (-25), 3) := by decide +kernel
theorem d_DR_readPlain_58 : decode b_DR_readPlain 58 = .ok (.iconst 0, 1) := by decide +kernel
theorem d_DR_readPlain_59 : decode b_DR_readPlain 59 = .ok (.ireturn, 1) := by decide +kernel
theorem d_DR_readParts_0 : decode b_DR_readParts 0 = .ok (.iconst 2, 1) := by decide +kernel
theorem d_DR_readParts_1 : decode b_DR_readParts 1 = .ok (.istore_n 2, 1) := by decide +kernel
theorem d_DR_readParts_2 : decode b_DR_readParts 2 = .ok (.iconst 0, 1) := by decide +kernel
theorem d_DR_readParts_3 : decode b_DR_readParts 3 = .ok (.istore_n 3, 1) := by decide +kernel
theorem d_DR_readParts_4 : decode b_DR_readParts 4 = .ok (.iload_n 3, 1) := by decide +kernel
theorem d_DR_readParts_5 : decode b_DR_readParts 5 = .ok (.sipush 4000, 3) := by decide +kernel
theorem d_DR_readParts_8 : decode b_DR_readParts 8 = .ok (.if_icmp .ge 84, 3) := by decide +kernel
theorem d_DR_readParts_11 : decode b_DR_readParts 11 = .ok (.aload_n 0, 1) := by decide +kernel
theorem d_DR_readParts_12 : decode b_DR_readParts 12 = .ok (.iload_n 2, 1) := by decide +kernel
theorem d_DR_readParts_13 : decode b_DR_readParts 13 = .ok (.invokevirtual 9, 3) := by decide +kernel
theorem d_DR_readParts_16 : decode b_DR_readParts 16 = .ok (.istore 4, 2) := by decide +kernel
theorem d_DR_readParts_18 : decode b_DR_readParts 18 = .ok (.iload 4, 2) := by decide +kernel
theorem d_DR_readParts_20 : decode b_DR_readParts 20 = .ok (.ifCond .ne 24, 3) := by decide +kernel
theorem d_DR_readParts_23 : decode b_DR_readParts 23 = .ok (.iload_n 2, 1) := by decide +kernel
theorem d_DR_readParts_24 : decode b_DR_readParts 24 = .ok (.iconst 1, 1) := by decide +kernel
theorem d_DR_readParts_25 : decode b_DR_readParts 25 = .ok (.iadd, 1) := by decide +kernel
theorem d_DR_readParts_26 : decode b_DR_readParts 26 = .ok (.aload_n 0, 1) := by decide +kernel
theorem d_DR_readParts_27 : decode b_DR_readParts 27 = .ok (.getfield 37, 3) := by decide +kernel
theorem d_DR_readParts_30 : decode b_DR_readParts 30 = .ok (.if_icmp .ne 7, 3) := by decide +kernel
theorem d_DR_readParts_33 : decode b_DR_readParts 33 = .ok (.iload_n 3, 1) := by decide +kernel
theorem d_DR_readParts_34 : decode b_DR_readParts 34 = .ok (.goto 9, 3) := by decide +kernel
theorem d_DR_readParts_37 : decode b_DR_readParts 37 = .ok (.iload_n 2, 1) := by decide +kernel
theorem d_DR_readParts_38 : decode b_DR_readParts 38 = .ok (.iconst 1, 1) := by decide +kernel
theorem d_DR_readParts_39 : decode b_DR_readParts 39 = .ok (.iadd, 1) := by decide +kernel
theorem d_DR_readParts_40 : decode b_DR_readParts 40 = .ok (.invokestatic 21, 3) := by decide +kernel
theorem d_DR_readParts_43 : decode b_DR_readParts 43 = .ok (.ireturn, 1) := by decide +kernel
theorem d_DR_readParts_44 : decode b_DR_readParts 44 = .ok (.iload 4, 2) := by decide +kernel
theorem d_DR_readParts_46 : decode b_DR_readParts 46 = .ok (.invokestatic 47, 3) := by decide +kernel
theorem d_DR_readParts_49 : decode b_DR_readParts 49 = .ok (.istore 5, 2) := by decide +kernel
theorem d_DR_readParts_51 : decode b_DR_readParts 51 = .ok (.iload 5, 2) := by decide +kernel
theorem d_DR_readParts_53 : decode b_DR_readParts 53 = .ok (.ifCond .eq 23, 3) := by decide +kernel
theorem d_DR_readParts_56 : decode b_DR_readParts 56 = .ok (.iload 5, 2) := by decide +kernel
theorem d_DR_readParts_58 : decode b_DR_readParts 58 = .ok (.aload_n 0, 1) := by decide +kernel
theorem d_DR_readParts_59 : decode b_DR_readParts 59 = .ok (.getfield 37, 3) := by decide +kernel
theorem d_DR_readParts_62 : decode b_DR_readParts 62 = .ok (.iload_n 2, 1) := by decide +kernel
theorem d_DR_readParts_63 : decode b_DR_readParts 63 = .ok (.isub, 1) := by decide +kernel
theorem d_DR_readParts_64 : decode b_DR_readParts 64 = .ok (.if_icmp .gt 12, 3) := by decide +kernel
theorem d_DR_readParts_67 : decode b_DR_readParts 67 = .ok (.aload_n 0, 1) := by decide +kernel
theorem d_DR_readParts_68 : decode b_DR_readParts 68 = .ok (.iload_n 2, 1) := by decide +kernel
theorem d_DR_readParts_69 : decode b_DR_readParts 69 = .ok (.aload_n 1, 1) := by decide +kernel
theorem d_DR_readParts_70 : decode b_DR_readParts 70 = .ok (.invokestatic 50, 3) := by decide +kernel
theorem d_DR_readParts_73 : decode b_DR_readParts 73 = .ok (.ifCond .ne 8, 3) := by decide +kernel
theorem d_DR_readParts_76 : decode b_DR_readParts 76 = .ok (.iload_n 2, 1) := by decide +kernel
theorem d_DR_readParts_77 : decode b_DR_readParts 77 = .ok (.invokestatic 21, 3) := by decide +kernel
theorem d_DR_readParts_80 : decode b_DR_readParts 80 = .ok (.ireturn, 1) := by decide +kernel
theorem d_DR_readParts_81 : decode b_DR_readParts 81 = .ok (.iload_n 2, 1) := by decide +kernel
theorem d_DR_readParts_82 : decode b_DR_readParts 82 = .ok (.iload 5, 2) := by decide +kernel
theorem d_DR_readParts_84 : decode b_DR_readParts 84 = .ok (.iadd, 1) := by decide +kernel
theorem d_DR_readParts_85 : decode b_DR_readParts 85 = .ok (.istore_n 2, 1) := by decide +kernel
theorem d_DR_readParts_86 : decode b_DR_readParts 86 = .ok (.iinc 3 1, 3) := by decide +kernel
theorem d_DR_readParts_89 : decode b_DR_readParts 89 = .ok (.goto (-85), 3) := by decide +kernel
theorem d_DR_readParts_92 : decode b_DR_readParts 92 = .ok (.iload_n 2, 1) := by decide +kernel
theorem d_DR_readParts_93 : decode b_DR_readParts 93 = .ok (.invokestatic 21, 3) := by decide +kernel
theorem d_DR_readParts_96 : decode b_DR_readParts 96 = .ok (.ireturn, 1) := by decide +kernel
theorem d_DR_drawPart_0 : decode b_DR_drawPart 0 = .ok (.aload_n 0, 1) := by decide +kernel
theorem d_DR_drawPart_1 : decode b_DR_drawPart 1 = .ok (.iload_n 1, 1) := by decide +kernel
theorem d_DR_drawPart_2 : decode b_DR_drawPart 2 = .ok (.invokevirtual 9, 3) := by decide +kernel
theorem d_DR_drawPart_5 : decode b_DR_drawPart 5 = .ok (.istore_n 3, 1) := by decide +kernel
theorem d_DR_drawPart_6 : decode b_DR_drawPart 6 = .ok (.aload_n 0, 1) := by decide +kernel
theorem d_DR_drawPart_7 : decode b_DR_drawPart 7 = .ok (.iload_n 1, 1) := by decide +kernel
theorem d_DR_drawPart_8 : decode b_DR_drawPart 8 = .ok (.iconst 1, 1) := by decide +kernel
theorem d_DR_drawPart_9 : decode b_DR_drawPart 9 = .ok (.iadd, 1) := by decide +kernel
theorem d_DR_drawPart_10 : decode b_DR_drawPart 10 = .ok (.invokevirtual 9, 3) := by decide +kernel
theorem d_DR_drawPart_13 : decode b_DR_drawPart 13 = .ok (.istore 4, 2) := by decide +kernel
theorem d_DR_drawPart_15 : decode b_DR_drawPart 15 = .ok (.aload_n 0, 1) := by decide +kernel
theorem d_DR_drawPart_16 : decode b_DR_drawPart 16 = .ok (.iload_n 1, 1) := by decide +kernel
theorem d_DR_drawPart_17 : decode b_DR_drawPart 17 = .ok (.iconst 2, 1) := by decide +kernel
theorem d_DR_drawPart_18 : decode b_DR_drawPart 18 = .ok (.iadd, 1) := by decide +kernel
theorem d_DR_drawPart_19 : decode b_DR_drawPart 19 = .ok (.invokevirtual 9, 3) := by decide +kernel
theorem d_DR_drawPart_22 : decode b_DR_drawPart 22 = .ok (.istore 5, 2) := by decide +kernel
theorem d_DR_drawPart_24 : decode b_DR_drawPart 24 = .ok (.aload_n 0, 1) := by decide +kernel
theorem d_DR_drawPart_25 : decode b_DR_drawPart 25 = .ok (.iload_n 1, 1) := by decide +kernel
theorem d_DR_drawPart_26 : decode b_DR_drawPart 26 = .ok (.iconst 3, 1) := by decide +kernel
theorem d_DR_drawPart_27 : decode b_DR_drawPart 27 = .ok (.iadd, 1) := by decide +kernel
theorem d_DR_drawPart_28 : decode b_DR_drawPart 28 = .ok (.invokevirtual 9, 3) := by decide +kernel
theorem d_DR_drawPart_31 : decode b_DR_drawPart 31 = .ok (.istore 6, 2) := by decide +kernel
theorem d_DR_drawPart_33 : decode b_DR_drawPart 33 = .ok (.aload_n 0, 1) := by decide +kernel
theorem d_DR_drawPart_34 : decode b_DR_drawPart 34 = .ok (.iload_n 1, 1) := by decide +kernel
theorem d_DR_drawPart_35 : decode b_DR_drawPart 35 = .ok (.iconst 4, 1) := by decide +kernel
theorem d_DR_drawPart_36 : decode b_DR_drawPart 36 = .ok (.iadd, 1) := by decide +kernel
theorem d_DR_drawPart_37 : decode b_DR_drawPart 37 = .ok (.invokevirtual 9, 3) := by decide +kernel
theorem d_DR_drawPart_40 : decode b_DR_drawPart 40 = .ok (.istore 7, 2) := by decide +kernel
theorem d_DR_drawPart_42 : decode b_DR_drawPart 42 = .ok (.iload_n 3, 1) := by decide +kernel
theorem d_DR_drawPart_43 : decode b_DR_drawPart 43 = .ok (.iconst 1, 1) := by decide +kernel
theorem d_DR_drawPart_44 : decode b_DR_drawPart 44 = .ok (.if_icmp .ne 23, 3) := by decide +kernel
theorem d_DR_drawPart_47 : decode b_DR_drawPart 47 = .ok (.aload_n 2, 1) := by decide +kernel
theorem d_DR_drawPart_48 : decode b_DR_drawPart 48 = .ok (.iload 4, 2) := by decide +kernel
theorem d_DR_drawPart_50 : decode b_DR_drawPart 50 = .ok (.iload 5, 2) := by decide +kernel
theorem d_DR_drawPart_52 : decode b_DR_drawPart 52 = .ok (.iload 6, 2) := by decide +kernel
theorem d_DR_drawPart_54 : decode b_DR_drawPart 54 = .ok (.iload 7, 2) := by decide +kernel
theorem d_DR_drawPart_56 : decode b_DR_drawPart 56 = .ok (.aload_n 0, 1) := by decide +kernel
theorem d_DR_drawPart_57 : decode b_DR_drawPart 57 = .ok (.iload_n 1, 1) := by decide +kernel
theorem d_DR_drawPart_58 : decode b_DR_drawPart 58 = .ok (.iconst 5, 1) := by decide +kernel
theorem d_DR_drawPart_59 : decode b_DR_drawPart 59 = .ok (.iadd, 1) := by decide +kernel
theorem d_DR_drawPart_60 : decode b_DR_drawPart 60 = .ok (.invokevirtual 9, 3) := by decide +kernel
theorem d_DR_drawPart_63 : decode b_DR_drawPart 63 = .ok (.invokestatic 54, 3) := by decide +kernel
theorem d_DR_drawPart_66 : decode b_DR_drawPart 66 = .ok (.ireturn, 1) := by decide +kernel
theorem d_DR_drawPart_67 : decode b_DR_drawPart 67 = .ok (.iload_n 3, 1) := by decide +kernel
theorem d_DR_drawPart_68 : decode b_DR_drawPart 68 = .ok (.iconst 2, 1) := by decide +kernel
theorem d_DR_drawPart_69 : decode b_DR_drawPart 69 = .ok (.if_icmp .ne 25, 3) := by decide +kernel
theorem d_DR_drawPart_72 : decode b_DR_drawPart 72 = .ok (.aload_n 2, 1) := by decide +kernel
theorem d_DR_drawPart_73 : decode b_DR_drawPart 73 = .ok (.iload 4, 2) := by decide +kernel
theorem d_DR_drawPart_75 : decode b_DR_drawPart 75 = .ok (.iload 5, 2) := by decide +kernel
theorem d_DR_drawPart_77 : decode b_DR_drawPart 77 = .ok (.iload 6, 2) := by decide +kernel
theorem d_DR_drawPart_79 : decode b_DR_drawPart 79 = .ok (.iload 7, 2) := by decide +kernel
theorem d_DR_drawPart_81 : decode b_DR_drawPart 81 = .ok (.iconst 4, 1) := by decide +kernel
theorem d_DR_drawPart_82 : decode b_DR_drawPart 82 = .ok (.isub, 1) := by decide +kernel
theorem d_DR_drawPart_83 : decode b_DR_drawPart 83 = .ok (.aload_n 0, 1) := by decide +kernel
theorem d_DR_drawPart_84 : decode b_DR_drawPart 84 = .ok (.iload_n 1, 1) := by decide +kernel
theorem d_DR_drawPart_85 : decode b_DR_drawPart 85 = .ok (.iconst 5, 1) := by decide +kernel
theorem d_DR_drawPart_86 : decode b_DR_drawPart 86 = .ok (.iadd, 1) := by decide +kernel
theorem d_DR_drawPart_87 : decode b_DR_drawPart 87 = .ok (.invokevirtual 9, 3) := by decide +kernel
theorem d_DR_drawPart_90 : decode b_DR_drawPart 90 = .ok (.invokestatic 58, 3) := by decide +kernel
theorem d_DR_drawPart_93 : decode b_DR_drawPart 93 = .ok (.ireturn, 1) := by decide +kernel
theorem d_DR_drawPart_94 : decode b_DR_drawPart 94 = .ok (.aload_n 2, 1) := by decide +kernel
theorem d_DR_drawPart_95 : decode b_DR_drawPart 95 = .ok (.iload 4, 2) := by decide +kernel
theorem d_DR_drawPart_97 : decode b_DR_drawPart 97 = .ok (.iload 5, 2) := by decide +kernel
theorem d_DR_drawPart_99 : decode b_DR_drawPart 99 = .ok (.iload 6, 2) := by decide +kernel
theorem d_DR_drawPart_101 : decode b_DR_drawPart 101 = .ok (.iconst 1, 1) := by decide +kernel
theorem d_DR_drawPart_102 : decode b_DR_drawPart 102 = .ok (.iload 7, 2) := by decide +kernel
theorem d_DR_drawPart_104 : decode b_DR_drawPart 104 = .ok (.invokestatic 54, 3) := by decide +kernel
theorem d_DR_drawPart_107 : decode b_DR_drawPart 107 = .ok (.ireturn, 1) := by decide +kernel
theorem d_DR_drawRectangle_0 : decode b_DR_drawRectangle 0 = .ok (.aload_n 0, 1) := by decide +kernel
theorem d_DR_drawRectangle_1 : decode b_DR_drawRectangle 1 = .ok (.iload_n 1, 1) := by decide +kernel
theorem d_DR_drawRectangle_2 : decode b_DR_drawRectangle 2 = .ok (.iload_n 2, 1) := by decide +kernel
theorem d_DR_drawRectangle_3 : decode b_DR_drawRectangle 3 = .ok (.iload_n 3, 1) := by decide +kernel
theorem d_DR_drawRectangle_4 : decode b_DR_drawRectangle 4 = .ok (.iload 4, 2) := by decide +kernel
theorem d_DR_drawRectangle_6 : decode b_DR_drawRectangle 6 = .ok (.invokevirtual 61, 3) := by decide +kernel
theorem d_DR_drawRectangle_9 : decode b_DR_drawRectangle 9 = .ok (.ifCond .ne 5, 3) := by decide +kernel
theorem d_DR_drawRectangle_12 : decode b_DR_drawRectangle 12 = .ok (.iconst 0, 1) := by decide +kernel
theorem d_DR_drawRectangle_13 : decode b_DR_drawRectangle 13 = .ok (.ireturn, 1) := by decide +kernel
theorem d_DR_drawRectangle_14 : decode b_DR_drawRectangle 14 = .ok (.aload_n 0, 1) := by decide +kernel
theorem d_DR_drawRectangle_15 : decode b_DR_drawRectangle 15 = .ok (.iload_n 1, 1) := by decide +kernel
theorem d_DR_drawRectangle_16 : decode b_DR_drawRectangle 16 = .ok (.iload_n 2, 1) := by decide +kernel
theorem d_DR_drawRectangle_17 : decode b_DR_drawRectangle 17 = .ok (.iload_n 3, 1) := by decide +kernel
theorem d_DR_drawRectangle_18 : decode b_DR_drawRectangle 18 = .ok (.iload 4, 2) := by decide +kernel
theorem d_DR_drawRectangle_20 : decode b_DR_drawRectangle 20 = .ok (.iload 5, 2) := by decide +kernel
theorem d_DR_drawRectangle_22 : decode b_DR_drawRectangle 22 = .ok (.invokevirtual 65, 3) := by decide +kernel
theorem d_DR_drawRectangle_25 : decode b_DR_drawRectangle 25 = .ok (.pop, 1) := by decide +kernel
theorem d_DR_drawRectangle_26 : decode b_DR_drawRectangle 26 = .ok (.iconst 1, 1) := by decide +kernel
theorem d_DR_drawRectangle_27 : decode b_DR_drawRectangle 27 = .ok (.ireturn, 1) := by decide +kernel
theorem d_DR_drawCopy_0 : decode b_DR_drawCopy 0 = .ok (.iload 4, 2) := by decide +kernel
theorem d_DR_drawCopy_2 : decode b_DR_drawCopy 2 = .ok (.iconst 4, 1) := by decide +kernel
theorem d_DR_drawCopy_3 : decode b_DR_drawCopy 3 = .ok (.if_icmp .gt 15, 3) := by decide +kernel
theorem d_DR_drawCopy_6 : decode b_DR_drawCopy 6 = .ok (.iload 5, 2) := by decide +kernel
theorem d_DR_drawCopy_8 : decode b_DR_drawCopy 8 = .ok (.iconst 1, 1) := by decide +kernel
theorem d_DR_drawCopy_9 : decode b_DR_drawCopy 9 = .ok (.if_icmp .lt 9, 3) := by decide +kernel
theorem d_DR_drawCopy_12 : decode b_DR_drawCopy 12 = .ok (.iload 5, 2) := by decide +kernel
theorem d_DR_drawCopy_14 : decode b_DR_drawCopy 14 = .ok (.iconst 4, 1) := by decide +kernel
theorem d_DR_drawCopy_15 : decode b_DR_drawCopy 15 = .ok (.if_icmp .le 5, 3) := by decide +kernel
theorem d_DR_drawCopy_18 : decode b_DR_drawCopy 18 = .ok (.iconst 0, 1) := by decide +kernel
theorem d_DR_drawCopy_19 : decode b_DR_drawCopy 19 = .ok (.ireturn, 1) := by decide +kernel
theorem d_DR_drawCopy_20 : decode b_DR_drawCopy 20 = .ok (.aload_n 0, 1) := by decide +kernel
theorem d_DR_drawCopy_21 : decode b_DR_drawCopy 21 = .ok (.iload_n 1, 1) := by decide +kernel
theorem d_DR_drawCopy_22 : decode b_DR_drawCopy 22 = .ok (.iload_n 2, 1) := by decide +kernel
theorem d_DR_drawCopy_23 : decode b_DR_drawCopy 23 = .ok (.iload_n 3, 1) := by decide +kernel
theorem d_DR_drawCopy_24 : decode b_DR_drawCopy 24 = .ok (.iconst 1, 1) := by decide +kernel
theorem d_DR_drawCopy_25 : decode b_DR_drawCopy 25 = .ok (.invokevirtual 61, 3) := by decide +kernel
theorem d_DR_drawCopy_28 : decode b_DR_drawCopy 28 = .ok (.ifCond .eq 20, 3) := by decide +kernel
theorem d_DR_drawCopy_31 : decode b_DR_drawCopy 31 = .ok (.aload_n 0, 1) := by decide +kernel
theorem d_DR_drawCopy_32 : decode b_DR_drawCopy 32 = .ok (.iload_n 1, 1) := by decide +kernel
theorem d_DR_drawCopy_33 : decode b_DR_drawCopy 33 = .ok (.iload 4, 2) := by decide +kernel
theorem d_DR_drawCopy_35 : decode b_DR_drawCopy 35 = .ok (.iadd, 1) := by decide +kernel
theorem d_DR_drawCopy_36 : decode b_DR_drawCopy 36 = .ok (.iload_n 2, 1) := by decide +kernel
theorem d_DR_drawCopy_37 : decode b_DR_drawCopy 37 = .ok (.iload 5, 2) := by decide +kernel
theorem d_DR_drawCopy_39 : decode b_DR_drawCopy 39 = .ok (.isub, 1) := by decide +kernel
theorem d_DR_drawCopy_40 : decode b_DR_drawCopy 40 = .ok (.iload_n 3, 1) := by decide +kernel
theorem d_DR_drawCopy_41 : decode b_DR_drawCopy 41 = .ok (.iconst 1, 1) := by decide +kernel
theorem d_DR_drawCopy_42 : decode b_DR_drawCopy 42 = .ok (.invokevirtual 61, 3) := by decide +kernel
theorem d_DR_drawCopy_45 : decode b_DR_drawCopy 45 = .ok (.ifCond .ne 5, 3) := by decide +kernel
theorem d_DR_drawCopy_48 : decode b_DR_drawCopy 48 = .ok (.iconst 0, 1) := by decide +kernel
theorem d_DR_drawCopy_49 : decode b_DR_drawCopy 49 = .ok (.ireturn, 1) := by decide +kernel
theorem d_DR_drawCopy_50 : decode b_DR_drawCopy 50 = .ok (.aload_n 0, 1) := by decide +kernel
theorem d_DR_drawCopy_51 : decode b_DR_drawCopy 51 = .ok (.iload_n 1, 1) := by decide +kernel
theorem d_DR_drawCopy_52 : decode b_DR_drawCopy 52 = .ok (.iload_n 2, 1) := by decide +kernel
theorem d_DR_drawCopy_53 : decode b_DR_drawCopy 53 = .ok (.iload_n 3, 1) := by decide +kernel
theorem d_DR_drawCopy_54 : decode b_DR_drawCopy 54 = .ok (.iload 4, 2) := by decide +kernel
theorem d_DR_drawCopy_56 : decode b_DR_drawCopy 56 = .ok (.iload 5, 2) := by decide +kernel
theorem d_DR_drawCopy_58 : decode b_DR_drawCopy 58 = .ok (.invokevirtual 69, 3) := by decide +kernel
theorem d_DR_drawCopy_61 : decode b_DR_drawCopy 61 = .ok (.iconst 1, 1) := by decide +kernel
theorem d_DR_drawCopy_62 : decode b_DR_drawCopy 62 = .ok (.ireturn, 1) := by decide +kernel
