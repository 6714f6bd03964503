abbrev b_LW_cell : ByteArray := method_2_code
def y_LW_cell : MethodName := ⟨R_LW, "cell", "([II)I"⟩
abbrev b_LW_put : ByteArray := method_3_code
def y_LW_put : MethodName := ⟨R_LW, "put", "(LDrawingForms;III[J)I"⟩
abbrev b_LW_box : ByteArray := method_4_code
def y_LW_box : MethodName := ⟨R_LW, "box", "(LDrawingForms;IIIII[J)I"⟩
abbrev b_LW_at : ByteArray := method_5_code
def y_LW_at : MethodName := ⟨R_LW, "at", "(LDrawingForms;II[J)I"⟩
abbrev b_LW_second : ByteArray := method_6_code
def y_LW_second : MethodName := ⟨R_LW, "second", "(LDrawingForms;III[J)I"⟩
abbrev b_LW_byteAt : ByteArray := method_7_code
def y_LW_byteAt : MethodName := ⟨R_LW, "byteAt", "(LDrawingForms;I[J)I"⟩
abbrev b_LW_part : ByteArray := method_8_code
def y_LW_part : MethodName := ⟨R_LW, "part", "(LDrawingForms;II[J)I"⟩
abbrev b_LW_feed : ByteArray := method_9_code
def y_LW_feed : MethodName := ⟨R_LW, "feed", "(LDrawingForms;I[J)I"⟩
abbrev b_LW_pass : ByteArray := method_10_code
def y_LW_pass : MethodName := ⟨R_LW, "pass", "(LDrawingForms;[J)I"⟩
theorem d_LW_cell_0 : decode b_LW_cell 0 = .ok (.iload_n 1, 1) := by decide +kernel
theorem d_LW_cell_1 : decode b_LW_cell 1 = .ok (.aload_n 0, 1) := by decide +kernel
theorem d_LW_cell_2 : decode b_LW_cell 2 = .ok (.arraylength, 1) := by decide +kernel
theorem d_LW_cell_3 : decode b_LW_cell 3 = .ok (.if_icmp .ge 9, 3) := by decide +kernel
theorem d_LW_cell_6 : decode b_LW_cell 6 = .ok (.aload_n 0, 1) := by decide +kernel
theorem d_LW_cell_7 : decode b_LW_cell 7 = .ok (.iload_n 1, 1) := by decide +kernel
theorem d_LW_cell_8 : decode b_LW_cell 8 = .ok (.iaload, 1) := by decide +kernel
theorem d_LW_cell_9 : decode b_LW_cell 9 = .ok (.goto 4, 3) := by decide +kernel
theorem d_LW_cell_12 : decode b_LW_cell 12 = .ok (.iconst 0, 1) := by decide +kernel
theorem d_LW_cell_13 : decode b_LW_cell 13 = .ok (.ireturn, 1) := by decide +kernel
theorem vw_LW_7 : VW R_LW 7 R_DF y_DF_put b_DF_put 4 (some .boolean) := ⟨aw_mem (List.mem_of_getElem? (i := 382) (by decide +kernel)) (by decide +kernel), aw_mem (List.mem_of_getElem? (i := 383) (by decide +kernel)) (by decide +kernel), aw_mem (List.mem_of_getElem? (i := 384) (by decide +kernel)) (by decide +kernel), aw_mem (List.mem_of_getElem? (i := 27) (by decide +kernel)) (by decide +kernel), aw_mem (List.mem_of_getElem? (i := 385) (by decide +kernel)) (by decide +kernel)⟩
theorem md_DF_put : MD y_DF_put 3 := by decide +kernel
theorem k_LW_13 : Cond.classLink R_LW 13 "java/lang/IndexOutOfBoundsException" ∈ AW := aw_mem (List.mem_of_getElem? (i := 380) (by decide +kernel)) (by decide +kernel)
theorem k_LW_15 : Cond.classLink R_LW 15 "java/lang/IllegalArgumentException" ∈ AW := aw_mem (List.mem_of_getElem? (i := 381) (by decide +kernel)) (by decide +kernel)
theorem vw_LW_17 : VW R_LW 17 R_DF y_DF_box b_DF_box 8 (some .int) := ⟨aw_mem (List.mem_of_getElem? (i := 482) (by decide +kernel)) (by decide +kernel), aw_mem (List.mem_of_getElem? (i := 483) (by decide +kernel)) (by decide +kernel), aw_mem (List.mem_of_getElem? (i := 484) (by decide +kernel)) (by decide +kernel), aw_mem (List.mem_of_getElem? (i := 27) (by decide +kernel)) (by decide +kernel), aw_mem (List.mem_of_getElem? (i := 485) (by decide +kernel)) (by decide +kernel)⟩
theorem md_DF_box : MD y_DF_box 5 := by decide +kernel
theorem vw_LW_21 : VW R_LW 21 R_DF y_DF_at b_DF_at 3 (some .int) := ⟨aw_mem (List.mem_of_getElem? (i := 491) (by decide +kernel)) (by decide +kernel), aw_mem (List.mem_of_getElem? (i := 492) (by decide +kernel)) (by decide +kernel), aw_mem (List.mem_of_getElem? (i := 493) (by decide +kernel)) (by decide +kernel), aw_mem (List.mem_of_getElem? (i := 27) (by decide +kernel)) (by decide +kernel), aw_mem (List.mem_of_getElem? (i := 494) (by decide +kernel)) (by decide +kernel)⟩
theorem md_DF_at : MD y_DF_at 2 := by decide +kernel
theorem vw_LW_25 : VW R_LW 25 R_DF y_DF_second b_DF_second 4 (some .boolean) := ⟨aw_mem (List.mem_of_getElem? (i := 499) (by decide +kernel)) (by decide +kernel), aw_mem (List.mem_of_getElem? (i := 500) (by decide +kernel)) (by decide +kernel), aw_mem (List.mem_of_getElem? (i := 501) (by decide +kernel)) (by decide +kernel), aw_mem (List.mem_of_getElem? (i := 27) (by decide +kernel)) (by decide +kernel), aw_mem (List.mem_of_getElem? (i := 502) (by decide +kernel)) (by decide +kernel)⟩
theorem md_DF_second : MD y_DF_second 3 := by decide +kernel
theorem vw_LW_28 : VW R_LW 28 R_DF y_DF_byteAt b_DF_byteAt 2 (some .int) := ⟨aw_mem (List.mem_of_getElem? (i := 506) (by decide +kernel)) (by decide +kernel), aw_mem (List.mem_of_getElem? (i := 507) (by decide +kernel)) (by decide +kernel), aw_mem (List.mem_of_getElem? (i := 508) (by decide +kernel)) (by decide +kernel), aw_mem (List.mem_of_getElem? (i := 27) (by decide +kernel)) (by decide +kernel), aw_mem (List.mem_of_getElem? (i := 509) (by decide +kernel)) (by decide +kernel)⟩
theorem md_DF_byteAt : MD y_DF_byteAt 1 := by decide +kernel
theorem vw_LW_32 : VW R_LW 32 R_DF y_DF_part b_DF_part 3 (some .int) := ⟨aw_mem (List.mem_of_getElem? (i := 515) (by decide +kernel)) (by decide +kernel), aw_mem (List.mem_of_getElem? (i := 516) (by decide +kernel)) (by decide +kernel), aw_mem (List.mem_of_getElem? (i := 517) (by decide +kernel)) (by decide +kernel), aw_mem (List.mem_of_getElem? (i := 27) (by decide +kernel)) (by decide +kernel), aw_mem (List.mem_of_getElem? (i := 518) (by decide +kernel)) (by decide +kernel)⟩
theorem md_DF_part : MD y_DF_part 2 := by decide +kernel
theorem vw_LW_35 : VW R_LW 35 R_DF y_DF_feed b_DF_feed 2 (some .int) := ⟨aw_mem (List.mem_of_getElem? (i := 526) (by decide +kernel)) (by decide +kernel), aw_mem (List.mem_of_getElem? (i := 527) (by decide +kernel)) (by decide +kernel), aw_mem (List.mem_of_getElem? (i := 528) (by decide +kernel)) (by decide +kernel), aw_mem (List.mem_of_getElem? (i := 27) (by decide +kernel)) (by decide +kernel), aw_mem (List.mem_of_getElem? (i := 529) (by decide +kernel)) (by decide +kernel)⟩
theorem md_DF_feed : MD y_DF_feed 1 := by decide +kernel
theorem k_LW_38 : Cond.classLink R_LW 38 "java/lang/UnsupportedOperationException" ∈ AW := aw_mem (List.mem_of_getElem? (i := 525) (by decide +kernel)) (by decide +kernel)
theorem vw_LW_40 : VW R_LW 40 R_DF y_DF_pass b_DF_pass 1 (some .int) := ⟨aw_mem (List.mem_of_getElem? (i := 550) (by decide +kernel)) (by decide +kernel), aw_mem (List.mem_of_getElem? (i := 551) (by decide +kernel)) (by decide +kernel), aw_mem (List.mem_of_getElem? (i := 552) (by decide +kernel)) (by decide +kernel), aw_mem (List.mem_of_getElem? (i := 27) (by decide +kernel)) (by decide +kernel), aw_mem (List.mem_of_getElem? (i := 553) (by decide +kernel)) (by decide +kernel)⟩
theorem md_DF_pass : MD y_DF_pass 0 := by decide +kernel
theorem d_LW_put_0 : decode b_LW_put 0 = .ok (.aload 4, 2) := by decide +kernel
theorem d_LW_put_2 : decode b_LW_put 2 = .ok (.iconst 0, 1) := by decide +kernel
theorem d_LW_put_3 : decode b_LW_put 3 = .ok (.aload_n 0, 1) := by decide +kernel
theorem d_LW_put_4 : decode b_LW_put 4 = .ok (.iload_n 1, 1) := by decide +kernel
theorem d_LW_put_5 : decode b_LW_put 5 = .ok (.iload_n 2, 1) := by decide +kernel
theorem d_LW_put_6 : decode b_LW_put 6 = .ok (.iload_n 3, 1) := by decide +kernel
theorem d_LW_put_7 : decode b_LW_put 7 = .ok (.invokevirtual 7, 3) := by decide +kernel
theorem d_LW_put_10 : decode b_LW_put 10 = .ok (.ifCond .eq 7, 3) := by decide +kernel
theorem d_LW_put_13 : decode b_LW_put 13 = .ok (.lconst 1, 1) := by decide +kernel
theorem d_LW_put_14 : decode b_LW_put 14 = .ok (.goto 4, 3) := by decide +kernel
theorem d_LW_put_17 : decode b_LW_put 17 = .ok (.lconst 0, 1) := by decide +kernel
theorem d_LW_put_18 : decode b_LW_put 18 = .ok (.lastore, 1) := by decide +kernel
theorem d_LW_put_19 : decode b_LW_put 19 = .ok (.goto 11, 3) := by decide +kernel
theorem d_LW_put_22 : decode b_LW_put 22 = .ok (.astore 5, 2) := by decide +kernel
theorem d_LW_put_24 : decode b_LW_put 24 = .ok (.iconst 1, 1) := by decide +kernel
theorem d_LW_put_25 : decode b_LW_put 25 = .ok (.ireturn, 1) := by decide +kernel
theorem d_LW_put_26 : decode b_LW_put 26 = .ok (.astore 5, 2) := by decide +kernel
theorem d_LW_put_28 : decode b_LW_put 28 = .ok (.iconst 2, 1) := by decide +kernel
theorem d_LW_put_29 : decode b_LW_put 29 = .ok (.ireturn, 1) := by decide +kernel
theorem d_LW_put_30 : decode b_LW_put 30 = .ok (.iconst 0, 1) := by decide +kernel
theorem d_LW_put_31 : decode b_LW_put 31 = .ok (.ireturn, 1) := by decide +kernel
theorem d_LW_box_0 : decode b_LW_box 0 = .ok (.aload 6, 2) := by decide +kernel
theorem d_LW_box_2 : decode b_LW_box 2 = .ok (.iconst 0, 1) := by decide +kernel
theorem d_LW_box_3 : decode b_LW_box 3 = .ok (.aload_n 0, 1) := by decide +kernel
theorem d_LW_box_4 : decode b_LW_box 4 = .ok (.iload_n 1, 1) := by decide +kernel
theorem d_LW_box_5 : decode b_LW_box 5 = .ok (.iload_n 2, 1) := by decide +kernel
theorem d_LW_box_6 : decode b_LW_box 6 = .ok (.iload_n 3, 1) := by decide +kernel
theorem d_LW_box_7 : decode b_LW_box 7 = .ok (.iload 4, 2) := by decide +kernel
theorem d_LW_box_9 : decode b_LW_box 9 = .ok (.iload 5, 2) := by decide +kernel
theorem d_LW_box_11 : decode b_LW_box 11 = .ok (.invokevirtual 17, 3) := by decide +kernel
theorem d_LW_box_14 : decode b_LW_box 14 = .ok (.i2l, 1) := by decide +kernel
theorem d_LW_box_15 : decode b_LW_box 15 = .ok (.lastore, 1) := by decide +kernel
theorem d_LW_box_16 : decode b_LW_box 16 = .ok (.goto 11, 3) := by decide +kernel
theorem d_LW_box_19 : decode b_LW_box 19 = .ok (.astore 7, 2) := by decide +kernel
theorem d_LW_box_21 : decode b_LW_box 21 = .ok (.iconst 1, 1) := by decide +kernel
theorem d_LW_box_22 : decode b_LW_box 22 = .ok (.ireturn, 1) := by decide +kernel
theorem d_LW_box_23 : decode b_LW_box 23 = .ok (.astore 7, 2) := by decide +kernel
theorem d_LW_box_25 : decode b_LW_box 25 = .ok (.iconst 2, 1) := by decide +kernel
theorem d_LW_box_26 : decode b_LW_box 26 = .ok (.ireturn, 1) := by decide +kernel
theorem d_LW_box_27 : decode b_LW_box 27 = .ok (.iconst 0, 1) := by decide +kernel
theorem d_LW_box_28 : decode b_LW_box 28 = .ok (.ireturn, 1) := by decide +kernel
theorem d_LW_at_0 : decode b_LW_at 0 = .ok (.aload_n 3, 1) := by decide +kernel
theorem d_LW_at_1 : decode b_LW_at 1 = .ok (.iconst 0, 1) := by decide +kernel
theorem d_LW_at_2 : decode b_LW_at 2 = .ok (.aload_n 0, 1) := by decide +kernel
theorem d_LW_at_3 : decode b_LW_at 3 = .ok (.iload_n 1, 1) := by decide +kernel
theorem d_LW_at_4 : decode b_LW_at 4 = .ok (.iload_n 2, 1) := by decide +kernel
theorem d_LW_at_5 : decode b_LW_at 5 = .ok (.invokevirtual 21, 3) := by decide +kernel
theorem d_LW_at_8 : decode b_LW_at 8 = .ok (.i2l, 1) := by decide +kernel
theorem d_LW_at_9 : decode b_LW_at 9 = .ok (.lastore, 1) := by decide +kernel
theorem d_LW_at_10 : decode b_LW_at 10 = .ok (.goto 7, 3) := by decide +kernel
theorem d_LW_at_13 : decode b_LW_at 13 = .ok (.astore 4, 2) := by decide +kernel
theorem d_LW_at_15 : decode b_LW_at 15 = .ok (.iconst 1, 1) := by decide +kernel
theorem d_LW_at_16 : decode b_LW_at 16 = .ok (.ireturn, 1) := by decide +kernel
theorem d_LW_at_17 : decode b_LW_at 17 = .ok (.iconst 0, 1) := by decide +kernel
theorem d_LW_at_18 : decode b_LW_at 18 = .ok (.ireturn, 1) := by decide +kernel
theorem d_LW_second_0 : decode b_LW_second 0 = .ok (.aload 4, 2) := by decide +kernel
theorem d_LW_second_2 : decode b_LW_second 2 = .ok (.iconst 0, 1) := by decide +kernel
theorem d_LW_second_3 : decode b_LW_second 3 = .ok (.aload_n 0, 1) := by decide +kernel
theorem d_LW_second_4 : decode b_LW_second 4 = .ok (.iload_n 1, 1) := by decide +kernel
theorem d_LW_second_5 : decode b_LW_second 5 = .ok (.iload_n 2, 1) := by decide +kernel
theorem d_LW_second_6 : decode b_LW_second 6 = .ok (.iload_n 3, 1) := by decide +kernel
theorem d_LW_second_7 : decode b_LW_second 7 = .ok (.invokevirtual 25, 3) := by decide +kernel
theorem d_LW_second_10 : decode b_LW_second 10 = .ok (.ifCond .eq 7, 3) := by decide +kernel
theorem d_LW_second_13 : decode b_LW_second 13 = .ok (.lconst 1, 1) := by decide +kernel
theorem d_LW_second_14 : decode b_LW_second 14 = .ok (.goto 4, 3) := by decide +kernel
theorem d_LW_second_17 : decode b_LW_second 17 = .ok (.lconst 0, 1) := by decide +kernel
theorem d_LW_second_18 : decode b_LW_second 18 = .ok (.lastore, 1) := by decide +kernel
theorem d_LW_second_19 : decode b_LW_second 19 = .ok (.goto 11, 3) := by decide +kernel
theorem d_LW_second_22 : decode b_LW_second 22 = .ok (.astore 5, 2) := by decide +kernel
theorem d_LW_second_24 : decode b_LW_second 24 = .ok (.iconst 1, 1) := by decide +kernel
theorem d_LW_second_25 : decode b_LW_second 25 = .ok (.ireturn, 1) := by decide +kernel
theorem d_LW_second_26 : decode b_LW_second 26 = .ok (.astore 5, 2) := by decide +kernel
theorem d_LW_second_28 : decode b_LW_second 28 = .ok (.iconst 2, 1) := by decide +kernel
theorem d_LW_second_29 : decode b_LW_second 29 = .ok (.ireturn, 1) := by decide +kernel
theorem d_LW_second_30 : decode b_LW_second 30 = .ok (.iconst 0, 1) := by decide +kernel
theorem d_LW_second_31 : decode b_LW_second 31 = .ok (.ireturn, 1) := by decide +kernel
theorem d_LW_byteAt_0 : decode b_LW_byteAt 0 = .ok (.aload_n 2, 1) := by decide +kernel
theorem d_LW_byteAt_1 : decode b_LW_byteAt 1 = .ok (.iconst 0, 1) := by decide +kernel
theorem d_LW_byteAt_2 : decode b_LW_byteAt 2 = .ok (.aload_n 0, 1) := by decide +kernel
theorem d_LW_byteAt_3 : decode b_LW_byteAt 3 = .ok (.iload_n 1, 1) := by decide +kernel
theorem d_LW_byteAt_4 : decode b_LW_byteAt 4 = .ok (.invokevirtual 28, 3) := by decide +kernel
theorem d_LW_byteAt_7 : decode b_LW_byteAt 7 = .ok (.i2l, 1) := by decide +kernel
theorem d_LW_byteAt_8 : decode b_LW_byteAt 8 = .ok (.lastore, 1) := by decide +kernel
theorem d_LW_byteAt_9 : decode b_LW_byteAt 9 = .ok (.goto 6, 3) := by decide +kernel
theorem d_LW_byteAt_12 : decode b_LW_byteAt 12 = .ok (.astore_n 3, 1) := by decide +kernel
theorem d_LW_byteAt_13 : decode b_LW_byteAt 13 = .ok (.iconst 1, 1) := by decide +kernel
theorem d_LW_byteAt_14 : decode b_LW_byteAt 14 = .ok (.ireturn, 1) := by decide +kernel
theorem d_LW_byteAt_15 : decode b_LW_byteAt 15 = .ok (.iconst 0, 1) := by decide +kernel
theorem d_LW_byteAt_16 : decode b_LW_byteAt 16 = .ok (.ireturn, 1) := by decide +kernel
theorem d_LW_part_0 : decode b_LW_part 0 = .ok (.aload_n 3, 1) := by decide +kernel
theorem d_LW_part_1 : decode b_LW_part 1 = .ok (.iconst 0, 1) := by decide +kernel
theorem d_LW_part_2 : decode b_LW_part 2 = .ok (.aload_n 0, 1) := by decide +kernel
theorem d_LW_part_3 : decode b_LW_part 3 = .ok (.iload_n 1, 1) := by decide +kernel
theorem d_LW_part_4 : decode b_LW_part 4 = .ok (.iload_n 2, 1) := by decide +kernel
theorem d_LW_part_5 : decode b_LW_part 5 = .ok (.invokevirtual 32, 3) := by decide +kernel
theorem d_LW_part_8 : decode b_LW_part 8 = .ok (.i2l, 1) := by decide +kernel
theorem d_LW_part_9 : decode b_LW_part 9 = .ok (.lastore, 1) := by decide +kernel
theorem d_LW_part_10 : decode b_LW_part 10 = .ok (.goto 11, 3) := by decide +kernel
theorem d_LW_part_13 : decode b_LW_part 13 = .ok (.astore 4, 2) := by decide +kernel
theorem d_LW_part_15 : decode b_LW_part 15 = .ok (.iconst 1, 1) := by decide +kernel
theorem d_LW_part_16 : decode b_LW_part 16 = .ok (.ireturn, 1) := by decide +kernel
theorem d_LW_part_17 : decode b_LW_part 17 = .ok (.astore 4, 2) := by decide +kernel
theorem d_LW_part_19 : decode b_LW_part 19 = .ok (.iconst 2, 1) := by decide +kernel
theorem d_LW_part_20 : decode b_LW_part 20 = .ok (.ireturn, 1) := by decide +kernel
theorem d_LW_part_21 : decode b_LW_part 21 = .ok (.iconst 0, 1) := by decide +kernel
theorem d_LW_part_22 : decode b_LW_part 22 = .ok (.ireturn, 1) := by decide +kernel
theorem d_LW_feed_0 : decode b_LW_feed 0 = .ok (.aload_n 2, 1) := by decide +kernel
theorem d_LW_feed_1 : decode b_LW_feed 1 = .ok (.iconst 0, 1) := by decide +kernel
theorem d_LW_feed_2 : decode b_LW_feed 2 = .ok (.aload_n 0, 1) := by decide +kernel
theorem d_LW_feed_3 : decode b_LW_feed 3 = .ok (.iload_n 1, 1) := by decide +kernel
theorem d_LW_feed_4 : decode b_LW_feed 4 = .ok (.invokevirtual 35, 3) := by decide +kernel
theorem d_LW_feed_7 : decode b_LW_feed 7 = .ok (.i2l, 1) := by decide +kernel
theorem d_LW_feed_8 : decode b_LW_feed 8 = .ok (.lastore, 1) := by decide +kernel
theorem d_LW_feed_9 : decode b_LW_feed 9 = .ok (.goto 9, 3) := by decide +kernel
theorem d_LW_feed_12 : decode b_LW_feed 12 = .ok (.astore_n 3, 1) := by decide +kernel
theorem d_LW_feed_13 : decode b_LW_feed 13 = .ok (.iconst 1, 1) := by decide +kernel
theorem d_LW_feed_14 : decode b_LW_feed 14 = .ok (.ireturn, 1) := by decide +kernel
theorem d_LW_feed_15 : decode b_LW_feed 15 = .ok (.astore_n 3, 1) := by decide +kernel
theorem d_LW_feed_16 : decode b_LW_feed 16 = .ok (.iconst 2, 1) := by decide +kernel
theorem d_LW_feed_17 : decode b_LW_feed 17 = .ok (.ireturn, 1) := by decide +kernel
theorem d_LW_feed_18 : decode b_LW_feed 18 = .ok (.iconst 0, 1) := by decide +kernel
theorem d_LW_feed_19 : decode b_LW_feed 19 = .ok (.ireturn, 1) := by decide +kernel
theorem d_LW_pass_0 : decode b_LW_pass 0 = .ok (.aload_n 1, 1) := by decide +kernel
theorem d_LW_pass_1 : decode b_LW_pass 1 = .ok (.iconst 0, 1) := by decide +kernel
theorem d_LW_pass_2 : decode b_LW_pass 2 = .ok (.aload_n 0, 1) := by decide +kernel
theorem d_LW_pass_3 : decode b_LW_pass 3 = .ok (.invokevirtual 40, 3) := by decide +kernel
theorem d_LW_pass_6 : decode b_LW_pass 6 = .ok (.i2l, 1) := by decide +kernel
theorem d_LW_pass_7 : decode b_LW_pass 7 = .ok (.lastore, 1) := by decide +kernel
theorem d_LW_pass_8 : decode b_LW_pass 8 = .ok (.goto 6, 3) := by decide +kernel
theorem d_LW_pass_11 : decode b_LW_pass 11 = .ok (.astore_n 2, 1) := by decide +kernel
theorem d_LW_pass_12 : decode b_LW_pass 12 = .ok (.iconst 1, 1) := by decide +kernel
theorem d_LW_pass_13 : decode b_LW_pass 13 = .ok (.ireturn, 1) := by decide +kernel
theorem d_LW_pass_14 : decode b_LW_pass 14 = .ok (.iconst 0, 1) := by decide +kernel
theorem d_LW_pass_15 : decode b_LW_pass 15 = .ok (.ireturn, 1) := by decide +kernel
