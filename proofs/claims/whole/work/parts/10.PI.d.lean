theorem k_PI_3 : Cond.methodLink R_PI 3 objectInit ∈ AW := aw_mem (List.mem_of_getElem? (i := 65) (by decide +kernel)) (by decide +kernel)
theorem k_PI_9 : Cond.fieldLink R_PI 9 R_PI "width" "I" ∈ AW := aw_mem (List.mem_of_getElem? (i := 66) (by decide +kernel)) (by decide +kernel)
theorem k_PI_15 : Cond.fieldLink R_PI 15 R_PI "height" "I" ∈ AW := aw_mem (List.mem_of_getElem? (i := 70) (by decide +kernel)) (by decide +kernel)
theorem k_arr_int : Cond.arrayClass .int ∈ AW := aw_mem (List.mem_of_getElem? (i := 84) (by decide +kernel)) (by decide +kernel)
theorem k_PI_18 : Cond.fieldLink R_PI 18 R_PI "values" "[I" ∈ AW := aw_mem (List.mem_of_getElem? (i := 74) (by decide +kernel)) (by decide +kernel)
theorem vw_PI_22 : VW R_PI 22 R_PI y_PI_has b_PI_has 3 (some .boolean) := ⟨aw_mem (List.mem_of_getElem? (i := 211) (by decide +kernel)) (by decide +kernel), aw_mem (List.mem_of_getElem? (i := 200) (by decide +kernel)) (by decide +kernel), aw_mem (List.mem_of_getElem? (i := 201) (by decide +kernel)) (by decide +kernel), aw_mem (List.mem_of_getElem? (i := 29) (by decide +kernel)) (by decide +kernel), aw_mem (List.mem_of_getElem? (i := 202) (by decide +kernel)) (by decide +kernel)⟩
theorem md_PI_has : MD y_PI_has 2 := by decide +kernel
theorem vw_PI_26 : VW R_PI 26 R_PI y_PI_paint b_PI_paint 6 (some .boolean) := ⟨aw_mem (List.mem_of_getElem? (i := 309) (by decide +kernel)) (by decide +kernel), aw_mem (List.mem_of_getElem? (i := 310) (by decide +kernel)) (by decide +kernel), aw_mem (List.mem_of_getElem? (i := 311) (by decide +kernel)) (by decide +kernel), aw_mem (List.mem_of_getElem? (i := 29) (by decide +kernel)) (by decide +kernel), aw_mem (List.mem_of_getElem? (i := 312) (by decide +kernel)) (by decide +kernel)⟩
theorem md_PI_paint : MD y_PI_paint 3 := by decide +kernel
theorem sw_PI_30 : SW R_PI 30 y_AR_fill b_AR_fill 4 (none) := ⟨aw_mem (List.mem_of_getElem? (i := 290) (by decide +kernel)) (by decide +kernel), aw_mem (List.mem_of_getElem? (i := 181) (by decide +kernel)) (by decide +kernel), aw_mem (List.mem_of_getElem? (i := 39) (by decide +kernel)) (by decide +kernel), aw_mem (List.mem_of_getElem? (i := 182) (by decide +kernel)) (by decide +kernel)⟩
theorem md_AR_fill : MD y_AR_fill 2 := by decide +kernel
theorem vw_PI_36 : VW R_PI 36 R_PI y_PI_value b_PI_value 3 (some .int) := ⟨aw_mem (List.mem_of_getElem? (i := 320) (by decide +kernel)) (by decide +kernel), aw_mem (List.mem_of_getElem? (i := 208) (by decide +kernel)) (by decide +kernel), aw_mem (List.mem_of_getElem? (i := 209) (by decide +kernel)) (by decide +kernel), aw_mem (List.mem_of_getElem? (i := 29) (by decide +kernel)) (by decide +kernel), aw_mem (List.mem_of_getElem? (i := 210) (by decide +kernel)) (by decide +kernel)⟩
theorem md_PI_value : MD y_PI_value 2 := by decide +kernel
theorem d_PI_init_0 : decode b_PI_init 0 = .ok (.aload_n 0, 1) := by decide +kernel
theorem d_PI_init_1 : decode b_PI_init 1 = .ok (.invokespecial 3, 3) := by decide +kernel
theorem d_PI_init_4 : decode b_PI_init 4 = .ok (.aload_n 0, 1) := by decide +kernel
theorem d_PI_init_5 : decode b_PI_init 5 = .ok (.iload_n 1, 1) := by decide +kernel
theorem d_PI_init_6 : decode b_PI_init 6 = .ok (.putfield 9, 3) := by decide +kernel
theorem d_PI_init_9 : decode b_PI_init 9 = .ok (.aload_n 0, 1) := by decide +kernel
theorem d_PI_init_10 : decode b_PI_init 10 = .ok (.iload_n 2, 1) := by decide +kernel
theorem d_PI_init_11 : decode b_PI_init 11 = .ok (.putfield 15, 3) := by decide +kernel
theorem d_PI_init_14 : decode b_PI_init 14 = .ok (.aload_n 0, 1) := by decide +kernel
theorem d_PI_init_15 : decode b_PI_init 15 = .ok (.iload_n 1, 1) := by decide +kernel
theorem d_PI_init_16 : decode b_PI_init 16 = .ok (.iload_n 2, 1) := by decide +kernel
theorem d_PI_init_17 : decode b_PI_init 17 = .ok (.imul, 1) := by decide +kernel
theorem d_PI_init_18 : decode b_PI_init 18 = .ok (.newarray .int, 2) := by decide +kernel
theorem d_PI_init_20 : decode b_PI_init 20 = .ok (.putfield 18, 3) := by decide +kernel
theorem d_PI_init_23 : decode b_PI_init 23 = .ok (.return_, 1) := by decide +kernel
theorem d_PI_has_0 : decode b_PI_has 0 = .ok (.iload_n 1, 1) := by decide +kernel
theorem d_PI_has_1 : decode b_PI_has 1 = .ok (.ifCond .lt 27, 3) := by decide +kernel
theorem d_PI_has_4 : decode b_PI_has 4 = .ok (.iload_n 1, 1) := by decide +kernel
theorem d_PI_has_5 : decode b_PI_has 5 = .ok (.aload_n 0, 1) := by decide +kernel
theorem d_PI_has_6 : decode b_PI_has 6 = .ok (.getfield 9, 3) := by decide +kernel
theorem d_PI_has_9 : decode b_PI_has 9 = .ok (.if_icmp .ge 19, 3) := by decide +kernel
theorem d_PI_has_12 : decode b_PI_has 12 = .ok (.iload_n 2, 1) := by decide +kernel
theorem d_PI_has_13 : decode b_PI_has 13 = .ok (.ifCond .lt 15, 3) := by decide +kernel
theorem d_PI_has_16 : decode b_PI_has 16 = .ok (.iload_n 2, 1) := by decide +kernel
theorem d_PI_has_17 : decode b_PI_has 17 = .ok (.aload_n 0, 1) := by decide +kernel
theorem d_PI_has_18 : decode b_PI_has 18 = .ok (.getfield 15, 3) := by decide +kernel
theorem d_PI_has_21 : decode b_PI_has 21 = .ok (.if_icmp .ge 7, 3) := by decide +kernel
theorem d_PI_has_24 : decode b_PI_has 24 = .ok (.iconst 1, 1) := by decide +kernel
theorem d_PI_has_25 : decode b_PI_has 25 = .ok (.goto 4, 3) := by decide +kernel
theorem d_PI_has_28 : decode b_PI_has 28 = .ok (.iconst 0, 1) := by decide +kernel
theorem d_PI_has_29 : decode b_PI_has 29 = .ok (.ireturn, 1) := by decide +kernel
theorem d_PI_holds_0 : decode b_PI_holds 0 = .ok (.aload_n 0, 1) := by decide +kernel
theorem d_PI_holds_1 : decode b_PI_holds 1 = .ok (.iload_n 1, 1) := by decide +kernel
theorem d_PI_holds_2 : decode b_PI_holds 2 = .ok (.iload_n 2, 1) := by decide +kernel
theorem d_PI_holds_3 : decode b_PI_holds 3 = .ok (.invokevirtual 22, 3) := by decide +kernel
theorem d_PI_holds_6 : decode b_PI_holds 6 = .ok (.ifCond .eq 39, 3) := by decide +kernel
theorem d_PI_holds_9 : decode b_PI_holds 9 = .ok (.iload_n 3, 1) := by decide +kernel
theorem d_PI_holds_10 : decode b_PI_holds 10 = .ok (.iconst 1, 1) := by decide +kernel
theorem d_PI_holds_11 : decode b_PI_holds 11 = .ok (.if_icmp .lt 34, 3) := by decide +kernel
theorem d_PI_holds_14 : decode b_PI_holds 14 = .ok (.iload_n 3, 1) := by decide +kernel
theorem d_PI_holds_15 : decode b_PI_holds 15 = .ok (.aload_n 0, 1) := by decide +kernel
theorem d_PI_holds_16 : decode b_PI_holds 16 = .ok (.getfield 9, 3) := by decide +kernel
theorem d_PI_holds_19 : decode b_PI_holds 19 = .ok (.iload_n 1, 1) := by decide +kernel
theorem d_PI_holds_20 : decode b_PI_holds 20 = .ok (.isub, 1) := by decide +kernel
theorem d_PI_holds_21 : decode b_PI_holds 21 = .ok (.if_icmp .gt 24, 3) := by decide +kernel
theorem d_PI_holds_24 : decode b_PI_holds 24 = .ok (.iload 4, 2) := by decide +kernel
theorem d_PI_holds_26 : decode b_PI_holds 26 = .ok (.iconst 1, 1) := by decide +kernel
theorem d_PI_holds_27 : decode b_PI_holds 27 = .ok (.if_icmp .lt 18, 3) := by decide +kernel
theorem d_PI_holds_30 : decode b_PI_holds 30 = .ok (.iload 4, 2) := by decide +kernel
theorem d_PI_holds_32 : decode b_PI_holds 32 = .ok (.aload_n 0, 1) := by decide +kernel
theorem d_PI_holds_33 : decode b_PI_holds 33 = .ok (.getfield 15, 3) := by decide +kernel
theorem d_PI_holds_36 : decode b_PI_holds 36 = .ok (.iload_n 2, 1) := by decide +kernel
theorem d_PI_holds_37 : decode b_PI_holds 37 = .ok (.isub, 1) := by decide +kernel
theorem d_PI_holds_38 : decode b_PI_holds 38 = .ok (.if_icmp .gt 7, 3) := by decide +kernel
theorem d_PI_holds_41 : decode b_PI_holds 41 = .ok (.iconst 1, 1) := by decide +kernel
theorem d_PI_holds_42 : decode b_PI_holds 42 = .ok (.goto 4, 3) := by decide +kernel
theorem d_PI_holds_45 : decode b_PI_holds 45 = .ok (.iconst 0, 1) := by decide +kernel
theorem d_PI_holds_46 : decode b_PI_holds 46 = .ok (.ireturn, 1) := by decide +kernel
theorem d_PI_value_0 : decode b_PI_value 0 = .ok (.aload_n 0, 1) := by decide +kernel
theorem d_PI_value_1 : decode b_PI_value 1 = .ok (.iload_n 1, 1) := by decide +kernel
theorem d_PI_value_2 : decode b_PI_value 2 = .ok (.iload_n 2, 1) := by decide +kernel
theorem d_PI_value_3 : decode b_PI_value 3 = .ok (.invokevirtual 22, 3) := by decide +kernel
theorem d_PI_value_6 : decode b_PI_value 6 = .ok (.ifCond .eq 19, 3) := by decide +kernel
theorem d_PI_value_9 : decode b_PI_value 9 = .ok (.aload_n 0, 1) := by decide +kernel
theorem d_PI_value_10 : decode b_PI_value 10 = .ok (.getfield 18, 3) := by decide +kernel
theorem d_PI_value_13 : decode b_PI_value 13 = .ok (.iload_n 2, 1) := by decide +kernel
theorem d_PI_value_14 : decode b_PI_value 14 = .ok (.aload_n 0, 1) := by decide +kernel
theorem d_PI_value_15 : decode b_PI_value 15 = .ok (.getfield 9, 3) := by decide +kernel
theorem d_PI_value_18 : decode b_PI_value 18 = .ok (.imul, 1) := by decide +kernel
theorem d_PI_value_19 : decode b_PI_value 19 = .ok (.iload_n 1, 1) := by decide +kernel
theorem d_PI_value_20 : decode b_PI_value 20 = .ok (.iadd, 1) := by decide +kernel
theorem d_PI_value_21 : decode b_PI_value 21 = .ok (.iaload, 1) := by decide +kernel
theorem d_PI_value_22 : decode b_PI_value 22 = .ok (.goto 4, 3) := by decide +kernel
theorem d_PI_value_25 : decode b_PI_value 25 = .ok (.iconst (-1), 1) := by decide +kernel
theorem d_PI_value_26 : decode b_PI_value 26 = .ok (.ireturn, 1) := by decide +kernel
theorem d_PI_paint_0 : decode b_PI_paint 0 = .ok (.aload_n 0, 1) := by decide +kernel
theorem d_PI_paint_1 : decode b_PI_paint 1 = .ok (.iload_n 1, 1) := by decide +kernel
theorem d_PI_paint_2 : decode b_PI_paint 2 = .ok (.iload_n 2, 1) := by decide +kernel
theorem d_PI_paint_3 : decode b_PI_paint 3 = .ok (.invokevirtual 22, 3) := by decide +kernel
theorem d_PI_paint_6 : decode b_PI_paint 6 = .ok (.ifCond .ne 5, 3) := by decide +kernel
theorem d_PI_paint_9 : decode b_PI_paint 9 = .ok (.iconst 0, 1) := by decide +kernel
theorem d_PI_paint_10 : decode b_PI_paint 10 = .ok (.ireturn, 1) := by decide +kernel
theorem d_PI_paint_11 : decode b_PI_paint 11 = .ok (.iload_n 2, 1) := by decide +kernel
theorem d_PI_paint_12 : decode b_PI_paint 12 = .ok (.aload_n 0, 1) := by decide +kernel
theorem d_PI_paint_13 : decode b_PI_paint 13 = .ok (.getfield 9, 3) := by decide +kernel
theorem d_PI_paint_16 : decode b_PI_paint 16 = .ok (.imul, 1) := by decide +kernel
theorem d_PI_paint_17 : decode b_PI_paint 17 = .ok (.iload_n 1, 1) := by decide +kernel
theorem d_PI_paint_18 : decode b_PI_paint 18 = .ok (.iadd, 1) := by decide +kernel
theorem d_PI_paint_19 : decode b_PI_paint 19 = .ok (.istore 4, 2) := by decide +kernel
theorem d_PI_paint_21 : decode b_PI_paint 21 = .ok (.aload_n 0, 1) := by decide +kernel
theorem d_PI_paint_22 : decode b_PI_paint 22 = .ok (.getfield 18, 3) := by decide +kernel
theorem d_PI_paint_25 : decode b_PI_paint 25 = .ok (.iload 4, 2) := by decide +kernel
theorem d_PI_paint_27 : decode b_PI_paint 27 = .ok (.iaload, 1) := by decide +kernel
theorem d_PI_paint_28 : decode b_PI_paint 28 = .ok (.iload_n 3, 1) := by decide +kernel
theorem d_PI_paint_29 : decode b_PI_paint 29 = .ok (.if_icmp .eq 7, 3) := by decide +kernel
theorem d_PI_paint_32 : decode b_PI_paint 32 = .ok (.iconst 1, 1) := by decide +kernel
theorem d_PI_paint_33 : decode b_PI_paint 33 = .ok (.goto 4, 3) := by decide +kernel
theorem d_PI_paint_36 : decode b_PI_paint 36 = .ok (.iconst 0, 1) := by decide +kernel
theorem d_PI_paint_37 : decode b_PI_paint 37 = .ok (.istore 5, 2) := by decide +kernel
theorem d_PI_paint_39 : decode b_PI_paint 39 = .ok (.aload_n 0, 1) := by decide +kernel
theorem d_PI_paint_40 : decode b_PI_paint 40 = .ok (.getfield 18, 3) := by decide +kernel
theorem d_PI_paint_43 : decode b_PI_paint 43 = .ok (.iload 4, 2) := by decide +kernel
theorem d_PI_paint_45 : decode b_PI_paint 45 = .ok (.iload_n 3, 1) := by decide +kernel
theorem d_PI_paint_46 : decode b_PI_paint 46 = .ok (.iastore, 1) := by decide +kernel
theorem d_PI_paint_47 : decode b_PI_paint 47 = .ok (.iload 5, 2) := by decide +kernel
theorem d_PI_paint_49 : decode b_PI_paint 49 = .ok (.ireturn, 1) := by decide +kernel
theorem d_PI_paintRectangle_0 : decode b_PI_paintRectangle 0 = .ok (.iconst 0, 1) := by decide +kernel
theorem d_PI_paintRectangle_1 : decode b_PI_paintRectangle 1 = .ok (.istore 6, 2) := by decide +kernel
theorem d_PI_paintRectangle_3 : decode b_PI_paintRectangle 3 = .ok (.iload_n 2, 1) := by decide +kernel
theorem d_PI_paintRectangle_4 : decode b_PI_paintRectangle 4 = .ok (.istore 7, 2) := by decide +kernel
theorem d_PI_paintRectangle_6 : decode b_PI_paintRectangle 6 = .ok (.iload 7, 2) := by decide +kernel
theorem d_PI_paintRectangle_8 : decode b_PI_paintRectangle 8 = .ok (.iload_n 2, 1) := by decide +kernel
theorem d_PI_paintRectangle_9 : decode b_PI_paintRectangle 9 = .ok (.iload 4, 2) := by decide +kernel
theorem d_PI_paintRectangle_11 : decode b_PI_paintRectangle 11 = .ok (.iadd, 1) := by decide +kernel
theorem d_PI_paintRectangle_12 : decode b_PI_paintRectangle 12 = .ok (.if_icmp .ge 42, 3) := by decide +kernel
theorem d_PI_paintRectangle_15 : decode b_PI_paintRectangle 15 = .ok (.iload_n 1, 1) := by decide +kernel
theorem d_PI_paintRectangle_16 : decode b_PI_paintRectangle 16 = .ok (.istore 8, 2) := by decide +kernel
theorem d_PI_paintRectangle_18 : decode b_PI_paintRectangle 18 = .ok (.iload 8, 2) := by decide +kernel
theorem d_PI_paintRectangle_20 : decode b_PI_paintRectangle 20 = .ok (.iload_n 1, 1) := by decide +kernel
theorem d_PI_paintRectangle_21 : decode b_PI_paintRectangle 21 = .ok (.iload_n 3, 1) := by decide +kernel
theorem d_PI_paintRectangle_22 : decode b_PI_paintRectangle 22 = .ok (.iadd, 1) := by decide +kernel
theorem d_PI_paintRectangle_23 : decode b_PI_paintRectangle 23 = .ok (.if_icmp .ge 25, 3) := by decide +kernel
theorem d_PI_paintRectangle_26 : decode b_PI_paintRectangle 26 = .ok (.aload_n 0, 1) := by decide +kernel
theorem d_PI_paintRectangle_27 : decode b_PI_paintRectangle 27 = .ok (.iload 8, 2) := by decide +kernel
theorem d_PI_paintRectangle_29 : decode b_PI_paintRectangle 29 = .ok (.iload 7, 2) := by decide +kernel
theorem d_PI_paintRectangle_31 : decode b_PI_paintRectangle 31 = .ok (.iload 5, 2) := by decide +kernel
theorem d_PI_paintRectangle_33 : decode b_PI_paintRectangle 33 = .ok (.invokevirtual 26, 3) := by decide +kernel
theorem d_PI_paintRectangle_36 : decode b_PI_paintRectangle 36 = .ok (.ifCond .eq 6, 3) := by decide +kernel
theorem d_PI_paintRectangle_39 : decode b_PI_paintRectangle 39 = .ok (.iinc 6 1, 3) := by decide +kernel
theorem d_PI_paintRectangle_42 : decode b_PI_paintRectangle 42 = .ok (.iinc 8 1, 3) := by decide +kernel
theorem d_PI_paintRectangle_45 : decode b_PI_paintRectangle 45 = .ok (.goto (-27), 3) := by decide +kernel
theorem d_PI_paintRectangle_48 : decode b_PI_paintRectangle 48 = .ok (.iinc 7 1, 3) := by decide +kernel
theorem d_PI_paintRectangle_51 : decode b_PI_paintRectangle 51 = .ok (.goto (-45), 3) := by decide +kernel
theorem d_PI_paintRectangle_54 : decode b_PI_paintRectangle 54 = .ok (.iload 6, 2) := by decide +kernel
theorem d_PI_paintRectangle_56 : decode b_PI_paintRectangle 56 = .ok (.ireturn, 1) := by decide +kernel
theorem d_PI_paintAll_0 : decode b_PI_paintAll 0 = .ok (.aload_n 0, 1) := by decide +kernel
theorem d_PI_paintAll_1 : decode b_PI_paintAll 1 = .ok (.getfield 18, 3) := by decide +kernel
theorem d_PI_paintAll_4 : decode b_PI_paintAll 4 = .ok (.iload_n 1, 1) := by decide +kernel
theorem d_PI_paintAll_5 : decode b_PI_paintAll 5 = .ok (.invokestatic 30, 3) := by decide +kernel
theorem d_PI_paintAll_8 : decode b_PI_paintAll 8 = .ok (.return_, 1) := by decide +kernel
theorem d_PI_paintCopy_0 : decode b_PI_paintCopy 0 = .ok (.iload_n 1, 1) := by decide +kernel
theorem d_PI_paintCopy_1 : decode b_PI_paintCopy 1 = .ok (.istore 6, 2) := by decide +kernel
theorem d_PI_paintCopy_3 : decode b_PI_paintCopy 3 = .ok (.iload 6, 2) := by decide +kernel
theorem d_PI_paintCopy_5 : decode b_PI_paintCopy 5 = .ok (.iload_n 1, 1) := by decide +kernel
theorem d_PI_paintCopy_6 : decode b_PI_paintCopy 6 = .ok (.iload_n 3, 1) := by decide +kernel
theorem d_PI_paintCopy_7 : decode b_PI_paintCopy 7 = .ok (.iadd, 1) := by decide +kernel
theorem d_PI_paintCopy_8 : decode b_PI_paintCopy 8 = .ok (.if_icmp .ge 30, 3) := by decide +kernel
theorem d_PI_paintCopy_11 : decode b_PI_paintCopy 11 = .ok (.aload_n 0, 1) := by decide +kernel
theorem d_PI_paintCopy_12 : decode b_PI_paintCopy 12 = .ok (.iload 6, 2) := by decide +kernel
theorem d_PI_paintCopy_14 : decode b_PI_paintCopy 14 = .ok (.iload_n 2, 1) := by decide +kernel
theorem d_PI_paintCopy_15 : decode b_PI_paintCopy 15 = .ok (.aload_n 0, 1) := by decide +kernel
theorem d_PI_paintCopy_16 : decode b_PI_paintCopy 16 = .ok (.iload 6, 2) := by decide +kernel
theorem d_PI_paintCopy_18 : decode b_PI_paintCopy 18 = .ok (.iload 4, 2) := by decide +kernel
theorem d_PI_paintCopy_20 : decode b_PI_paintCopy 20 = .ok (.iadd, 1) := by decide +kernel
theorem d_PI_paintCopy_21 : decode b_PI_paintCopy 21 = .ok (.iload_n 2, 1) := by decide +kernel
theorem d_PI_paintCopy_22 : decode b_PI_paintCopy 22 = .ok (.iload 5, 2) := by decide +kernel
theorem d_PI_paintCopy_24 : decode b_PI_paintCopy 24 = .ok (.isub, 1) := by decide +kernel
theorem d_PI_paintCopy_25 : decode b_PI_paintCopy 25 = .ok (.invokevirtual 36, 3) := by decide +kernel
theorem d_PI_paintCopy_28 : decode b_PI_paintCopy 28 = .ok (.invokevirtual 26, 3) := by decide +kernel
theorem d_PI_paintCopy_31 : decode b_PI_paintCopy 31 = .ok (.pop, 1) := by decide +kernel
theorem d_PI_paintCopy_32 : decode b_PI_paintCopy 32 = .ok (.iinc 6 1, 3) := by decide +kernel
theorem d_PI_paintCopy_35 : decode b_PI_paintCopy 35 = .ok (.goto (-32), 3) := by decide +kernel
theorem d_PI_paintCopy_38 : decode b_PI_paintCopy 38 = .ok (.return_, 1) := by decide +kernel
theorem d_PI_takeFrom_0 : decode b_PI_takeFrom 0 = .ok (.iconst 0, 1) := by decide +kernel
theorem d_PI_takeFrom_1 : decode b_PI_takeFrom 1 = .ok (.istore_n 2, 1) := by decide +kernel
theorem d_PI_takeFrom_2 : decode b_PI_takeFrom 2 = .ok (.iload_n 2, 1) := by decide +kernel
theorem d_PI_takeFrom_3 : decode b_PI_takeFrom 3 = .ok (.aload_n 0, 1) := by decide +kernel
theorem d_PI_takeFrom_4 : decode b_PI_takeFrom 4 = .ok (.getfield 18, 3) := by decide +kernel
theorem d_PI_takeFrom_7 : decode b_PI_takeFrom 7 = .ok (.arraylength, 1) := by decide +kernel
theorem d_PI_takeFrom_8 : decode b_PI_takeFrom 8 = .ok (.if_icmp .ge 30, 3) := by decide +kernel
theorem d_PI_takeFrom_11 : decode b_PI_takeFrom 11 = .ok (.iload_n 2, 1) := by decide +kernel
theorem d_PI_takeFrom_12 : decode b_PI_takeFrom 12 = .ok (.aload_n 1, 1) := by decide +kernel
theorem d_PI_takeFrom_13 : decode b_PI_takeFrom 13 = .ok (.getfield 18, 3) := by decide +kernel
theorem d_PI_takeFrom_16 : decode b_PI_takeFrom 16 = .ok (.arraylength, 1) := by decide +kernel
theorem d_PI_takeFrom_17 : decode b_PI_takeFrom 17 = .ok (.if_icmp .ge 21, 3) := by decide +kernel
theorem d_PI_takeFrom_20 : decode b_PI_takeFrom 20 = .ok (.aload_n 0, 1) := by decide +kernel
theorem d_PI_takeFrom_21 : decode b_PI_takeFrom 21 = .ok (.getfield 18, 3) := by decide +kernel
theorem d_PI_takeFrom_24 : decode b_PI_takeFrom 24 = .ok (.iload_n 2, 1) := by decide +kernel
theorem d_PI_takeFrom_25 : decode b_PI_takeFrom 25 = .ok (.aload_n 1, 1) := by decide +kernel
theorem d_PI_takeFrom_26 : decode b_PI_takeFrom 26 = .ok (.getfield 18, 3) := by decide +kernel
theorem d_PI_takeFrom_29 : decode b_PI_takeFrom 29 = .ok (.iload_n 2, 1) := by decide +kernel
theorem d_PI_takeFrom_30 : decode b_PI_takeFrom 30 = .ok (.iaload, 1) := by decide +kernel
theorem d_PI_takeFrom_31 : decode b_PI_takeFrom 31 = .ok (.iastore, 1) := by decide +kernel
theorem d_PI_takeFrom_32 : decode b_PI_takeFrom 32 = .ok (.iinc 2 1, 3) := by decide +kernel
theorem d_PI_takeFrom_35 : decode b_PI_takeFrom 35 = .ok (.goto (-33), 3) := by decide +kernel
theorem d_PI_takeFrom_38 : decode b_PI_takeFrom 38 = .ok (.return_, 1) := by decide +kernel
theorem d_PI_differences_0 : decode b_PI_differences 0 = .ok (.iconst 0, 1) := by decide +kernel
theorem d_PI_differences_1 : decode b_PI_differences 1 = .ok (.istore_n 2, 1) := by decide +kernel
theorem d_PI_differences_2 : decode b_PI_differences 2 = .ok (.iconst 0, 1) := by decide +kernel
theorem d_PI_differences_3 : decode b_PI_differences 3 = .ok (.istore_n 3, 1) := by decide +kernel
theorem d_PI_differences_4 : decode b_PI_differences 4 = .ok (.iload_n 3, 1) := by decide +kernel
theorem d_PI_differences_5 : decode b_PI_differences 5 = .ok (.aload_n 0, 1) := by decide +kernel
theorem d_PI_differences_6 : decode b_PI_differences 6 = .ok (.getfield 18, 3) := by decide +kernel
theorem d_PI_differences_9 : decode b_PI_differences 9 = .ok (.arraylength, 1) := by decide +kernel
theorem d_PI_differences_10 : decode b_PI_differences 10 = .ok (.if_icmp .ge 36, 3) := by decide +kernel
theorem d_PI_differences_13 : decode b_PI_differences 13 = .ok (.iload_n 3, 1) := by decide +kernel
theorem d_PI_differences_14 : decode b_PI_differences 14 = .ok (.aload_n 1, 1) := by decide +kernel
theorem d_PI_differences_15 : decode b_PI_differences 15 = .ok (.getfield 18, 3) := by decide +kernel
theorem d_PI_differences_18 : decode b_PI_differences 18 = .ok (.arraylength, 1) := by decide +kernel
theorem d_PI_differences_19 : decode b_PI_differences 19 = .ok (.if_icmp .ge 27, 3) := by decide +kernel
theorem d_PI_differences_22 : decode b_PI_differences 22 = .ok (.aload_n 0, 1) := by decide +kernel
theorem d_PI_differences_23 : decode b_PI_differences 23 = .ok (.getfield 18, 3) := by decide +kernel
theorem d_PI_differences_26 : decode b_PI_differences 26 = .ok (.iload_n 3, 1) := by decide +kernel
theorem d_PI_differences_27 : decode b_PI_differences 27 = .ok (.iaload, 1) := by decide +kernel
theorem d_PI_differences_28 : decode b_PI_differences 28 = .ok (.aload_n 1, 1) := by decide +kernel
theorem d_PI_differences_29 : decode b_PI_differences 29 = .ok (.getfield 18, 3) := by decide +kernel
theorem d_PI_differences_32 : decode b_PI_differences 32 = .ok (.iload_n 3, 1) := by decide +kernel
theorem d_PI_differences_33 : decode b_PI_differences 33 = .ok (.iaload, 1) := by decide +kernel
theorem d_PI_differences_34 : decode b_PI_differences 34 = .ok (.if_icmp .eq 6, 3) := by decide +kernel
theorem d_PI_differences_37 : decode b_PI_differences 37 = .ok (.iinc 2 1, 3) := by decide +kernel
theorem d_PI_differences_40 : decode b_PI_differences 40 = .ok (.iinc 3 1, 3) := by decide +kernel
theorem d_PI_differences_43 : decode b_PI_differences 43 = .ok (.goto (-39), 3) := by decide +kernel
theorem d_PI_differences_46 : decode b_PI_differences 46 = .ok (.iload_n 2, 1) := by decide +kernel
theorem d_PI_differences_47 : decode b_PI_differences 47 = .ok (.ireturn, 1) := by decide +kernel
theorem d_AR_fill_0 : decode b_AR_fill 0 = .ok (.iconst 0, 1) := by decide +kernel
theorem d_AR_fill_1 : decode b_AR_fill 1 = .ok (.istore_n 2, 1) := by decide +kernel
theorem d_AR_fill_2 : decode b_AR_fill 2 = .ok (.aload_n 0, 1) := by decide +kernel
theorem d_AR_fill_3 : decode b_AR_fill 3 = .ok (.arraylength, 1) := by decide +kernel
theorem d_AR_fill_4 : decode b_AR_fill 4 = .ok (.istore_n 3, 1) := by decide +kernel
theorem d_AR_fill_5 : decode b_AR_fill 5 = .ok (.iload_n 2, 1) := by decide +kernel
theorem d_AR_fill_6 : decode b_AR_fill 6 = .ok (.iload_n 3, 1) := by decide +kernel
theorem d_AR_fill_7 : decode b_AR_fill 7 = .ok (.if_icmp .ge 13, 3) := by decide +kernel
theorem d_AR_fill_10 : decode b_AR_fill 10 = .ok (.aload_n 0, 1) := by decide +kernel
theorem d_AR_fill_11 : decode b_AR_fill 11 = .ok (.iload_n 2, 1) := by decide +kernel
theorem d_AR_fill_12 : decode b_AR_fill 12 = .ok (.iload_n 1, 1) := by decide +kernel
theorem d_AR_fill_13 : decode b_AR_fill 13 = .ok (.iastore, 1) := by decide +kernel
theorem d_AR_fill_14 : decode b_AR_fill 14 = .ok (.iinc 2 1, 3) := by decide +kernel
theorem d_AR_fill_17 : decode b_AR_fill 17 = .ok (.goto (-12), 3) := by decide +kernel
theorem d_AR_fill_20 : decode b_AR_fill 20 = .ok (.return_, 1) := by decide +kernel
