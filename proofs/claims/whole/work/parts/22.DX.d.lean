theorem vw_DF_170 : VW R_DF 170 R_PI y_PI_has b_PI_has 3 (some .boolean) := ⟨aw_mem (List.mem_of_getElem? (i := 390) (by decide +kernel)) (by decide +kernel), aw_mem (List.mem_of_getElem? (i := 200) (by decide +kernel)) (by decide +kernel), aw_mem (List.mem_of_getElem? (i := 201) (by decide +kernel)) (by decide +kernel), aw_mem (List.mem_of_getElem? (i := 29) (by decide +kernel)) (by decide +kernel), aw_mem (List.mem_of_getElem? (i := 202) (by decide +kernel)) (by decide +kernel)⟩
theorem vw_DF_47 : VW R_DF 47 R_DF y_DF_requireSample b_DF_requireSample 3 (none) := ⟨aw_mem (List.mem_of_getElem? (i := 386) (by decide +kernel)) (by decide +kernel), aw_mem (List.mem_of_getElem? (i := 388) (by decide +kernel)) (by decide +kernel), aw_mem (List.mem_of_getElem? (i := 10) (by decide +kernel)) (by decide +kernel), aw_mem (List.mem_of_getElem? (i := 27) (by decide +kernel)) (by decide +kernel), aw_mem (List.mem_of_getElem? (i := 389) (by decide +kernel)) (by decide +kernel)⟩
theorem md_DF_requireSample : MD y_DF_requireSample 2 := by decide +kernel
theorem sw_DF_50 : SW R_DF 50 y_DF_requireByte b_DF_requireByte 1 (none) := ⟨aw_mem (List.mem_of_getElem? (i := 459) (by decide +kernel)) (by decide +kernel), aw_mem (List.mem_of_getElem? (i := 460) (by decide +kernel)) (by decide +kernel), aw_mem (List.mem_of_getElem? (i := 27) (by decide +kernel)) (by decide +kernel), aw_mem (List.mem_of_getElem? (i := 461) (by decide +kernel)) (by decide +kernel)⟩
theorem md_DF_requireByte : MD y_DF_requireByte 1 := by decide +kernel
theorem vw_DF_53 : VW R_DF 53 R_PI y_PI_paint b_PI_paint 6 (some .boolean) := ⟨aw_mem (List.mem_of_getElem? (i := 478) (by decide +kernel)) (by decide +kernel), aw_mem (List.mem_of_getElem? (i := 310) (by decide +kernel)) (by decide +kernel), aw_mem (List.mem_of_getElem? (i := 311) (by decide +kernel)) (by decide +kernel), aw_mem (List.mem_of_getElem? (i := 29) (by decide +kernel)) (by decide +kernel), aw_mem (List.mem_of_getElem? (i := 312) (by decide +kernel)) (by decide +kernel)⟩
theorem vw_DF_77 : VW R_DF 77 R_PI y_PI_paintRectangle b_PI_paintRectangle 9 (some .int) := ⟨aw_mem (List.mem_of_getElem? (i := 487) (by decide +kernel)) (by decide +kernel), aw_mem (List.mem_of_getElem? (i := 306) (by decide +kernel)) (by decide +kernel), aw_mem (List.mem_of_getElem? (i := 307) (by decide +kernel)) (by decide +kernel), aw_mem (List.mem_of_getElem? (i := 29) (by decide +kernel)) (by decide +kernel), aw_mem (List.mem_of_getElem? (i := 308) (by decide +kernel)) (by decide +kernel)⟩
theorem vw_DF_81 : VW R_DF 81 R_PI y_PI_value b_PI_value 3 (some .int) := ⟨aw_mem (List.mem_of_getElem? (i := 495) (by decide +kernel)) (by decide +kernel), aw_mem (List.mem_of_getElem? (i := 208) (by decide +kernel)) (by decide +kernel), aw_mem (List.mem_of_getElem? (i := 209) (by decide +kernel)) (by decide +kernel), aw_mem (List.mem_of_getElem? (i := 29) (by decide +kernel)) (by decide +kernel), aw_mem (List.mem_of_getElem? (i := 210) (by decide +kernel)) (by decide +kernel)⟩
theorem vw_DF_100 : VW R_DF 100 R_BR y_BR_get b_BR_get 2 (some .int) := ⟨aw_mem (List.mem_of_getElem? (i := 511) (by decide +kernel)) (by decide +kernel), aw_mem (List.mem_of_getElem? (i := 276) (by decide +kernel)) (by decide +kernel), aw_mem (List.mem_of_getElem? (i := 277) (by decide +kernel)) (by decide +kernel), aw_mem (List.mem_of_getElem? (i := 32) (by decide +kernel)) (by decide +kernel), aw_mem (List.mem_of_getElem? (i := 278) (by decide +kernel)) (by decide +kernel)⟩
theorem vw_DF_114 : VW R_DF 114 R_PL y_PL_field b_PL_field 4 (some .int) := ⟨aw_mem (List.mem_of_getElem? (i := 521) (by decide +kernel)) (by decide +kernel), aw_mem (List.mem_of_getElem? (i := 256) (by decide +kernel)) (by decide +kernel), aw_mem (List.mem_of_getElem? (i := 257) (by decide +kernel)) (by decide +kernel), aw_mem (List.mem_of_getElem? (i := 31) (by decide +kernel)) (by decide +kernel), aw_mem (List.mem_of_getElem? (i := 258) (by decide +kernel)) (by decide +kernel)⟩
theorem vw_DF_126 : VW R_DF 126 R_BR y_BR_add b_BR_add 2 (none) := ⟨aw_mem (List.mem_of_getElem? (i := 546) (by decide +kernel)) (by decide +kernel), aw_mem (List.mem_of_getElem? (i := 248) (by decide +kernel)) (by decide +kernel), aw_mem (List.mem_of_getElem? (i := 249) (by decide +kernel)) (by decide +kernel), aw_mem (List.mem_of_getElem? (i := 32) (by decide +kernel)) (by decide +kernel), aw_mem (List.mem_of_getElem? (i := 250) (by decide +kernel)) (by decide +kernel)⟩
theorem vw_DF_129 : VW R_DF 129 R_BR y_BR_addAll b_BR_addAll 3 (none) := ⟨aw_mem (List.mem_of_getElem? (i := 554) (by decide +kernel)) (by decide +kernel), aw_mem (List.mem_of_getElem? (i := 555) (by decide +kernel)) (by decide +kernel), aw_mem (List.mem_of_getElem? (i := 556) (by decide +kernel)) (by decide +kernel), aw_mem (List.mem_of_getElem? (i := 32) (by decide +kernel)) (by decide +kernel), aw_mem (List.mem_of_getElem? (i := 557) (by decide +kernel)) (by decide +kernel)⟩
theorem md_BR_addAll : MD y_BR_addAll 1 := by decide +kernel
theorem oa_DF_99 : ∀ w ∈ Bundle.ownAtoms R_DF 99 E_ix E_up, w ∈ AW ∨ w ∈ XW := oa_all (ps := [some 34, some 413, some 422, some 426, some 429, some 431, some 414, some 415, some 49, some 50, some 416, some 421, some 427, some 447, some 403, some 448, some 405, some 449, some 407, some 417, none, some 419, none, some 409, some 443, some 444, some 446, some 409, some 434, some 435, some 436, some 437, none, some 437, some 438, some 439, some 440, none, some 440, some 441, some 442, some 443, none, some 433, some 392, none, some 400, some 401, some 402, some 404, some 406, some 408, none, none, some 412, some 411, some 410]) (by decide +kernel) (by decide +kernel)
theorem xw_DF_95_174 : XWS R_DF 95 174 99 E_ix "no such sample" := ⟨aw_mem (List.mem_of_getElem? (i := 391) (by decide +kernel)) (by decide +kernel), aw_mem (List.mem_of_getElem? (i := 37) (by decide +kernel)) (by decide +kernel), aw_mem (List.mem_of_getElem? (i := 392) (by decide +kernel)) (by decide +kernel), by decide +kernel, rfl, by decide +kernel, oa_DF_99⟩
theorem oa_DF_61 : ∀ w ∈ Bundle.ownAtoms R_DF 61 E_ia E_up, w ∈ AW ∨ w ∈ XW := oa_all (ps := [some 34, some 413, some 422, some 426, some 429, some 431, some 414, some 415, some 49, some 50, some 416, some 421, some 427, some 447, some 403, some 448, some 405, some 449, some 407, some 417, none, some 419, none, some 409, some 443, some 444, some 446, some 409, some 473, some 474, some 475, some 437, none, some 437, some 438, some 439, some 440, none, some 440, some 441, some 442, some 443, none, some 472, some 463, none, some 465, some 424, some 466, some 467, some 468, some 469, none, none, some 412, some 411, some 470]) (by decide +kernel) (by decide +kernel)
theorem xw_DF_57_176 : XWS R_DF 57 176 61 E_ia "not 0 to 255" := ⟨aw_mem (List.mem_of_getElem? (i := 462) (by decide +kernel)) (by decide +kernel), aw_mem (List.mem_of_getElem? (i := 38) (by decide +kernel)) (by decide +kernel), aw_mem (List.mem_of_getElem? (i := 463) (by decide +kernel)) (by decide +kernel), by decide +kernel, rfl, by decide +kernel, oa_DF_61⟩
theorem xw_DF_57_59 : XWS R_DF 57 59 61 E_ia "a width or height below 1" := ⟨aw_mem (List.mem_of_getElem? (i := 462) (by decide +kernel)) (by decide +kernel), aw_mem (List.mem_of_getElem? (i := 38) (by decide +kernel)) (by decide +kernel), aw_mem (List.mem_of_getElem? (i := 463) (by decide +kernel)) (by decide +kernel), by decide +kernel, rfl, by decide +kernel, oa_DF_61⟩
theorem xw_DF_95_97 : XWS R_DF 95 97 99 E_ix "no such byte" := ⟨aw_mem (List.mem_of_getElem? (i := 391) (by decide +kernel)) (by decide +kernel), aw_mem (List.mem_of_getElem? (i := 37) (by decide +kernel)) (by decide +kernel), aw_mem (List.mem_of_getElem? (i := 392) (by decide +kernel)) (by decide +kernel), by decide +kernel, rfl, by decide +kernel, oa_DF_99⟩
theorem xw_DF_95_110 : XWS R_DF 95 110 99 E_ix "no such part" := ⟨aw_mem (List.mem_of_getElem? (i := 391) (by decide +kernel)) (by decide +kernel), aw_mem (List.mem_of_getElem? (i := 37) (by decide +kernel)) (by decide +kernel), aw_mem (List.mem_of_getElem? (i := 392) (by decide +kernel)) (by decide +kernel), by decide +kernel, rfl, by decide +kernel, oa_DF_99⟩
theorem xw_DF_57_112 : XWS R_DF 57 112 61 E_ia "no such thing of a part" := ⟨aw_mem (List.mem_of_getElem? (i := 462) (by decide +kernel)) (by decide +kernel), aw_mem (List.mem_of_getElem? (i := 38) (by decide +kernel)) (by decide +kernel), aw_mem (List.mem_of_getElem? (i := 463) (by decide +kernel)) (by decide +kernel), by decide +kernel, rfl, by decide +kernel, oa_DF_61⟩
theorem oa_DF_125 : ∀ w ∈ Bundle.ownAtoms R_DF 125 E_un E_up, w ∈ AW ∨ w ∈ XW := oa_all (ps := [some 34, some 413, some 422, some 426, some 429, some 431, some 414, some 415, some 49, some 50, some 416, some 421, some 427, some 447, some 403, some 448, some 405, some 449, some 407, some 417, none, some 419, none, some 409, some 443, some 444, some 446, some 409, some 541, some 542, some 543, some 437, none, some 437, some 438, some 439, some 440, none, some 440, some 441, some 442, some 443, none, some 540, some 531, none, some 533, some 425, some 534, some 535, some 536, some 537, none, none, some 412, some 411, some 538]) (by decide +kernel) (by decide +kernel)
theorem xw_DF_121_123 : XWS R_DF 121 123 125 E_un "too many bytes to be read" := ⟨aw_mem (List.mem_of_getElem? (i := 530) (by decide +kernel)) (by decide +kernel), aw_mem (List.mem_of_getElem? (i := 40) (by decide +kernel)) (by decide +kernel), aw_mem (List.mem_of_getElem? (i := 531) (by decide +kernel)) (by decide +kernel), by decide +kernel, rfl, by decide +kernel, oa_DF_125⟩
theorem d_DF_put_0 : decode b_DF_put 0 = .ok (.aload_n 0, 1) := by decide +kernel
theorem d_DF_put_1 : decode b_DF_put 1 = .ok (.iload_n 1, 1) := by decide +kernel
theorem d_DF_put_2 : decode b_DF_put 2 = .ok (.iload_n 2, 1) := by decide +kernel
theorem d_DF_put_3 : decode b_DF_put 3 = .ok (.invokevirtual 47, 3) := by decide +kernel
theorem d_DF_put_6 : decode b_DF_put 6 = .ok (.iload_n 3, 1) := by decide +kernel
theorem d_DF_put_7 : decode b_DF_put 7 = .ok (.invokestatic 50, 3) := by decide +kernel
theorem d_DF_put_10 : decode b_DF_put 10 = .ok (.aload_n 0, 1) := by decide +kernel
theorem d_DF_put_11 : decode b_DF_put 11 = .ok (.getfield 18, 3) := by decide +kernel
theorem d_DF_put_14 : decode b_DF_put 14 = .ok (.iload_n 1, 1) := by decide +kernel
theorem d_DF_put_15 : decode b_DF_put 15 = .ok (.iload_n 2, 1) := by decide +kernel
theorem d_DF_put_16 : decode b_DF_put 16 = .ok (.iload_n 3, 1) := by decide +kernel
theorem d_DF_put_17 : decode b_DF_put 17 = .ok (.invokevirtual 53, 3) := by decide +kernel
theorem d_DF_put_20 : decode b_DF_put 20 = .ok (.ireturn, 1) := by decide +kernel
theorem d_DF_box_0 : decode b_DF_box 0 = .ok (.aload_n 0, 1) := by decide +kernel
theorem d_DF_box_1 : decode b_DF_box 1 = .ok (.iload_n 1, 1) := by decide +kernel
theorem d_DF_box_2 : decode b_DF_box 2 = .ok (.iload_n 2, 1) := by decide +kernel
theorem d_DF_box_3 : decode b_DF_box 3 = .ok (.invokevirtual 47, 3) := by decide +kernel
theorem d_DF_box_6 : decode b_DF_box 6 = .ok (.iload 5, 2) := by decide +kernel
theorem d_DF_box_8 : decode b_DF_box 8 = .ok (.invokestatic 50, 3) := by decide +kernel
theorem d_DF_box_11 : decode b_DF_box 11 = .ok (.iload_n 3, 1) := by decide +kernel
theorem d_DF_box_12 : decode b_DF_box 12 = .ok (.iconst 1, 1) := by decide +kernel
theorem d_DF_box_13 : decode b_DF_box 13 = .ok (.if_icmp .lt 9, 3) := by decide +kernel
theorem d_DF_box_16 : decode b_DF_box 16 = .ok (.iload 4, 2) := by decide +kernel
theorem d_DF_box_18 : decode b_DF_box 18 = .ok (.iconst 1, 1) := by decide +kernel
theorem d_DF_box_19 : decode b_DF_box 19 = .ok (.if_icmp .ge 13, 3) := by decide +kernel
theorem d_DF_box_22 : decode b_DF_box 22 = .ok (.new 57, 3) := by decide +kernel
theorem d_DF_box_25 : decode b_DF_box 25 = .ok (.dup, 1) := by decide +kernel
theorem d_DF_box_26 : decode b_DF_box 26 = .ok (.ldc 59, 2) := by decide +kernel
theorem d_DF_box_28 : decode b_DF_box 28 = .ok (.invokespecial 61, 3) := by decide +kernel
theorem d_DF_box_31 : decode b_DF_box 31 = .ok (.athrow, 1) := by decide +kernel
theorem d_DF_box_32 : decode b_DF_box 32 = .ok (.iload_n 3, 1) := by decide +kernel
theorem d_DF_box_33 : decode b_DF_box 33 = .ok (.aload_n 0, 1) := by decide +kernel
theorem d_DF_box_34 : decode b_DF_box 34 = .ok (.getfield 18, 3) := by decide +kernel
theorem d_DF_box_37 : decode b_DF_box 37 = .ok (.getfield 64, 3) := by decide +kernel
theorem d_DF_box_40 : decode b_DF_box 40 = .ok (.iload_n 1, 1) := by decide +kernel
theorem d_DF_box_41 : decode b_DF_box 41 = .ok (.isub, 1) := by decide +kernel
theorem d_DF_box_42 : decode b_DF_box 42 = .ok (.invokestatic 68, 3) := by decide +kernel
theorem d_DF_box_45 : decode b_DF_box 45 = .ok (.istore 6, 2) := by decide +kernel
theorem d_DF_box_47 : decode b_DF_box 47 = .ok (.iload 4, 2) := by decide +kernel
theorem d_DF_box_49 : decode b_DF_box 49 = .ok (.aload_n 0, 1) := by decide +kernel
theorem d_DF_box_50 : decode b_DF_box 50 = .ok (.getfield 18, 3) := by decide +kernel
theorem d_DF_box_53 : decode b_DF_box 53 = .ok (.getfield 74, 3) := by decide +kernel
theorem d_DF_box_56 : decode b_DF_box 56 = .ok (.iload_n 2, 1) := by decide +kernel
theorem d_DF_box_57 : decode b_DF_box 57 = .ok (.isub, 1) := by decide +kernel
theorem d_DF_box_58 : decode b_DF_box 58 = .ok (.invokestatic 68, 3) := by decide +kernel
theorem d_DF_box_61 : decode b_DF_box 61 = .ok (.istore 7, 2) := by decide +kernel
theorem d_DF_box_63 : decode b_DF_box 63 = .ok (.aload_n 0, 1) := by decide +kernel
theorem d_DF_box_64 : decode b_DF_box 64 = .ok (.getfield 18, 3) := by decide +kernel
theorem d_DF_box_67 : decode b_DF_box 67 = .ok (.iload_n 1, 1) := by decide +kernel
theorem d_DF_box_68 : decode b_DF_box 68 = .ok (.iload_n 2, 1) := by decide +kernel
theorem d_DF_box_69 : decode b_DF_box 69 = .ok (.iload 6, 2) := by decide +kernel
theorem d_DF_box_71 : decode b_DF_box 71 = .ok (.iload 7, 2) := by decide +kernel
theorem d_DF_box_73 : decode b_DF_box 73 = .ok (.iload 5, 2) := by decide +kernel
theorem d_DF_box_75 : decode b_DF_box 75 = .ok (.invokevirtual 77, 3) := by decide +kernel
theorem d_DF_box_78 : decode b_DF_box 78 = .ok (.ireturn, 1) := by decide +kernel
theorem d_DF_at_0 : decode b_DF_at 0 = .ok (.aload_n 0, 1) := by decide +kernel
theorem d_DF_at_1 : decode b_DF_at 1 = .ok (.iload_n 1, 1) := by decide +kernel
theorem d_DF_at_2 : decode b_DF_at 2 = .ok (.iload_n 2, 1) := by decide +kernel
theorem d_DF_at_3 : decode b_DF_at 3 = .ok (.invokevirtual 47, 3) := by decide +kernel
theorem d_DF_at_6 : decode b_DF_at 6 = .ok (.aload_n 0, 1) := by decide +kernel
theorem d_DF_at_7 : decode b_DF_at 7 = .ok (.getfield 18, 3) := by decide +kernel
theorem d_DF_at_10 : decode b_DF_at 10 = .ok (.iload_n 1, 1) := by decide +kernel
theorem d_DF_at_11 : decode b_DF_at 11 = .ok (.iload_n 2, 1) := by decide +kernel
theorem d_DF_at_12 : decode b_DF_at 12 = .ok (.invokevirtual 81, 3) := by decide +kernel
theorem d_DF_at_15 : decode b_DF_at 15 = .ok (.ireturn, 1) := by decide +kernel
theorem d_DF_second_0 : decode b_DF_second 0 = .ok (.aload_n 0, 1) := by decide +kernel
theorem d_DF_second_1 : decode b_DF_second 1 = .ok (.iload_n 1, 1) := by decide +kernel
theorem d_DF_second_2 : decode b_DF_second 2 = .ok (.iload_n 2, 1) := by decide +kernel
theorem d_DF_second_3 : decode b_DF_second 3 = .ok (.invokevirtual 47, 3) := by decide +kernel
theorem d_DF_second_6 : decode b_DF_second 6 = .ok (.iload_n 3, 1) := by decide +kernel
theorem d_DF_second_7 : decode b_DF_second 7 = .ok (.invokestatic 50, 3) := by decide +kernel
theorem d_DF_second_10 : decode b_DF_second 10 = .ok (.aload_n 0, 1) := by decide +kernel
theorem d_DF_second_11 : decode b_DF_second 11 = .ok (.getfield 22, 3) := by decide +kernel
theorem d_DF_second_14 : decode b_DF_second 14 = .ok (.iload_n 1, 1) := by decide +kernel
theorem d_DF_second_15 : decode b_DF_second 15 = .ok (.iload_n 2, 1) := by decide +kernel
theorem d_DF_second_16 : decode b_DF_second 16 = .ok (.iload_n 3, 1) := by decide +kernel
theorem d_DF_second_17 : decode b_DF_second 17 = .ok (.invokevirtual 53, 3) := by decide +kernel
theorem d_DF_second_20 : decode b_DF_second 20 = .ok (.ireturn, 1) := by decide +kernel
theorem d_DF_byteAt_0 : decode b_DF_byteAt 0 = .ok (.iload_n 1, 1) := by decide +kernel
theorem d_DF_byteAt_1 : decode b_DF_byteAt 1 = .ok (.ifCond .lt 14, 3) := by decide +kernel
theorem d_DF_byteAt_4 : decode b_DF_byteAt 4 = .ok (.iload_n 1, 1) := by decide +kernel
theorem d_DF_byteAt_5 : decode b_DF_byteAt 5 = .ok (.aload_n 0, 1) := by decide +kernel
theorem d_DF_byteAt_6 : decode b_DF_byteAt 6 = .ok (.getfield 40, 3) := by decide +kernel
theorem d_DF_byteAt_9 : decode b_DF_byteAt 9 = .ok (.getfield 92, 3) := by decide +kernel
theorem d_DF_byteAt_12 : decode b_DF_byteAt 12 = .ok (.if_icmp .lt 13, 3) := by decide +kernel
theorem d_DF_byteAt_15 : decode b_DF_byteAt 15 = .ok (.new 95, 3) := by decide +kernel
theorem d_DF_byteAt_18 : decode b_DF_byteAt 18 = .ok (.dup, 1) := by decide +kernel
theorem d_DF_byteAt_19 : decode b_DF_byteAt 19 = .ok (.ldc 97, 2) := by decide +kernel
theorem d_DF_byteAt_21 : decode b_DF_byteAt 21 = .ok (.invokespecial 99, 3) := by decide +kernel
theorem d_DF_byteAt_24 : decode b_DF_byteAt 24 = .ok (.athrow, 1) := by decide +kernel
theorem d_DF_byteAt_25 : decode b_DF_byteAt 25 = .ok (.aload_n 0, 1) := by decide +kernel
theorem d_DF_byteAt_26 : decode b_DF_byteAt 26 = .ok (.getfield 40, 3) := by decide +kernel
theorem d_DF_byteAt_29 : decode b_DF_byteAt 29 = .ok (.iload_n 1, 1) := by decide +kernel
theorem d_DF_byteAt_30 : decode b_DF_byteAt 30 = .ok (.invokevirtual 100, 3) := by decide +kernel
theorem d_DF_byteAt_33 : decode b_DF_byteAt 33 = .ok (.ireturn, 1) := by decide +kernel
theorem d_DF_part_0 : decode b_DF_part 0 = .ok (.iload_n 1, 1) := by decide +kernel
theorem d_DF_part_1 : decode b_DF_part 1 = .ok (.ifCond .lt 17, 3) := by decide +kernel
theorem d_DF_part_4 : decode b_DF_part 4 = .ok (.iload_n 1, 1) := by decide +kernel
theorem d_DF_part_5 : decode b_DF_part 5 = .ok (.aload_n 0, 1) := by decide +kernel
theorem d_DF_part_6 : decode b_DF_part 6 = .ok (.getfield 33, 3) := by decide +kernel
theorem d_DF_part_9 : decode b_DF_part 9 = .ok (.getfield 103, 3) := by decide +kernel
theorem d_DF_part_12 : decode b_DF_part 12 = .ok (.getfield 107, 3) := by decide +kernel
theorem d_DF_part_15 : decode b_DF_part 15 = .ok (.if_icmp .lt 13, 3) := by decide +kernel
theorem d_DF_part_18 : decode b_DF_part 18 = .ok (.new 95, 3) := by decide +kernel
theorem d_DF_part_21 : decode b_DF_part 21 = .ok (.dup, 1) := by decide +kernel
theorem d_DF_part_22 : decode b_DF_part 22 = .ok (.ldc 110, 2) := by decide +kernel
theorem d_DF_part_24 : decode b_DF_part 24 = .ok (.invokespecial 99, 3) := by decide +kernel
theorem d_DF_part_27 : decode b_DF_part 27 = .ok (.athrow, 1) := by decide +kernel
theorem d_DF_part_28 : decode b_DF_part 28 = .ok (.iload_n 2, 1) := by decide +kernel
theorem d_DF_part_29 : decode b_DF_part 29 = .ok (.ifCond .lt 9, 3) := by decide +kernel
theorem d_DF_part_32 : decode b_DF_part 32 = .ok (.iload_n 2, 1) := by decide +kernel
theorem d_DF_part_33 : decode b_DF_part 33 = .ok (.bipush 6, 2) := by decide +kernel
theorem d_DF_part_35 : decode b_DF_part 35 = .ok (.if_icmp .lt 13, 3) := by decide +kernel
theorem d_DF_part_38 : decode b_DF_part 38 = .ok (.new 57, 3) := by decide +kernel
theorem d_DF_part_41 : decode b_DF_part 41 = .ok (.dup, 1) := by decide +kernel
theorem d_DF_part_42 : decode b_DF_part 42 = .ok (.ldc 112, 2) := by decide +kernel
theorem d_DF_part_44 : decode b_DF_part 44 = .ok (.invokespecial 61, 3) := by decide +kernel
theorem d_DF_part_47 : decode b_DF_part 47 = .ok (.athrow, 1) := by decide +kernel
theorem d_DF_part_48 : decode b_DF_part 48 = .ok (.aload_n 0, 1) := by decide +kernel
theorem d_DF_part_49 : decode b_DF_part 49 = .ok (.getfield 33, 3) := by decide +kernel
theorem d_DF_part_52 : decode b_DF_part 52 = .ok (.getfield 103, 3) := by decide +kernel
theorem d_DF_part_55 : decode b_DF_part 55 = .ok (.iload_n 1, 1) := by decide +kernel
theorem d_DF_part_56 : decode b_DF_part 56 = .ok (.iload_n 2, 1) := by decide +kernel
theorem d_DF_part_57 : decode b_DF_part 57 = .ok (.invokevirtual 114, 3) := by decide +kernel
theorem d_DF_part_60 : decode b_DF_part 60 = .ok (.ireturn, 1) := by decide +kernel
theorem d_DF_feed_0 : decode b_DF_feed 0 = .ok (.iload_n 1, 1) := by decide +kernel
theorem d_DF_feed_1 : decode b_DF_feed 1 = .ok (.invokestatic 50, 3) := by decide +kernel
theorem d_DF_feed_4 : decode b_DF_feed 4 = .ok (.aload_n 0, 1) := by decide +kernel
theorem d_DF_feed_5 : decode b_DF_feed 5 = .ok (.getfield 44, 3) := by decide +kernel
theorem d_DF_feed_8 : decode b_DF_feed 8 = .ok (.getfield 92, 3) := by decide +kernel
theorem d_DF_feed_11 : decode b_DF_feed 11 = .ok (.sipush 4000, 3) := by decide +kernel
theorem d_DF_feed_14 : decode b_DF_feed 14 = .ok (.if_icmp .lt 13, 3) := by decide +kernel
theorem d_DF_feed_17 : decode b_DF_feed 17 = .ok (.new 121, 3) := by decide +kernel
theorem d_DF_feed_20 : decode b_DF_feed 20 = .ok (.dup, 1) := by decide +kernel
theorem d_DF_feed_21 : decode b_DF_feed 21 = .ok (.ldc 123, 2) := by decide +kernel
theorem d_DF_feed_23 : decode b_DF_feed 23 = .ok (.invokespecial 125, 3) := by decide +kernel
theorem d_DF_feed_26 : decode b_DF_feed 26 = .ok (.athrow, 1) := by decide +kernel
theorem d_DF_feed_27 : decode b_DF_feed 27 = .ok (.aload_n 0, 1) := by decide +kernel
theorem d_DF_feed_28 : decode b_DF_feed 28 = .ok (.getfield 44, 3) := by decide +kernel
theorem d_DF_feed_31 : decode b_DF_feed 31 = .ok (.iload_n 1, 1) := by decide +kernel
theorem d_DF_feed_32 : decode b_DF_feed 32 = .ok (.invokevirtual 126, 3) := by decide +kernel
theorem d_DF_feed_35 : decode b_DF_feed 35 = .ok (.aload_n 0, 1) := by decide +kernel
theorem d_DF_feed_36 : decode b_DF_feed 36 = .ok (.getfield 44, 3) := by decide +kernel
theorem d_DF_feed_39 : decode b_DF_feed 39 = .ok (.getfield 92, 3) := by decide +kernel
theorem d_DF_feed_42 : decode b_DF_feed 42 = .ok (.ireturn, 1) := by decide +kernel
theorem d_DF_pass_0 : decode b_DF_pass 0 = .ok (.aload_n 0, 1) := by decide +kernel
theorem d_DF_pass_1 : decode b_DF_pass 1 = .ok (.getfield 44, 3) := by decide +kernel
theorem d_DF_pass_4 : decode b_DF_pass 4 = .ok (.getfield 92, 3) := by decide +kernel
theorem d_DF_pass_7 : decode b_DF_pass 7 = .ok (.aload_n 0, 1) := by decide +kernel
theorem d_DF_pass_8 : decode b_DF_pass 8 = .ok (.getfield 40, 3) := by decide +kernel
theorem d_DF_pass_11 : decode b_DF_pass 11 = .ok (.getfield 92, 3) := by decide +kernel
theorem d_DF_pass_14 : decode b_DF_pass 14 = .ok (.iadd, 1) := by decide +kernel
theorem d_DF_pass_15 : decode b_DF_pass 15 = .ok (.sipush 4000, 3) := by decide +kernel
theorem d_DF_pass_18 : decode b_DF_pass 18 = .ok (.if_icmp .le 13, 3) := by decide +kernel
theorem d_DF_pass_21 : decode b_DF_pass 21 = .ok (.new 121, 3) := by decide +kernel
theorem d_DF_pass_24 : decode b_DF_pass 24 = .ok (.dup, 1) := by decide +kernel
theorem d_DF_pass_25 : decode b_DF_pass 25 = .ok (.ldc 123, 2) := by decide +kernel
theorem d_DF_pass_27 : decode b_DF_pass 27 = .ok (.invokespecial 125, 3) := by decide +kernel
theorem d_DF_pass_30 : decode b_DF_pass 30 = .ok (.athrow, 1) := by decide +kernel
theorem d_DF_pass_31 : decode b_DF_pass 31 = .ok (.aload_n 0, 1) := by decide +kernel
theorem d_DF_pass_32 : decode b_DF_pass 32 = .ok (.getfield 44, 3) := by decide +kernel
theorem d_DF_pass_35 : decode b_DF_pass 35 = .ok (.aload_n 0, 1) := by decide +kernel
theorem d_DF_pass_36 : decode b_DF_pass 36 = .ok (.getfield 40, 3) := by decide +kernel
theorem d_DF_pass_39 : decode b_DF_pass 39 = .ok (.invokevirtual 129, 3) := by decide +kernel
theorem d_DF_pass_42 : decode b_DF_pass 42 = .ok (.aload_n 0, 1) := by decide +kernel
theorem d_DF_pass_43 : decode b_DF_pass 43 = .ok (.getfield 44, 3) := by decide +kernel
theorem d_DF_pass_46 : decode b_DF_pass 46 = .ok (.getfield 92, 3) := by decide +kernel
theorem d_DF_pass_49 : decode b_DF_pass 49 = .ok (.ireturn, 1) := by decide +kernel
theorem d_DF_requireSample_0 : decode b_DF_requireSample 0 = .ok (.aload_n 0, 1) := by decide +kernel
theorem d_DF_requireSample_1 : decode b_DF_requireSample 1 = .ok (.getfield 18, 3) := by decide +kernel
theorem d_DF_requireSample_4 : decode b_DF_requireSample 4 = .ok (.iload_n 1, 1) := by decide +kernel
theorem d_DF_requireSample_5 : decode b_DF_requireSample 5 = .ok (.iload_n 2, 1) := by decide +kernel
theorem d_DF_requireSample_6 : decode b_DF_requireSample 6 = .ok (.invokevirtual 170, 3) := by decide +kernel
theorem d_DF_requireSample_9 : decode b_DF_requireSample 9 = .ok (.ifCond .ne 13, 3) := by decide +kernel
theorem d_DF_requireSample_12 : decode b_DF_requireSample 12 = .ok (.new 95, 3) := by decide +kernel
theorem d_DF_requireSample_15 : decode b_DF_requireSample 15 = .ok (.dup, 1) := by decide +kernel
theorem d_DF_requireSample_16 : decode b_DF_requireSample 16 = .ok (.ldc 174, 2) := by decide +kernel
theorem d_DF_requireSample_18 : decode b_DF_requireSample 18 = .ok (.invokespecial 99, 3) := by decide +kernel
theorem d_DF_requireSample_21 : decode b_DF_requireSample 21 = .ok (.athrow, 1) := by decide +kernel
theorem d_DF_requireSample_22 : decode b_DF_requireSample 22 = .ok (.return_, 1) := by decide +kernel
theorem d_DF_requireByte_0 : decode b_DF_requireByte 0 = .ok (.iload_n 0, 1) := by decide +kernel
theorem d_DF_requireByte_1 : decode b_DF_requireByte 1 = .ok (.ifCond .lt 10, 3) := by decide +kernel
theorem d_DF_requireByte_4 : decode b_DF_requireByte 4 = .ok (.iload_n 0, 1) := by decide +kernel
theorem d_DF_requireByte_5 : decode b_DF_requireByte 5 = .ok (.sipush 255, 3) := by decide +kernel
theorem d_DF_requireByte_8 : decode b_DF_requireByte 8 = .ok (.if_icmp .le 13, 3) := by decide +kernel
theorem d_DF_requireByte_11 : decode b_DF_requireByte 11 = .ok (.new 57, 3) := by decide +kernel
theorem d_DF_requireByte_14 : decode b_DF_requireByte 14 = .ok (.dup, 1) := by decide +kernel
theorem d_DF_requireByte_15 : decode b_DF_requireByte 15 = .ok (.ldc 176, 2) := by decide +kernel
theorem d_DF_requireByte_17 : decode b_DF_requireByte 17 = .ok (.invokespecial 61, 3) := by decide +kernel
theorem d_DF_requireByte_20 : decode b_DF_requireByte 20 = .ok (.athrow, 1) := by decide +kernel
theorem d_DF_requireByte_21 : decode b_DF_requireByte 21 = .ok (.return_, 1) := by decide +kernel
