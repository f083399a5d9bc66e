/-! the law's small methods: what they link, their decode rows, their pure functions, their contracts -/
theorem st_l_7 : f_sv "BottleReturnLaw" 7 y_b_contour c_b_contour 5 ((Option.none : Option Jvm.ClassFile.FieldType)) 4 := ⟨w_b_contour, (wt_in (List.mem_of_getElem? (i := 1) (by decide +kernel)) rfl), (wt_in (List.mem_of_getElem? (i := 312) (by decide +kernel)) rfl), ⟨(wt_in (List.mem_of_getElem? (i := 313) (by decide +kernel)) rfl), (wt_in (List.mem_of_getElem? (i := 314) (by decide +kernel)) rfl)⟩, ⟨by decide, by decide⟩, by decide +kernel⟩
theorem st_l_17 : f_sv "BottleReturnLaw" 17 y_b_kind c_b_kind 9 ((some FieldType.int)) 7 := ⟨w_b_kind, (wt_in (List.mem_of_getElem? (i := 1) (by decide +kernel)) rfl), (wt_in (List.mem_of_getElem? (i := 410) (by decide +kernel)) rfl), ⟨(wt_in (List.mem_of_getElem? (i := 411) (by decide +kernel)) rfl), (wt_in (List.mem_of_getElem? (i := 412) (by decide +kernel)) rfl)⟩, ⟨by decide, by decide⟩, by decide +kernel⟩
theorem st_l_21 : f_sv "BottleReturnLaw" 21 y_b_enter c_b_enter 2 ((some FieldType.int)) 1 := ⟨w_b_enter, (wt_in (List.mem_of_getElem? (i := 1) (by decide +kernel)) rfl), (wt_in (List.mem_of_getElem? (i := 434) (by decide +kernel)) rfl), ⟨(wt_in (List.mem_of_getElem? (i := 435) (by decide +kernel)) rfl), (wt_in (List.mem_of_getElem? (i := 436) (by decide +kernel)) rfl)⟩, ⟨by decide, by decide⟩, by decide +kernel⟩
theorem st_l_25 : f_sv "BottleReturnLaw" 25 y_b_code c_b_code 3 ((some FieldType.boolean)) 1 := ⟨w_b_code, (wt_in (List.mem_of_getElem? (i := 1) (by decide +kernel)) rfl), (wt_in (List.mem_of_getElem? (i := 451) (by decide +kernel)) rfl), ⟨(wt_in (List.mem_of_getElem? (i := 452) (by decide +kernel)) rfl), (wt_in (List.mem_of_getElem? (i := 453) (by decide +kernel)) rfl)⟩, ⟨by decide, by decide⟩, by decide +kernel⟩
theorem st_l_29 : f_sv "BottleReturnLaw" 29 y_b_width c_b_width 3 ((some FieldType.boolean)) 1 := ⟨w_b_width, (wt_in (List.mem_of_getElem? (i := 1) (by decide +kernel)) rfl), (wt_in (List.mem_of_getElem? (i := 475) (by decide +kernel)) rfl), ⟨(wt_in (List.mem_of_getElem? (i := 476) (by decide +kernel)) rfl), (wt_in (List.mem_of_getElem? (i := 477) (by decide +kernel)) rfl)⟩, ⟨by decide, by decide⟩, by decide +kernel⟩
theorem st_l_32 : f_sv "BottleReturnLaw" 32 y_b_weigh c_b_weigh 3 ((some FieldType.boolean)) 1 := ⟨w_b_weigh, (wt_in (List.mem_of_getElem? (i := 1) (by decide +kernel)) rfl), (wt_in (List.mem_of_getElem? (i := 482) (by decide +kernel)) rfl), ⟨(wt_in (List.mem_of_getElem? (i := 483) (by decide +kernel)) rfl), (wt_in (List.mem_of_getElem? (i := 484) (by decide +kernel)) rfl)⟩, ⟨by decide, by decide⟩, by decide +kernel⟩
theorem st_l_35 : f_sv "BottleReturnLaw" 35 y_b_forward c_b_forward 3 ((some FieldType.int)) 1 := ⟨w_b_forward, (wt_in (List.mem_of_getElem? (i := 1) (by decide +kernel)) rfl), (wt_in (List.mem_of_getElem? (i := 489) (by decide +kernel)) rfl), ⟨(wt_in (List.mem_of_getElem? (i := 490) (by decide +kernel)) rfl), (wt_in (List.mem_of_getElem? (i := 491) (by decide +kernel)) rfl)⟩, ⟨by decide, by decide⟩, by decide +kernel⟩
theorem st_l_38 : f_sv "BottleReturnLaw" 38 y_b_back c_b_back 4 ((some FieldType.int)) 1 := ⟨w_b_back, (wt_in (List.mem_of_getElem? (i := 1) (by decide +kernel)) rfl), (wt_in (List.mem_of_getElem? (i := 573) (by decide +kernel)) rfl), ⟨(wt_in (List.mem_of_getElem? (i := 574) (by decide +kernel)) rfl), (wt_in (List.mem_of_getElem? (i := 575) (by decide +kernel)) rfl)⟩, ⟨by decide, by decide⟩, by decide +kernel⟩
theorem st_l_41 : f_sv "BottleReturnLaw" 41 y_b_voucher c_b_voucher 2 ((some FieldType.int)) 0 := ⟨w_b_voucher, (wt_in (List.mem_of_getElem? (i := 1) (by decide +kernel)) rfl), (wt_in (List.mem_of_getElem? (i := 589) (by decide +kernel)) rfl), ⟨(wt_in (List.mem_of_getElem? (i := 590) (by decide +kernel)) rfl), (wt_in (List.mem_of_getElem? (i := 591) (by decide +kernel)) rfl)⟩, ⟨by decide, by decide⟩, by decide +kernel⟩
theorem st_l_45 : f_sv "BottleReturnLaw" 45 y_b_give c_b_give 2 ((some FieldType.int)) 0 := ⟨w_b_give, (wt_in (List.mem_of_getElem? (i := 1) (by decide +kernel)) rfl), (wt_in (List.mem_of_getElem? (i := 604) (by decide +kernel)) rfl), ⟨(wt_in (List.mem_of_getElem? (i := 605) (by decide +kernel)) rfl), (wt_in (List.mem_of_getElem? (i := 606) (by decide +kernel)) rfl)⟩, ⟨by decide, by decide⟩, by decide +kernel⟩
theorem st_l_48 : f_sv "BottleReturnLaw" 48 y_b_redeem c_b_redeem 3 ((some FieldType.int)) 1 := ⟨w_b_redeem, (wt_in (List.mem_of_getElem? (i := 1) (by decide +kernel)) rfl), (wt_in (List.mem_of_getElem? (i := 611) (by decide +kernel)) rfl), ⟨(wt_in (List.mem_of_getElem? (i := 612) (by decide +kernel)) rfl), (wt_in (List.mem_of_getElem? (i := 613) (by decide +kernel)) rfl)⟩, ⟨by decide, by decide⟩, by decide +kernel⟩
theorem st_l_51 : f_sv "BottleReturnLaw" 51 y_b_clear c_b_clear 1 ((some FieldType.int)) 0 := ⟨w_b_clear, (wt_in (List.mem_of_getElem? (i := 1) (by decide +kernel)) rfl), (wt_in (List.mem_of_getElem? (i := 626) (by decide +kernel)) rfl), ⟨(wt_in (List.mem_of_getElem? (i := 627) (by decide +kernel)) rfl), (wt_in (List.mem_of_getElem? (i := 628) (by decide +kernel)) rfl)⟩, ⟨by decide, by decide⟩, by decide +kernel⟩
theorem st_l_54 : f_sv "BottleReturnLaw" 54 y_b_empty c_b_empty 4 ((some FieldType.int)) 2 := ⟨w_b_empty, (wt_in (List.mem_of_getElem? (i := 1) (by decide +kernel)) rfl), (wt_in (List.mem_of_getElem? (i := 637) (by decide +kernel)) rfl), ⟨(wt_in (List.mem_of_getElem? (i := 638) (by decide +kernel)) rfl), (wt_in (List.mem_of_getElem? (i := 639) (by decide +kernel)) rfl)⟩, ⟨by decide, by decide⟩, by decide +kernel⟩
theorem st_l_58 : f_sv "BottleReturnLaw" 58 y_b_service c_b_service 2 ((some FieldType.boolean)) 0 := ⟨w_b_service, (wt_in (List.mem_of_getElem? (i := 1) (by decide +kernel)) rfl), (wt_in (List.mem_of_getElem? (i := 644) (by decide +kernel)) rfl), ⟨(wt_in (List.mem_of_getElem? (i := 645) (by decide +kernel)) rfl), (wt_in (List.mem_of_getElem? (i := 646) (by decide +kernel)) rfl)⟩, ⟨by decide, by decide⟩, by decide +kernel⟩
theorem st_l_62 : f_sv "BottleReturnLaw" 62 y_b_cut c_b_cut 2 ((Option.none : Option Jvm.ClassFile.FieldType)) 1 := ⟨w_b_cut, (wt_in (List.mem_of_getElem? (i := 1) (by decide +kernel)) rfl), (wt_in (List.mem_of_getElem? (i := 651) (by decide +kernel)) rfl), ⟨(wt_in (List.mem_of_getElem? (i := 652) (by decide +kernel)) rfl), (wt_in (List.mem_of_getElem? (i := 653) (by decide +kernel)) rfl)⟩, ⟨by decide, by decide⟩, by decide +kernel⟩
theorem st_l_66 : f_sv "BottleReturnLaw" 66 y_b_check c_b_check 5 ((some FieldType.boolean)) 2 := ⟨w_b_check, (wt_in (List.mem_of_getElem? (i := 1) (by decide +kernel)) rfl), (wt_in (List.mem_of_getElem? (i := 658) (by decide +kernel)) rfl), ⟨(wt_in (List.mem_of_getElem? (i := 659) (by decide +kernel)) rfl), (wt_in (List.mem_of_getElem? (i := 660) (by decide +kernel)) rfl)⟩, ⟨by decide, by decide⟩, by decide +kernel⟩
theorem st_l_70 : f_sv "BottleReturnLaw" 70 y_b_about c_b_about 4 ((some FieldType.int)) 2 := ⟨w_b_about, (wt_in (List.mem_of_getElem? (i := 1) (by decide +kernel)) rfl), (wt_in (List.mem_of_getElem? (i := 668) (by decide +kernel)) rfl), ⟨(wt_in (List.mem_of_getElem? (i := 669) (by decide +kernel)) rfl), (wt_in (List.mem_of_getElem? (i := 670) (by decide +kernel)) rfl)⟩, ⟨by decide, by decide⟩, by decide +kernel⟩
theorem st_l_73 : f_sv "BottleReturnLaw" 73 y_b_container c_b_container 4 ((some FieldType.int)) 2 := ⟨w_b_container, (wt_in (List.mem_of_getElem? (i := 1) (by decide +kernel)) rfl), (wt_in (List.mem_of_getElem? (i := 689) (by decide +kernel)) rfl), ⟨(wt_in (List.mem_of_getElem? (i := 690) (by decide +kernel)) rfl), (wt_in (List.mem_of_getElem? (i := 691) (by decide +kernel)) rfl)⟩, ⟨by decide, by decide⟩, by decide +kernel⟩
theorem st_l_76 : f_sv "BottleReturnLaw" 76 y_b_bin c_b_bin 3 ((some FieldType.int)) 2 := ⟨w_b_bin, (wt_in (List.mem_of_getElem? (i := 1) (by decide +kernel)) rfl), (wt_in (List.mem_of_getElem? (i := 700) (by decide +kernel)) rfl), ⟨(wt_in (List.mem_of_getElem? (i := 701) (by decide +kernel)) rfl), (wt_in (List.mem_of_getElem? (i := 702) (by decide +kernel)) rfl)⟩, ⟨by decide, by decide⟩, by decide +kernel⟩
theorem st_l_79 : f_sv "BottleReturnLaw" 79 y_b_total c_b_total 2 ((some FieldType.int)) 1 := ⟨w_b_total, (wt_in (List.mem_of_getElem? (i := 1) (by decide +kernel)) rfl), (wt_in (List.mem_of_getElem? (i := 707) (by decide +kernel)) rfl), ⟨(wt_in (List.mem_of_getElem? (i := 708) (by decide +kernel)) rfl), (wt_in (List.mem_of_getElem? (i := 709) (by decide +kernel)) rfl)⟩, ⟨by decide, by decide⟩, by decide +kernel⟩
theorem d_l_contour_0 : decode c_l_contour 0 = .ok (.aload_n 0, 1) := by decide +kernel
theorem d_l_contour_1 : decode c_l_contour 1 = .ok (.iload_n 1, 1) := by decide +kernel
theorem d_l_contour_2 : decode c_l_contour 2 = .ok (.iload_n 2, 1) := by decide +kernel
theorem d_l_contour_3 : decode c_l_contour 3 = .ok (.iload_n 3, 1) := by decide +kernel
theorem d_l_contour_4 : decode c_l_contour 4 = .ok (.iload 4, 2) := by decide +kernel
theorem d_l_contour_6 : decode c_l_contour 6 = .ok (.invokevirtual 7, 3) := by decide +kernel
theorem d_l_contour_9 : decode c_l_contour 9 = .ok (.goto 11, 3) := by decide +kernel
theorem d_l_contour_12 : decode c_l_contour 12 = .ok (.astore 5, 2) := by decide +kernel
theorem d_l_contour_14 : decode c_l_contour 14 = .ok (.iconst 1, 1) := by decide +kernel
theorem d_l_contour_15 : decode c_l_contour 15 = .ok (.ireturn, 1) := by decide +kernel
theorem d_l_contour_16 : decode c_l_contour 16 = .ok (.astore 5, 2) := by decide +kernel
theorem d_l_contour_18 : decode c_l_contour 18 = .ok (.iconst 2, 1) := by decide +kernel
theorem d_l_contour_19 : decode c_l_contour 19 = .ok (.ireturn, 1) := by decide +kernel
theorem d_l_contour_20 : decode c_l_contour 20 = .ok (.iconst 0, 1) := by decide +kernel
theorem d_l_contour_21 : decode c_l_contour 21 = .ok (.ireturn, 1) := by decide +kernel
theorem d_l_kind_0 : decode c_l_kind 0 = .ok (.aload 8, 2) := by decide +kernel
theorem d_l_kind_2 : decode c_l_kind 2 = .ok (.iconst 0, 1) := by decide +kernel
theorem d_l_kind_3 : decode c_l_kind 3 = .ok (.aload_n 0, 1) := by decide +kernel
theorem d_l_kind_4 : decode c_l_kind 4 = .ok (.iload_n 1, 1) := by decide +kernel
theorem d_l_kind_5 : decode c_l_kind 5 = .ok (.iload_n 2, 1) := by decide +kernel
theorem d_l_kind_6 : decode c_l_kind 6 = .ok (.iload_n 3, 1) := by decide +kernel
theorem d_l_kind_7 : decode c_l_kind 7 = .ok (.iload 4, 2) := by decide +kernel
theorem d_l_kind_9 : decode c_l_kind 9 = .ok (.iload 5, 2) := by decide +kernel
theorem d_l_kind_11 : decode c_l_kind 11 = .ok (.iload 6, 2) := by decide +kernel
theorem d_l_kind_13 : decode c_l_kind 13 = .ok (.iload 7, 2) := by decide +kernel
theorem d_l_kind_15 : decode c_l_kind 15 = .ok (.invokevirtual 17, 3) := by decide +kernel
theorem d_l_kind_18 : decode c_l_kind 18 = .ok (.i2l, 1) := by decide +kernel
theorem d_l_kind_19 : decode c_l_kind 19 = .ok (.lastore, 1) := by decide +kernel
theorem d_l_kind_20 : decode c_l_kind 20 = .ok (.goto 11, 3) := by decide +kernel
theorem d_l_kind_23 : decode c_l_kind 23 = .ok (.astore 9, 2) := by decide +kernel
theorem d_l_kind_25 : decode c_l_kind 25 = .ok (.iconst 1, 1) := by decide +kernel
theorem d_l_kind_26 : decode c_l_kind 26 = .ok (.ireturn, 1) := by decide +kernel
theorem d_l_kind_27 : decode c_l_kind 27 = .ok (.astore 9, 2) := by decide +kernel
theorem d_l_kind_29 : decode c_l_kind 29 = .ok (.iconst 2, 1) := by decide +kernel
theorem d_l_kind_30 : decode c_l_kind 30 = .ok (.ireturn, 1) := by decide +kernel
theorem d_l_kind_31 : decode c_l_kind 31 = .ok (.iconst 0, 1) := by decide +kernel
theorem d_l_kind_32 : decode c_l_kind 32 = .ok (.ireturn, 1) := by decide +kernel
theorem d_l_enter_0 : decode c_l_enter 0 = .ok (.aload_n 2, 1) := by decide +kernel
theorem d_l_enter_1 : decode c_l_enter 1 = .ok (.iconst 0, 1) := by decide +kernel
theorem d_l_enter_2 : decode c_l_enter 2 = .ok (.aload_n 0, 1) := by decide +kernel
theorem d_l_enter_3 : decode c_l_enter 3 = .ok (.iload_n 1, 1) := by decide +kernel
theorem d_l_enter_4 : decode c_l_enter 4 = .ok (.invokevirtual 21, 3) := by decide +kernel
theorem d_l_enter_7 : decode c_l_enter 7 = .ok (.i2l, 1) := by decide +kernel
theorem d_l_enter_8 : decode c_l_enter 8 = .ok (.lastore, 1) := by decide +kernel
theorem d_l_enter_9 : decode c_l_enter 9 = .ok (.goto 9, 3) := by decide +kernel
theorem d_l_enter_12 : decode c_l_enter 12 = .ok (.astore_n 3, 1) := by decide +kernel
theorem d_l_enter_13 : decode c_l_enter 13 = .ok (.iconst 1, 1) := by decide +kernel
theorem d_l_enter_14 : decode c_l_enter 14 = .ok (.ireturn, 1) := by decide +kernel
theorem d_l_enter_15 : decode c_l_enter 15 = .ok (.astore_n 3, 1) := by decide +kernel
theorem d_l_enter_16 : decode c_l_enter 16 = .ok (.iconst 2, 1) := by decide +kernel
theorem d_l_enter_17 : decode c_l_enter 17 = .ok (.ireturn, 1) := by decide +kernel
theorem d_l_enter_18 : decode c_l_enter 18 = .ok (.iconst 0, 1) := by decide +kernel
theorem d_l_enter_19 : decode c_l_enter 19 = .ok (.ireturn, 1) := by decide +kernel
theorem d_l_code_0 : decode c_l_code 0 = .ok (.aload_n 2, 1) := by decide +kernel
theorem d_l_code_1 : decode c_l_code 1 = .ok (.iconst 0, 1) := by decide +kernel
theorem d_l_code_2 : decode c_l_code 2 = .ok (.aload_n 0, 1) := by decide +kernel
theorem d_l_code_3 : decode c_l_code 3 = .ok (.iload_n 1, 1) := by decide +kernel
theorem d_l_code_4 : decode c_l_code 4 = .ok (.invokevirtual 25, 3) := by decide +kernel
theorem d_l_code_7 : decode c_l_code 7 = .ok (.ifCond .eq 7, 3) := by decide +kernel
theorem d_l_code_10 : decode c_l_code 10 = .ok (.lconst 1, 1) := by decide +kernel
theorem d_l_code_11 : decode c_l_code 11 = .ok (.goto 4, 3) := by decide +kernel
theorem d_l_code_14 : decode c_l_code 14 = .ok (.lconst 0, 1) := by decide +kernel
theorem d_l_code_15 : decode c_l_code 15 = .ok (.lastore, 1) := by decide +kernel
theorem d_l_code_16 : decode c_l_code 16 = .ok (.goto 9, 3) := by decide +kernel
theorem d_l_code_19 : decode c_l_code 19 = .ok (.astore_n 3, 1) := by decide +kernel
theorem d_l_code_20 : decode c_l_code 20 = .ok (.iconst 1, 1) := by decide +kernel
theorem d_l_code_21 : decode c_l_code 21 = .ok (.ireturn, 1) := by decide +kernel
theorem d_l_code_22 : decode c_l_code 22 = .ok (.astore_n 3, 1) := by decide +kernel
theorem d_l_code_23 : decode c_l_code 23 = .ok (.iconst 2, 1) := by decide +kernel
theorem d_l_code_24 : decode c_l_code 24 = .ok (.ireturn, 1) := by decide +kernel
theorem d_l_code_25 : decode c_l_code 25 = .ok (.iconst 0, 1) := by decide +kernel
theorem d_l_code_26 : decode c_l_code 26 = .ok (.ireturn, 1) := by decide +kernel
theorem d_l_width_0 : decode c_l_width 0 = .ok (.aload_n 2, 1) := by decide +kernel
theorem d_l_width_1 : decode c_l_width 1 = .ok (.iconst 0, 1) := by decide +kernel
theorem d_l_width_2 : decode c_l_width 2 = .ok (.aload_n 0, 1) := by decide +kernel
theorem d_l_width_3 : decode c_l_width 3 = .ok (.iload_n 1, 1) := by decide +kernel
theorem d_l_width_4 : decode c_l_width 4 = .ok (.invokevirtual 29, 3) := by decide +kernel
theorem d_l_width_7 : decode c_l_width 7 = .ok (.ifCond .eq 7, 3) := by decide +kernel
theorem d_l_width_10 : decode c_l_width 10 = .ok (.lconst 1, 1) := by decide +kernel
theorem d_l_width_11 : decode c_l_width 11 = .ok (.goto 4, 3) := by decide +kernel
theorem d_l_width_14 : decode c_l_width 14 = .ok (.lconst 0, 1) := by decide +kernel
theorem d_l_width_15 : decode c_l_width 15 = .ok (.lastore, 1) := by decide +kernel
theorem d_l_width_16 : decode c_l_width 16 = .ok (.goto 9, 3) := by decide +kernel
theorem d_l_width_19 : decode c_l_width 19 = .ok (.astore_n 3, 1) := by decide +kernel
theorem d_l_width_20 : decode c_l_width 20 = .ok (.iconst 1, 1) := by decide +kernel
theorem d_l_width_21 : decode c_l_width 21 = .ok (.ireturn, 1) := by decide +kernel
theorem d_l_width_22 : decode c_l_width 22 = .ok (.astore_n 3, 1) := by decide +kernel
theorem d_l_width_23 : decode c_l_width 23 = .ok (.iconst 2, 1) := by decide +kernel
theorem d_l_width_24 : decode c_l_width 24 = .ok (.ireturn, 1) := by decide +kernel
theorem d_l_width_25 : decode c_l_width 25 = .ok (.iconst 0, 1) := by decide +kernel
theorem d_l_width_26 : decode c_l_width 26 = .ok (.ireturn, 1) := by decide +kernel
theorem d_l_weigh_0 : decode c_l_weigh 0 = .ok (.aload_n 2, 1) := by decide +kernel
theorem d_l_weigh_1 : decode c_l_weigh 1 = .ok (.iconst 0, 1) := by decide +kernel
theorem d_l_weigh_2 : decode c_l_weigh 2 = .ok (.aload_n 0, 1) := by decide +kernel
theorem d_l_weigh_3 : decode c_l_weigh 3 = .ok (.iload_n 1, 1) := by decide +kernel
theorem d_l_weigh_4 : decode c_l_weigh 4 = .ok (.invokevirtual 32, 3) := by decide +kernel
theorem d_l_weigh_7 : decode c_l_weigh 7 = .ok (.ifCond .eq 7, 3) := by decide +kernel
theorem d_l_weigh_10 : decode c_l_weigh 10 = .ok (.lconst 1, 1) := by decide +kernel
theorem d_l_weigh_11 : decode c_l_weigh 11 = .ok (.goto 4, 3) := by decide +kernel
theorem d_l_weigh_14 : decode c_l_weigh 14 = .ok (.lconst 0, 1) := by decide +kernel
theorem d_l_weigh_15 : decode c_l_weigh 15 = .ok (.lastore, 1) := by decide +kernel
theorem d_l_weigh_16 : decode c_l_weigh 16 = .ok (.goto 9, 3) := by decide +kernel
theorem d_l_weigh_19 : decode c_l_weigh 19 = .ok (.astore_n 3, 1) := by decide +kernel
theorem d_l_weigh_20 : decode c_l_weigh 20 = .ok (.iconst 1, 1) := by decide +kernel
theorem d_l_weigh_21 : decode c_l_weigh 21 = .ok (.ireturn, 1) := by decide +kernel
theorem d_l_weigh_22 : decode c_l_weigh 22 = .ok (.astore_n 3, 1) := by decide +kernel
theorem d_l_weigh_23 : decode c_l_weigh 23 = .ok (.iconst 2, 1) := by decide +kernel
theorem d_l_weigh_24 : decode c_l_weigh 24 = .ok (.ireturn, 1) := by decide +kernel
theorem d_l_weigh_25 : decode c_l_weigh 25 = .ok (.iconst 0, 1) := by decide +kernel
theorem d_l_weigh_26 : decode c_l_weigh 26 = .ok (.ireturn, 1) := by decide +kernel
theorem d_l_forward_0 : decode c_l_forward 0 = .ok (.aload_n 2, 1) := by decide +kernel
theorem d_l_forward_1 : decode c_l_forward 1 = .ok (.iconst 0, 1) := by decide +kernel
theorem d_l_forward_2 : decode c_l_forward 2 = .ok (.aload_n 0, 1) := by decide +kernel
theorem d_l_forward_3 : decode c_l_forward 3 = .ok (.iload_n 1, 1) := by decide +kernel
theorem d_l_forward_4 : decode c_l_forward 4 = .ok (.invokevirtual 35, 3) := by decide +kernel
theorem d_l_forward_7 : decode c_l_forward 7 = .ok (.i2l, 1) := by decide +kernel
theorem d_l_forward_8 : decode c_l_forward 8 = .ok (.lastore, 1) := by decide +kernel
theorem d_l_forward_9 : decode c_l_forward 9 = .ok (.goto 9, 3) := by decide +kernel
theorem d_l_forward_12 : decode c_l_forward 12 = .ok (.astore_n 3, 1) := by decide +kernel
theorem d_l_forward_13 : decode c_l_forward 13 = .ok (.iconst 1, 1) := by decide +kernel
theorem d_l_forward_14 : decode c_l_forward 14 = .ok (.ireturn, 1) := by decide +kernel
theorem d_l_forward_15 : decode c_l_forward 15 = .ok (.astore_n 3, 1) := by decide +kernel
theorem d_l_forward_16 : decode c_l_forward 16 = .ok (.iconst 2, 1) := by decide +kernel
theorem d_l_forward_17 : decode c_l_forward 17 = .ok (.ireturn, 1) := by decide +kernel
theorem d_l_forward_18 : decode c_l_forward 18 = .ok (.iconst 0, 1) := by decide +kernel
theorem d_l_forward_19 : decode c_l_forward 19 = .ok (.ireturn, 1) := by decide +kernel
theorem d_l_back_0 : decode c_l_back 0 = .ok (.aload_n 2, 1) := by decide +kernel
theorem d_l_back_1 : decode c_l_back 1 = .ok (.iconst 0, 1) := by decide +kernel
theorem d_l_back_2 : decode c_l_back 2 = .ok (.aload_n 0, 1) := by decide +kernel
theorem d_l_back_3 : decode c_l_back 3 = .ok (.iload_n 1, 1) := by decide +kernel
theorem d_l_back_4 : decode c_l_back 4 = .ok (.invokevirtual 38, 3) := by decide +kernel
theorem d_l_back_7 : decode c_l_back 7 = .ok (.i2l, 1) := by decide +kernel
theorem d_l_back_8 : decode c_l_back 8 = .ok (.lastore, 1) := by decide +kernel
theorem d_l_back_9 : decode c_l_back 9 = .ok (.goto 9, 3) := by decide +kernel
theorem d_l_back_12 : decode c_l_back 12 = .ok (.astore_n 3, 1) := by decide +kernel
theorem d_l_back_13 : decode c_l_back 13 = .ok (.iconst 1, 1) := by decide +kernel
theorem d_l_back_14 : decode c_l_back 14 = .ok (.ireturn, 1) := by decide +kernel
theorem d_l_back_15 : decode c_l_back 15 = .ok (.astore_n 3, 1) := by decide +kernel
theorem d_l_back_16 : decode c_l_back 16 = .ok (.iconst 2, 1) := by decide +kernel
theorem d_l_back_17 : decode c_l_back 17 = .ok (.ireturn, 1) := by decide +kernel
theorem d_l_back_18 : decode c_l_back 18 = .ok (.iconst 0, 1) := by decide +kernel
theorem d_l_back_19 : decode c_l_back 19 = .ok (.ireturn, 1) := by decide +kernel
theorem d_l_voucher_0 : decode c_l_voucher 0 = .ok (.aload_n 1, 1) := by decide +kernel
theorem d_l_voucher_1 : decode c_l_voucher 1 = .ok (.iconst 0, 1) := by decide +kernel
theorem d_l_voucher_2 : decode c_l_voucher 2 = .ok (.aload_n 0, 1) := by decide +kernel
theorem d_l_voucher_3 : decode c_l_voucher 3 = .ok (.invokevirtual 41, 3) := by decide +kernel
theorem d_l_voucher_6 : decode c_l_voucher 6 = .ok (.i2l, 1) := by decide +kernel
theorem d_l_voucher_7 : decode c_l_voucher 7 = .ok (.lastore, 1) := by decide +kernel
theorem d_l_voucher_8 : decode c_l_voucher 8 = .ok (.goto 6, 3) := by decide +kernel
theorem d_l_voucher_11 : decode c_l_voucher 11 = .ok (.astore_n 2, 1) := by decide +kernel
theorem d_l_voucher_12 : decode c_l_voucher 12 = .ok (.iconst 1, 1) := by decide +kernel
theorem d_l_voucher_13 : decode c_l_voucher 13 = .ok (.ireturn, 1) := by decide +kernel
theorem d_l_voucher_14 : decode c_l_voucher 14 = .ok (.iconst 0, 1) := by decide +kernel
theorem d_l_voucher_15 : decode c_l_voucher 15 = .ok (.ireturn, 1) := by decide +kernel
theorem d_l_give_0 : decode c_l_give 0 = .ok (.aload_n 1, 1) := by decide +kernel
theorem d_l_give_1 : decode c_l_give 1 = .ok (.iconst 0, 1) := by decide +kernel
theorem d_l_give_2 : decode c_l_give 2 = .ok (.aload_n 0, 1) := by decide +kernel
theorem d_l_give_3 : decode c_l_give 3 = .ok (.invokevirtual 45, 3) := by decide +kernel
theorem d_l_give_6 : decode c_l_give 6 = .ok (.i2l, 1) := by decide +kernel
theorem d_l_give_7 : decode c_l_give 7 = .ok (.lastore, 1) := by decide +kernel
theorem d_l_give_8 : decode c_l_give 8 = .ok (.goto 6, 3) := by decide +kernel
theorem d_l_give_11 : decode c_l_give 11 = .ok (.astore_n 2, 1) := by decide +kernel
theorem d_l_give_12 : decode c_l_give 12 = .ok (.iconst 1, 1) := by decide +kernel
theorem d_l_give_13 : decode c_l_give 13 = .ok (.ireturn, 1) := by decide +kernel
theorem d_l_give_14 : decode c_l_give 14 = .ok (.iconst 0, 1) := by decide +kernel
theorem d_l_give_15 : decode c_l_give 15 = .ok (.ireturn, 1) := by decide +kernel
theorem d_l_redeem_0 : decode c_l_redeem 0 = .ok (.aload_n 2, 1) := by decide +kernel
theorem d_l_redeem_1 : decode c_l_redeem 1 = .ok (.iconst 0, 1) := by decide +kernel
theorem d_l_redeem_2 : decode c_l_redeem 2 = .ok (.aload_n 0, 1) := by decide +kernel
theorem d_l_redeem_3 : decode c_l_redeem 3 = .ok (.iload_n 1, 1) := by decide +kernel
theorem d_l_redeem_4 : decode c_l_redeem 4 = .ok (.invokevirtual 48, 3) := by decide +kernel
theorem d_l_redeem_7 : decode c_l_redeem 7 = .ok (.i2l, 1) := by decide +kernel
theorem d_l_redeem_8 : decode c_l_redeem 8 = .ok (.lastore, 1) := by decide +kernel
theorem d_l_redeem_9 : decode c_l_redeem 9 = .ok (.goto 9, 3) := by decide +kernel
theorem d_l_redeem_12 : decode c_l_redeem 12 = .ok (.astore_n 3, 1) := by decide +kernel
theorem d_l_redeem_13 : decode c_l_redeem 13 = .ok (.iconst 1, 1) := by decide +kernel
theorem d_l_redeem_14 : decode c_l_redeem 14 = .ok (.ireturn, 1) := by decide +kernel
theorem d_l_redeem_15 : decode c_l_redeem 15 = .ok (.astore_n 3, 1) := by decide +kernel
theorem d_l_redeem_16 : decode c_l_redeem 16 = .ok (.iconst 2, 1) := by decide +kernel
theorem d_l_redeem_17 : decode c_l_redeem 17 = .ok (.ireturn, 1) := by decide +kernel
theorem d_l_redeem_18 : decode c_l_redeem 18 = .ok (.iconst 0, 1) := by decide +kernel
theorem d_l_redeem_19 : decode c_l_redeem 19 = .ok (.ireturn, 1) := by decide +kernel
theorem d_l_clear_0 : decode c_l_clear 0 = .ok (.aload_n 1, 1) := by decide +kernel
theorem d_l_clear_1 : decode c_l_clear 1 = .ok (.iconst 0, 1) := by decide +kernel
theorem d_l_clear_2 : decode c_l_clear 2 = .ok (.aload_n 0, 1) := by decide +kernel
theorem d_l_clear_3 : decode c_l_clear 3 = .ok (.invokevirtual 51, 3) := by decide +kernel
theorem d_l_clear_6 : decode c_l_clear 6 = .ok (.i2l, 1) := by decide +kernel
theorem d_l_clear_7 : decode c_l_clear 7 = .ok (.lastore, 1) := by decide +kernel
theorem d_l_clear_8 : decode c_l_clear 8 = .ok (.goto 6, 3) := by decide +kernel
theorem d_l_clear_11 : decode c_l_clear 11 = .ok (.astore_n 2, 1) := by decide +kernel
theorem d_l_clear_12 : decode c_l_clear 12 = .ok (.iconst 1, 1) := by decide +kernel
theorem d_l_clear_13 : decode c_l_clear 13 = .ok (.ireturn, 1) := by decide +kernel
theorem d_l_clear_14 : decode c_l_clear 14 = .ok (.iconst 0, 1) := by decide +kernel
theorem d_l_clear_15 : decode c_l_clear 15 = .ok (.ireturn, 1) := by decide +kernel
theorem d_l_empty_0 : decode c_l_empty 0 = .ok (.aload_n 3, 1) := by decide +kernel
theorem d_l_empty_1 : decode c_l_empty 1 = .ok (.iconst 0, 1) := by decide +kernel
theorem d_l_empty_2 : decode c_l_empty 2 = .ok (.aload_n 0, 1) := by decide +kernel
theorem d_l_empty_3 : decode c_l_empty 3 = .ok (.iload_n 1, 1) := by decide +kernel
theorem d_l_empty_4 : decode c_l_empty 4 = .ok (.iload_n 2, 1) := by decide +kernel
theorem d_l_empty_5 : decode c_l_empty 5 = .ok (.invokevirtual 54, 3) := by decide +kernel
theorem d_l_empty_8 : decode c_l_empty 8 = .ok (.i2l, 1) := by decide +kernel
theorem d_l_empty_9 : decode c_l_empty 9 = .ok (.lastore, 1) := by decide +kernel
theorem d_l_empty_10 : decode c_l_empty 10 = .ok (.goto 11, 3) := by decide +kernel
theorem d_l_empty_13 : decode c_l_empty 13 = .ok (.astore 4, 2) := by decide +kernel
theorem d_l_empty_15 : decode c_l_empty 15 = .ok (.iconst 1, 1) := by decide +kernel
theorem d_l_empty_16 : decode c_l_empty 16 = .ok (.ireturn, 1) := by decide +kernel
theorem d_l_empty_17 : decode c_l_empty 17 = .ok (.astore 4, 2) := by decide +kernel
theorem d_l_empty_19 : decode c_l_empty 19 = .ok (.iconst 2, 1) := by decide +kernel
theorem d_l_empty_20 : decode c_l_empty 20 = .ok (.ireturn, 1) := by decide +kernel
theorem d_l_empty_21 : decode c_l_empty 21 = .ok (.iconst 0, 1) := by decide +kernel
theorem d_l_empty_22 : decode c_l_empty 22 = .ok (.ireturn, 1) := by decide +kernel
theorem d_l_service_0 : decode c_l_service 0 = .ok (.aload_n 1, 1) := by decide +kernel
theorem d_l_service_1 : decode c_l_service 1 = .ok (.iconst 0, 1) := by decide +kernel
theorem d_l_service_2 : decode c_l_service 2 = .ok (.aload_n 0, 1) := by decide +kernel
theorem d_l_service_3 : decode c_l_service 3 = .ok (.invokevirtual 58, 3) := by decide +kernel
theorem d_l_service_6 : decode c_l_service 6 = .ok (.ifCond .eq 7, 3) := by decide +kernel
theorem d_l_service_9 : decode c_l_service 9 = .ok (.lconst 1, 1) := by decide +kernel
theorem d_l_service_10 : decode c_l_service 10 = .ok (.goto 4, 3) := by decide +kernel
theorem d_l_service_13 : decode c_l_service 13 = .ok (.lconst 0, 1) := by decide +kernel
theorem d_l_service_14 : decode c_l_service 14 = .ok (.lastore, 1) := by decide +kernel
theorem d_l_service_15 : decode c_l_service 15 = .ok (.goto 6, 3) := by decide +kernel
theorem d_l_service_18 : decode c_l_service 18 = .ok (.astore_n 2, 1) := by decide +kernel
theorem d_l_service_19 : decode c_l_service 19 = .ok (.iconst 1, 1) := by decide +kernel
theorem d_l_service_20 : decode c_l_service 20 = .ok (.ireturn, 1) := by decide +kernel
theorem d_l_service_21 : decode c_l_service 21 = .ok (.iconst 0, 1) := by decide +kernel
theorem d_l_service_22 : decode c_l_service 22 = .ok (.ireturn, 1) := by decide +kernel
theorem d_l_cut_0 : decode c_l_cut 0 = .ok (.aload_n 0, 1) := by decide +kernel
theorem d_l_cut_1 : decode c_l_cut 1 = .ok (.iload_n 1, 1) := by decide +kernel
theorem d_l_cut_2 : decode c_l_cut 2 = .ok (.invokevirtual 62, 3) := by decide +kernel
theorem d_l_cut_5 : decode c_l_cut 5 = .ok (.goto 6, 3) := by decide +kernel
theorem d_l_cut_8 : decode c_l_cut 8 = .ok (.astore_n 2, 1) := by decide +kernel
theorem d_l_cut_9 : decode c_l_cut 9 = .ok (.iconst 1, 1) := by decide +kernel
theorem d_l_cut_10 : decode c_l_cut 10 = .ok (.ireturn, 1) := by decide +kernel
theorem d_l_cut_11 : decode c_l_cut 11 = .ok (.iconst 0, 1) := by decide +kernel
theorem d_l_cut_12 : decode c_l_cut 12 = .ok (.ireturn, 1) := by decide +kernel
theorem d_l_check_0 : decode c_l_check 0 = .ok (.aload_n 3, 1) := by decide +kernel
theorem d_l_check_1 : decode c_l_check 1 = .ok (.iconst 0, 1) := by decide +kernel
theorem d_l_check_2 : decode c_l_check 2 = .ok (.aload_n 0, 1) := by decide +kernel
theorem d_l_check_3 : decode c_l_check 3 = .ok (.iload_n 1, 1) := by decide +kernel
theorem d_l_check_4 : decode c_l_check 4 = .ok (.iload_n 2, 1) := by decide +kernel
theorem d_l_check_5 : decode c_l_check 5 = .ok (.invokevirtual 66, 3) := by decide +kernel
theorem d_l_check_8 : decode c_l_check 8 = .ok (.ifCond .eq 7, 3) := by decide +kernel
theorem d_l_check_11 : decode c_l_check 11 = .ok (.lconst 1, 1) := by decide +kernel
theorem d_l_check_12 : decode c_l_check 12 = .ok (.goto 4, 3) := by decide +kernel
theorem d_l_check_15 : decode c_l_check 15 = .ok (.lconst 0, 1) := by decide +kernel
theorem d_l_check_16 : decode c_l_check 16 = .ok (.lastore, 1) := by decide +kernel
theorem d_l_check_17 : decode c_l_check 17 = .ok (.goto 7, 3) := by decide +kernel
theorem d_l_check_20 : decode c_l_check 20 = .ok (.astore 4, 2) := by decide +kernel
theorem d_l_check_22 : decode c_l_check 22 = .ok (.iconst 1, 1) := by decide +kernel
theorem d_l_check_23 : decode c_l_check 23 = .ok (.ireturn, 1) := by decide +kernel
theorem d_l_check_24 : decode c_l_check 24 = .ok (.iconst 0, 1) := by decide +kernel
theorem d_l_check_25 : decode c_l_check 25 = .ok (.ireturn, 1) := by decide +kernel
theorem d_l_about_0 : decode c_l_about 0 = .ok (.aload_n 3, 1) := by decide +kernel
theorem d_l_about_1 : decode c_l_about 1 = .ok (.iconst 0, 1) := by decide +kernel
theorem d_l_about_2 : decode c_l_about 2 = .ok (.aload_n 0, 1) := by decide +kernel
theorem d_l_about_3 : decode c_l_about 3 = .ok (.iload_n 1, 1) := by decide +kernel
theorem d_l_about_4 : decode c_l_about 4 = .ok (.iload_n 2, 1) := by decide +kernel
theorem d_l_about_5 : decode c_l_about 5 = .ok (.invokevirtual 70, 3) := by decide +kernel
theorem d_l_about_8 : decode c_l_about 8 = .ok (.i2l, 1) := by decide +kernel
theorem d_l_about_9 : decode c_l_about 9 = .ok (.lastore, 1) := by decide +kernel
theorem d_l_about_10 : decode c_l_about 10 = .ok (.goto 7, 3) := by decide +kernel
theorem d_l_about_13 : decode c_l_about 13 = .ok (.astore 4, 2) := by decide +kernel
theorem d_l_about_15 : decode c_l_about 15 = .ok (.iconst 1, 1) := by decide +kernel
theorem d_l_about_16 : decode c_l_about 16 = .ok (.ireturn, 1) := by decide +kernel
theorem d_l_about_17 : decode c_l_about 17 = .ok (.iconst 0, 1) := by decide +kernel
theorem d_l_about_18 : decode c_l_about 18 = .ok (.ireturn, 1) := by decide +kernel
theorem d_l_container_0 : decode c_l_container 0 = .ok (.aload_n 3, 1) := by decide +kernel
theorem d_l_container_1 : decode c_l_container 1 = .ok (.iconst 0, 1) := by decide +kernel
theorem d_l_container_2 : decode c_l_container 2 = .ok (.aload_n 0, 1) := by decide +kernel
theorem d_l_container_3 : decode c_l_container 3 = .ok (.iload_n 1, 1) := by decide +kernel
theorem d_l_container_4 : decode c_l_container 4 = .ok (.iload_n 2, 1) := by decide +kernel
theorem d_l_container_5 : decode c_l_container 5 = .ok (.invokevirtual 73, 3) := by decide +kernel
theorem d_l_container_8 : decode c_l_container 8 = .ok (.i2l, 1) := by decide +kernel
theorem d_l_container_9 : decode c_l_container 9 = .ok (.lastore, 1) := by decide +kernel
theorem d_l_container_10 : decode c_l_container 10 = .ok (.goto 7, 3) := by decide +kernel
theorem d_l_container_13 : decode c_l_container 13 = .ok (.astore 4, 2) := by decide +kernel
theorem d_l_container_15 : decode c_l_container 15 = .ok (.iconst 1, 1) := by decide +kernel
theorem d_l_container_16 : decode c_l_container 16 = .ok (.ireturn, 1) := by decide +kernel
theorem d_l_container_17 : decode c_l_container 17 = .ok (.iconst 0, 1) := by decide +kernel
theorem d_l_container_18 : decode c_l_container 18 = .ok (.ireturn, 1) := by decide +kernel
theorem d_l_bin_0 : decode c_l_bin 0 = .ok (.aload_n 3, 1) := by decide +kernel
theorem d_l_bin_1 : decode c_l_bin 1 = .ok (.iconst 0, 1) := by decide +kernel
theorem d_l_bin_2 : decode c_l_bin 2 = .ok (.aload_n 0, 1) := by decide +kernel
theorem d_l_bin_3 : decode c_l_bin 3 = .ok (.iload_n 1, 1) := by decide +kernel
theorem d_l_bin_4 : decode c_l_bin 4 = .ok (.iload_n 2, 1) := by decide +kernel
theorem d_l_bin_5 : decode c_l_bin 5 = .ok (.invokevirtual 76, 3) := by decide +kernel
theorem d_l_bin_8 : decode c_l_bin 8 = .ok (.i2l, 1) := by decide +kernel
theorem d_l_bin_9 : decode c_l_bin 9 = .ok (.lastore, 1) := by decide +kernel
theorem d_l_bin_10 : decode c_l_bin 10 = .ok (.goto 7, 3) := by decide +kernel
theorem d_l_bin_13 : decode c_l_bin 13 = .ok (.astore 4, 2) := by decide +kernel
theorem d_l_bin_15 : decode c_l_bin 15 = .ok (.iconst 1, 1) := by decide +kernel
theorem d_l_bin_16 : decode c_l_bin 16 = .ok (.ireturn, 1) := by decide +kernel
theorem d_l_bin_17 : decode c_l_bin 17 = .ok (.iconst 0, 1) := by decide +kernel
theorem d_l_bin_18 : decode c_l_bin 18 = .ok (.ireturn, 1) := by decide +kernel
theorem d_l_total_0 : decode c_l_total 0 = .ok (.aload_n 2, 1) := by decide +kernel
theorem d_l_total_1 : decode c_l_total 1 = .ok (.iconst 0, 1) := by decide +kernel
theorem d_l_total_2 : decode c_l_total 2 = .ok (.aload_n 0, 1) := by decide +kernel
theorem d_l_total_3 : decode c_l_total 3 = .ok (.iload_n 1, 1) := by decide +kernel
theorem d_l_total_4 : decode c_l_total 4 = .ok (.invokevirtual 79, 3) := by decide +kernel
theorem d_l_total_7 : decode c_l_total 7 = .ok (.i2l, 1) := by decide +kernel
theorem d_l_total_8 : decode c_l_total 8 = .ok (.lastore, 1) := by decide +kernel
theorem d_l_total_9 : decode c_l_total 9 = .ok (.goto 6, 3) := by decide +kernel
theorem d_l_total_12 : decode c_l_total 12 = .ok (.astore_n 3, 1) := by decide +kernel
theorem d_l_total_13 : decode c_l_total 13 = .ok (.iconst 1, 1) := by decide +kernel
theorem d_l_total_14 : decode c_l_total 14 = .ok (.ireturn, 1) := by decide +kernel
theorem d_l_total_15 : decode c_l_total 15 = .ok (.iconst 0, 1) := by decide +kernel
theorem d_l_total_16 : decode c_l_total 16 = .ok (.ireturn, 1) := by decide +kernel
def F_l_contour (a1 : Int32) (a2 : Int32) (a3 : Int32) (a4 : Int32) (z : fST) : Option (Int32 × fST) := f_bx (F_b_contour a1 a2 a3 a4 z) (fun v1 z1 => some (0, z1)) (fun v1 z1 => if v1 = 1 then (some (1, z1)) else (if v1 = 2 then (some (2, z1)) else (none)))
def F_l_kind (a1 : Int32) (a2 : Int32) (a3 : Int32) (a4 : Int32) (a5 : Int32) (a6 : Int32) (a7 : Int32) (z : fST) : Option (Int32 × fST) := f_bx (F_b_kind a1 a2 a3 a4 a5 a6 a7 z) (fun v1 z1 => some (0, f_pO z1 v1.toInt64)) (fun v1 z1 => if v1 = 1 then (some (1, z1)) else (if v1 = 2 then (some (2, z1)) else (none)))
def F_l_enter (a1 : Int32) (z : fST) : Option (Int32 × fST) := f_bx (F_b_enter a1 z) (fun v1 z1 => some (0, f_pO z1 v1.toInt64)) (fun v1 z1 => if v1 = 1 then (some (1, z1)) else (if v1 = 2 then (some (2, z1)) else (none)))
def b_l_code_15 (y2 : Int64) (z : fST) : Option (Int32 × fST) := some (0, f_pO z y2)
def F_l_code (a1 : Int32) (z : fST) : Option (Int32 × fST) := f_bx (F_b_code a1 z) (fun v1 z1 => if v1 = 0 then (b_l_code_15 0 z1) else (b_l_code_15 1 z1)) (fun v1 z1 => if v1 = 1 then (some (1, z1)) else (if v1 = 2 then (some (2, z1)) else (none)))
def b_l_width_15 (y2 : Int64) (z : fST) : Option (Int32 × fST) := some (0, f_pO z y2)
def F_l_width (a1 : Int32) (z : fST) : Option (Int32 × fST) := f_bx (F_b_width a1 z) (fun v1 z1 => if v1 = 0 then (b_l_width_15 0 z1) else (b_l_width_15 1 z1)) (fun v1 z1 => if v1 = 1 then (some (1, z1)) else (if v1 = 2 then (some (2, z1)) else (none)))
def b_l_weigh_15 (y2 : Int64) (z : fST) : Option (Int32 × fST) := some (0, f_pO z y2)
def F_l_weigh (a1 : Int32) (z : fST) : Option (Int32 × fST) := f_bx (F_b_weigh a1 z) (fun v1 z1 => if v1 = 0 then (b_l_weigh_15 0 z1) else (b_l_weigh_15 1 z1)) (fun v1 z1 => if v1 = 1 then (some (1, z1)) else (if v1 = 2 then (some (2, z1)) else (none)))
def F_l_forward (a1 : Int32) (z : fST) : Option (Int32 × fST) := f_bx (F_b_forward a1 z) (fun v1 z1 => some (0, f_pO z1 v1.toInt64)) (fun v1 z1 => if v1 = 1 then (some (1, z1)) else (if v1 = 2 then (some (2, z1)) else (none)))
def F_l_back (a1 : Int32) (z : fST) : Option (Int32 × fST) := f_bx (F_b_back a1 z) (fun v1 z1 => some (0, f_pO z1 v1.toInt64)) (fun v1 z1 => if v1 = 1 then (some (1, z1)) else (if v1 = 2 then (some (2, z1)) else (none)))
def F_l_voucher (z : fST) : Option (Int32 × fST) := f_bx (F_b_voucher z) (fun v1 z1 => some (0, f_pO z1 v1.toInt64)) (fun v1 z1 => if v1 = 1 then (some (1, z1)) else (none))
def F_l_give (z : fST) : Option (Int32 × fST) := f_bx (F_b_give z) (fun v1 z1 => some (0, f_pO z1 v1.toInt64)) (fun v1 z1 => if v1 = 1 then (some (1, z1)) else (none))
def F_l_redeem (a1 : Int32) (z : fST) : Option (Int32 × fST) := f_bx (F_b_redeem a1 z) (fun v1 z1 => some (0, f_pO z1 v1.toInt64)) (fun v1 z1 => if v1 = 1 then (some (1, z1)) else (if v1 = 2 then (some (2, z1)) else (none)))
def F_l_clear (z : fST) : Option (Int32 × fST) := f_bx (F_b_clear z) (fun v1 z1 => some (0, f_pO z1 v1.toInt64)) (fun v1 z1 => if v1 = 1 then (some (1, z1)) else (none))
def F_l_empty (a1 : Int32) (a2 : Int32) (z : fST) : Option (Int32 × fST) := f_bx (F_b_empty a1 a2 z) (fun v1 z1 => some (0, f_pO z1 v1.toInt64)) (fun v1 z1 => if v1 = 1 then (some (1, z1)) else (if v1 = 2 then (some (2, z1)) else (none)))
def b_l_service_14 (y2 : Int64) (z : fST) : Option (Int32 × fST) := some (0, f_pO z y2)
def F_l_service (z : fST) : Option (Int32 × fST) := f_bx (F_b_service z) (fun v1 z1 => if v1 = 0 then (b_l_service_14 0 z1) else (b_l_service_14 1 z1)) (fun v1 z1 => if v1 = 1 then (some (1, z1)) else (none))
def F_l_cut (a1 : Int32) (z : fST) : Option (Int32 × fST) := f_bx (F_b_cut a1 z) (fun v1 z1 => some (0, z1)) (fun v1 z1 => if v1 = 2 then (some (1, z1)) else (none))
def b_l_check_16 (y2 : Int64) (z : fST) : Option (Int32 × fST) := some (0, f_pO z y2)
def F_l_check (a1 : Int32) (a2 : Int32) (z : fST) : Option (Int32 × fST) := f_bx (F_b_check a1 a2 z) (fun v1 z1 => if v1 = 0 then (b_l_check_16 0 z1) else (b_l_check_16 1 z1)) (fun v1 z1 => if v1 = 2 then (some (1, z1)) else (none))
def F_l_about (a1 : Int32) (a2 : Int32) (z : fST) : Option (Int32 × fST) := f_bx (F_b_about a1 a2 z) (fun v1 z1 => some (0, f_pO z1 v1.toInt64)) (fun v1 z1 => if v1 = 2 then (some (1, z1)) else (none))
def F_l_container (a1 : Int32) (a2 : Int32) (z : fST) : Option (Int32 × fST) := f_bx (F_b_container a1 a2 z) (fun v1 z1 => some (0, f_pO z1 v1.toInt64)) (fun v1 z1 => if v1 = 2 then (some (1, z1)) else (none))
def F_l_bin (a1 : Int32) (a2 : Int32) (z : fST) : Option (Int32 × fST) := f_bx (F_b_bin a1 a2 z) (fun v1 z1 => some (0, f_pO z1 v1.toInt64)) (fun v1 z1 => if v1 = 2 then (some (1, z1)) else (none))
def F_l_total (a1 : Int32) (z : fST) : Option (Int32 × fST) := f_bx (F_b_total a1 z) (fun v1 z1 => some (0, f_pO z1 v1.toInt64)) (fun v1 z1 => if v1 = 2 then (some (1, z1)) else (none))
