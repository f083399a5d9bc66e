/-! decode rows -/
theorem d_m_thrown_0 : decode c_m_thrown 0 = .ok (.aload_n 0, 1) := by decide +kernel
theorem d_m_thrown_1 : decode c_m_thrown 1 = .ok (.getfield 44, 3) := by decide +kernel
theorem d_m_thrown_4 : decode c_m_thrown 4 = .ok (.ireturn, 1) := by decide +kernel
theorem d_m_fails_0 : decode c_m_fails 0 = .ok (.aload_n 0, 1) := by decide +kernel
theorem d_m_fails_1 : decode c_m_fails 1 = .ok (.iload_n 1, 1) := by decide +kernel
theorem d_m_fails_2 : decode c_m_fails 2 = .ok (.ifCond .eq 7, 3) := by decide +kernel
theorem d_m_fails_5 : decode c_m_fails 5 = .ok (.iload_n 2, 1) := by decide +kernel
theorem d_m_fails_6 : decode c_m_fails 6 = .ok (.goto 4, 3) := by decide +kernel
theorem d_m_fails_9 : decode c_m_fails 9 = .ok (.iconst 0, 1) := by decide +kernel
theorem d_m_fails_10 : decode c_m_fails 10 = .ok (.putfield 44, 3) := by decide +kernel
theorem d_m_fails_13 : decode c_m_fails 13 = .ok (.iload_n 1, 1) := by decide +kernel
theorem d_m_fails_14 : decode c_m_fails 14 = .ok (.ireturn, 1) := by decide +kernel
theorem d_m_within_0 : decode c_m_within 0 = .ok (.iload_n 0, 1) := by decide +kernel
theorem d_m_within_1 : decode c_m_within 1 = .ok (.iload_n 1, 1) := by decide +kernel
theorem d_m_within_2 : decode c_m_within 2 = .ok (.if_icmp .lt 12, 3) := by decide +kernel
theorem d_m_within_5 : decode c_m_within 5 = .ok (.iload_n 0, 1) := by decide +kernel
theorem d_m_within_6 : decode c_m_within 6 = .ok (.iload_n 2, 1) := by decide +kernel
theorem d_m_within_7 : decode c_m_within 7 = .ok (.if_icmp .gt 7, 3) := by decide +kernel
theorem d_m_within_10 : decode c_m_within 10 = .ok (.iconst 1, 1) := by decide +kernel
theorem d_m_within_11 : decode c_m_within 11 = .ok (.goto 4, 3) := by decide +kernel
theorem d_m_within_14 : decode c_m_within 14 = .ok (.iconst 0, 1) := by decide +kernel
theorem d_m_within_15 : decode c_m_within 15 = .ok (.ireturn, 1) := by decide +kernel
theorem d_m_get_0 : decode c_m_get 0 = .ok (.aload_n 0, 1) := by decide +kernel
theorem d_m_get_1 : decode c_m_get 1 = .ok (.getfield 19, 3) := by decide +kernel
theorem d_m_get_4 : decode c_m_get 4 = .ok (.bipush 20, 2) := by decide +kernel
theorem d_m_get_6 : decode c_m_get 6 = .ok (.iload_n 1, 1) := by decide +kernel
theorem d_m_get_7 : decode c_m_get 7 = .ok (.imul, 1) := by decide +kernel
theorem d_m_get_8 : decode c_m_get 8 = .ok (.iload_n 2, 1) := by decide +kernel
theorem d_m_get_9 : decode c_m_get 9 = .ok (.iadd, 1) := by decide +kernel
theorem d_m_get_10 : decode c_m_get 10 = .ok (.iaload, 1) := by decide +kernel
theorem d_m_get_11 : decode c_m_get 11 = .ok (.ireturn, 1) := by decide +kernel
theorem d_m_put_0 : decode c_m_put 0 = .ok (.aload_n 0, 1) := by decide +kernel
theorem d_m_put_1 : decode c_m_put 1 = .ok (.getfield 19, 3) := by decide +kernel
theorem d_m_put_4 : decode c_m_put 4 = .ok (.bipush 20, 2) := by decide +kernel
theorem d_m_put_6 : decode c_m_put 6 = .ok (.iload_n 1, 1) := by decide +kernel
theorem d_m_put_7 : decode c_m_put 7 = .ok (.imul, 1) := by decide +kernel
theorem d_m_put_8 : decode c_m_put 8 = .ok (.iload_n 2, 1) := by decide +kernel
theorem d_m_put_9 : decode c_m_put 9 = .ok (.iadd, 1) := by decide +kernel
theorem d_m_put_10 : decode c_m_put 10 = .ok (.iload_n 3, 1) := by decide +kernel
theorem d_m_put_11 : decode c_m_put 11 = .ok (.iastore, 1) := by decide +kernel
theorem d_m_put_12 : decode c_m_put 12 = .ok (.return_, 1) := by decide +kernel
theorem d_m_rear_0 : decode c_m_rear 0 = .ok (.aload_n 0, 1) := by decide +kernel
theorem d_m_rear_1 : decode c_m_rear 1 = .ok (.iload_n 1, 1) := by decide +kernel
theorem d_m_rear_2 : decode c_m_rear 2 = .ok (.iconst 2, 1) := by decide +kernel
theorem d_m_rear_3 : decode c_m_rear 3 = .ok (.invokevirtual 48, 3) := by decide +kernel
theorem d_m_rear_6 : decode c_m_rear 6 = .ok (.aload_n 0, 1) := by decide +kernel
theorem d_m_rear_7 : decode c_m_rear 7 = .ok (.iload_n 1, 1) := by decide +kernel
theorem d_m_rear_8 : decode c_m_rear 8 = .ok (.iconst 1, 1) := by decide +kernel
theorem d_m_rear_9 : decode c_m_rear 9 = .ok (.invokevirtual 48, 3) := by decide +kernel
theorem d_m_rear_12 : decode c_m_rear 12 = .ok (.isub, 1) := by decide +kernel
theorem d_m_rear_13 : decode c_m_rear 13 = .ok (.ireturn, 1) := by decide +kernel
theorem d_m_remove_0 : decode c_m_remove 0 = .ok (.aload_n 0, 1) := by decide +kernel
theorem d_m_remove_1 : decode c_m_remove 1 = .ok (.dup, 1) := by decide +kernel
theorem d_m_remove_2 : decode c_m_remove 2 = .ok (.getfield 52, 3) := by decide +kernel
theorem d_m_remove_5 : decode c_m_remove 5 = .ok (.iconst 1, 1) := by decide +kernel
theorem d_m_remove_6 : decode c_m_remove 6 = .ok (.isub, 1) := by decide +kernel
theorem d_m_remove_7 : decode c_m_remove 7 = .ok (.putfield 52, 3) := by decide +kernel
theorem d_m_remove_10 : decode c_m_remove 10 = .ok (.bipush 20, 2) := by decide +kernel
theorem d_m_remove_12 : decode c_m_remove 12 = .ok (.iload_n 1, 1) := by decide +kernel
theorem d_m_remove_13 : decode c_m_remove 13 = .ok (.imul, 1) := by decide +kernel
theorem d_m_remove_14 : decode c_m_remove 14 = .ok (.istore_n 2, 1) := by decide +kernel
theorem d_m_remove_15 : decode c_m_remove 15 = .ok (.iload_n 2, 1) := by decide +kernel
theorem d_m_remove_16 : decode c_m_remove 16 = .ok (.bipush 20, 2) := by decide +kernel
theorem d_m_remove_18 : decode c_m_remove 18 = .ok (.aload_n 0, 1) := by decide +kernel
theorem d_m_remove_19 : decode c_m_remove 19 = .ok (.getfield 52, 3) := by decide +kernel
theorem d_m_remove_22 : decode c_m_remove 22 = .ok (.imul, 1) := by decide +kernel
theorem d_m_remove_23 : decode c_m_remove 23 = .ok (.if_icmp .ge 24, 3) := by decide +kernel
theorem d_m_remove_26 : decode c_m_remove 26 = .ok (.aload_n 0, 1) := by decide +kernel
theorem d_m_remove_27 : decode c_m_remove 27 = .ok (.getfield 19, 3) := by decide +kernel
theorem d_m_remove_30 : decode c_m_remove 30 = .ok (.iload_n 2, 1) := by decide +kernel
theorem d_m_remove_31 : decode c_m_remove 31 = .ok (.aload_n 0, 1) := by decide +kernel
theorem d_m_remove_32 : decode c_m_remove 32 = .ok (.getfield 19, 3) := by decide +kernel
theorem d_m_remove_35 : decode c_m_remove 35 = .ok (.iload_n 2, 1) := by decide +kernel
theorem d_m_remove_36 : decode c_m_remove 36 = .ok (.bipush 20, 2) := by decide +kernel
theorem d_m_remove_38 : decode c_m_remove 38 = .ok (.iadd, 1) := by decide +kernel
theorem d_m_remove_39 : decode c_m_remove 39 = .ok (.iaload, 1) := by decide +kernel
theorem d_m_remove_40 : decode c_m_remove 40 = .ok (.iastore, 1) := by decide +kernel
theorem d_m_remove_41 : decode c_m_remove 41 = .ok (.iinc 2 1, 3) := by decide +kernel
theorem d_m_remove_44 : decode c_m_remove 44 = .ok (.goto (-29), 3) := by decide +kernel
theorem d_m_remove_47 : decode c_m_remove 47 = .ok (.return_, 1) := by decide +kernel
theorem d_m_find_0 : decode c_m_find 0 = .ok (.iconst 0, 1) := by decide +kernel
theorem d_m_find_1 : decode c_m_find 1 = .ok (.istore_n 2, 1) := by decide +kernel
theorem d_m_find_2 : decode c_m_find 2 = .ok (.iload_n 2, 1) := by decide +kernel
theorem d_m_find_3 : decode c_m_find 3 = .ok (.aload_n 0, 1) := by decide +kernel
theorem d_m_find_4 : decode c_m_find 4 = .ok (.getfield 52, 3) := by decide +kernel
theorem d_m_find_7 : decode c_m_find 7 = .ok (.if_icmp .ge 21, 3) := by decide +kernel
theorem d_m_find_10 : decode c_m_find 10 = .ok (.aload_n 0, 1) := by decide +kernel
theorem d_m_find_11 : decode c_m_find 11 = .ok (.iload_n 2, 1) := by decide +kernel
theorem d_m_find_12 : decode c_m_find 12 = .ok (.iconst 0, 1) := by decide +kernel
theorem d_m_find_13 : decode c_m_find 13 = .ok (.invokevirtual 48, 3) := by decide +kernel
theorem d_m_find_16 : decode c_m_find 16 = .ok (.iload_n 1, 1) := by decide +kernel
theorem d_m_find_17 : decode c_m_find 17 = .ok (.if_icmp .ne 5, 3) := by decide +kernel
theorem d_m_find_20 : decode c_m_find 20 = .ok (.iload_n 2, 1) := by decide +kernel
theorem d_m_find_21 : decode c_m_find 21 = .ok (.ireturn, 1) := by decide +kernel
theorem d_m_find_22 : decode c_m_find 22 = .ok (.iinc 2 1, 3) := by decide +kernel
theorem d_m_find_25 : decode c_m_find 25 = .ok (.goto (-23), 3) := by decide +kernel
theorem d_m_find_28 : decode c_m_find 28 = .ok (.iconst (-1), 1) := by decide +kernel
theorem d_m_find_29 : decode c_m_find 29 = .ok (.ireturn, 1) := by decide +kernel
theorem d_m_contour_0 : decode c_m_contour 0 = .ok (.aload_n 0, 1) := by decide +kernel
theorem d_m_contour_1 : decode c_m_contour 1 = .ok (.aload_n 0, 1) := by decide +kernel
theorem d_m_contour_2 : decode c_m_contour 2 = .ok (.getfield 55, 3) := by decide +kernel
theorem d_m_contour_5 : decode c_m_contour 5 = .ok (.iconst 1, 1) := by decide +kernel
theorem d_m_contour_6 : decode c_m_contour 6 = .ok (.invokevirtual 59, 3) := by decide +kernel
theorem d_m_contour_9 : decode c_m_contour 9 = .ok (.ifCond .ne 38, 3) := by decide +kernel
theorem d_m_contour_12 : decode c_m_contour 12 = .ok (.aload_n 0, 1) := by decide +kernel
theorem d_m_contour_13 : decode c_m_contour 13 = .ok (.iload_n 1, 1) := by decide +kernel
theorem d_m_contour_14 : decode c_m_contour 14 = .ok (.iconst 0, 1) := by decide +kernel
theorem d_m_contour_15 : decode c_m_contour 15 = .ok (.bipush 7, 2) := by decide +kernel
theorem d_m_contour_17 : decode c_m_contour 17 = .ok (.invokestatic 63, 3) := by decide +kernel
theorem d_m_contour_20 : decode c_m_contour 20 = .ok (.ifCond .eq 15, 3) := by decide +kernel
theorem d_m_contour_23 : decode c_m_contour 23 = .ok (.iload 4, 2) := by decide +kernel
theorem d_m_contour_25 : decode c_m_contour 25 = .ok (.iconst 0, 1) := by decide +kernel
theorem d_m_contour_26 : decode c_m_contour 26 = .ok (.sipush 2040, 3) := by decide +kernel
theorem d_m_contour_29 : decode c_m_contour 29 = .ok (.invokestatic 63, 3) := by decide +kernel
theorem d_m_contour_32 : decode c_m_contour 32 = .ok (.ifCond .ne 7, 3) := by decide +kernel
theorem d_m_contour_35 : decode c_m_contour 35 = .ok (.iconst 1, 1) := by decide +kernel
theorem d_m_contour_36 : decode c_m_contour 36 = .ok (.goto 4, 3) := by decide +kernel
theorem d_m_contour_39 : decode c_m_contour 39 = .ok (.iconst 0, 1) := by decide +kernel
theorem d_m_contour_40 : decode c_m_contour 40 = .ok (.iconst 2, 1) := by decide +kernel
theorem d_m_contour_41 : decode c_m_contour 41 = .ok (.invokevirtual 59, 3) := by decide +kernel
theorem d_m_contour_44 : decode c_m_contour 44 = .ok (.ifCond .eq 4, 3) := by decide +kernel
theorem d_m_contour_47 : decode c_m_contour 47 = .ok (.return_, 1) := by decide +kernel
theorem d_m_contour_48 : decode c_m_contour 48 = .ok (.iconst 0, 1) := by decide +kernel
theorem d_m_contour_49 : decode c_m_contour 49 = .ok (.istore 5, 2) := by decide +kernel
theorem d_m_contour_51 : decode c_m_contour 51 = .ok (.iload 5, 2) := by decide +kernel
theorem d_m_contour_53 : decode c_m_contour 53 = .ok (.bipush 8, 2) := by decide +kernel
theorem d_m_contour_55 : decode c_m_contour 55 = .ok (.if_icmp .ge 47, 3) := by decide +kernel
theorem d_m_contour_58 : decode c_m_contour 58 = .ok (.aload_n 0, 1) := by decide +kernel
theorem d_m_contour_59 : decode c_m_contour 59 = .ok (.getfield 7, 3) := by decide +kernel
theorem d_m_contour_62 : decode c_m_contour 62 = .ok (.bipush 8, 2) := by decide +kernel
theorem d_m_contour_64 : decode c_m_contour 64 = .ok (.iload_n 1, 1) := by decide +kernel
theorem d_m_contour_65 : decode c_m_contour 65 = .ok (.imul, 1) := by decide +kernel
theorem d_m_contour_66 : decode c_m_contour 66 = .ok (.iload 5, 2) := by decide +kernel
theorem d_m_contour_68 : decode c_m_contour 68 = .ok (.iadd, 1) := by decide +kernel
theorem d_m_contour_69 : decode c_m_contour 69 = .ok (.iload 5, 2) := by decide +kernel
theorem d_m_contour_71 : decode c_m_contour 71 = .ok (.iconst 4, 1) := by decide +kernel
theorem d_m_contour_72 : decode c_m_contour 72 = .ok (.if_icmp .ge 7, 3) := by decide +kernel
theorem d_m_contour_75 : decode c_m_contour 75 = .ok (.iload_n 2, 1) := by decide +kernel
theorem d_m_contour_76 : decode c_m_contour 76 = .ok (.goto 4, 3) := by decide +kernel
theorem d_m_contour_79 : decode c_m_contour 79 = .ok (.iload_n 3, 1) := by decide +kernel
theorem d_m_contour_80 : decode c_m_contour 80 = .ok (.bipush 24, 2) := by decide +kernel
theorem d_m_contour_82 : decode c_m_contour 82 = .ok (.bipush 8, 2) := by decide +kernel
theorem d_m_contour_84 : decode c_m_contour 84 = .ok (.iload 5, 2) := by decide +kernel
theorem d_m_contour_86 : decode c_m_contour 86 = .ok (.iconst 4, 1) := by decide +kernel
theorem d_m_contour_87 : decode c_m_contour 87 = .ok (.irem, 1) := by decide +kernel
theorem d_m_contour_88 : decode c_m_contour 88 = .ok (.imul, 1) := by decide +kernel
theorem d_m_contour_89 : decode c_m_contour 89 = .ok (.isub, 1) := by decide +kernel
theorem d_m_contour_90 : decode c_m_contour 90 = .ok (.ishr, 1) := by decide +kernel
theorem d_m_contour_91 : decode c_m_contour 91 = .ok (.sipush 255, 3) := by decide +kernel
theorem d_m_contour_94 : decode c_m_contour 94 = .ok (.iand, 1) := by decide +kernel
theorem d_m_contour_95 : decode c_m_contour 95 = .ok (.iastore, 1) := by decide +kernel
theorem d_m_contour_96 : decode c_m_contour 96 = .ok (.iinc 5 1, 3) := by decide +kernel
theorem d_m_contour_99 : decode c_m_contour 99 = .ok (.goto (-48), 3) := by decide +kernel
theorem d_m_contour_102 : decode c_m_contour 102 = .ok (.aload_n 0, 1) := by decide +kernel
theorem d_m_contour_103 : decode c_m_contour 103 = .ok (.getfield 13, 3) := by decide +kernel
theorem d_m_contour_106 : decode c_m_contour 106 = .ok (.iload_n 1, 1) := by decide +kernel
theorem d_m_contour_107 : decode c_m_contour 107 = .ok (.iload 4, 2) := by decide +kernel
theorem d_m_contour_109 : decode c_m_contour 109 = .ok (.iastore, 1) := by decide +kernel
theorem d_m_contour_110 : decode c_m_contour 110 = .ok (.return_, 1) := by decide +kernel
theorem d_m_kindOf_0 : decode c_m_kindOf 0 = .ok (.iconst 0, 1) := by decide +kernel
theorem d_m_kindOf_1 : decode c_m_kindOf 1 = .ok (.istore_n 2, 1) := by decide +kernel
theorem d_m_kindOf_2 : decode c_m_kindOf 2 = .ok (.iload_n 2, 1) := by decide +kernel
theorem d_m_kindOf_3 : decode c_m_kindOf 3 = .ok (.bipush 40, 2) := by decide +kernel
theorem d_m_kindOf_5 : decode c_m_kindOf 5 = .ok (.if_icmp .ge 24, 3) := by decide +kernel
theorem d_m_kindOf_8 : decode c_m_kindOf 8 = .ok (.aload_n 0, 1) := by decide +kernel
theorem d_m_kindOf_9 : decode c_m_kindOf 9 = .ok (.getfield 16, 3) := by decide +kernel
theorem d_m_kindOf_12 : decode c_m_kindOf 12 = .ok (.bipush 6, 2) := by decide +kernel
theorem d_m_kindOf_14 : decode c_m_kindOf 14 = .ok (.iload_n 2, 1) := by decide +kernel
theorem d_m_kindOf_15 : decode c_m_kindOf 15 = .ok (.imul, 1) := by decide +kernel
theorem d_m_kindOf_16 : decode c_m_kindOf 16 = .ok (.iaload, 1) := by decide +kernel
theorem d_m_kindOf_17 : decode c_m_kindOf 17 = .ok (.iload_n 1, 1) := by decide +kernel
theorem d_m_kindOf_18 : decode c_m_kindOf 18 = .ok (.if_icmp .ne 5, 3) := by decide +kernel
theorem d_m_kindOf_21 : decode c_m_kindOf 21 = .ok (.iload_n 2, 1) := by decide +kernel
theorem d_m_kindOf_22 : decode c_m_kindOf 22 = .ok (.ireturn, 1) := by decide +kernel
theorem d_m_kindOf_23 : decode c_m_kindOf 23 = .ok (.iinc 2 1, 3) := by decide +kernel
theorem d_m_kindOf_26 : decode c_m_kindOf 26 = .ok (.goto (-24), 3) := by decide +kernel
theorem d_m_kindOf_29 : decode c_m_kindOf 29 = .ok (.iconst (-1), 1) := by decide +kernel
theorem d_m_kindOf_30 : decode c_m_kindOf 30 = .ok (.ireturn, 1) := by decide +kernel
theorem d_m_kind_0 : decode c_m_kind 0 = .ok (.iload_n 1, 1) := by decide +kernel
theorem d_m_kind_1 : decode c_m_kind 1 = .ok (.iconst 0, 1) := by decide +kernel
theorem d_m_kind_2 : decode c_m_kind 2 = .ok (.bipush 39, 2) := by decide +kernel
theorem d_m_kind_4 : decode c_m_kind 4 = .ok (.invokestatic 63, 3) := by decide +kernel
theorem d_m_kind_7 : decode c_m_kind 7 = .ok (.ifCond .eq 80, 3) := by decide +kernel
theorem d_m_kind_10 : decode c_m_kind 10 = .ok (.iload_n 2, 1) := by decide +kernel
theorem d_m_kind_11 : decode c_m_kind 11 = .ok (.iconst 1, 1) := by decide +kernel
theorem d_m_kind_12 : decode c_m_kind 12 = .ok (.ldc 67, 2) := by decide +kernel
theorem d_m_kind_14 : decode c_m_kind 14 = .ok (.invokestatic 63, 3) := by decide +kernel
theorem d_m_kind_17 : decode c_m_kind 17 = .ok (.ifCond .eq 70, 3) := by decide +kernel
theorem d_m_kind_20 : decode c_m_kind 20 = .ok (.iload_n 3, 1) := by decide +kernel
theorem d_m_kind_21 : decode c_m_kind 21 = .ok (.iconst 1, 1) := by decide +kernel
theorem d_m_kind_22 : decode c_m_kind 22 = .ok (.sipush 500, 3) := by decide +kernel
theorem d_m_kind_25 : decode c_m_kind 25 = .ok (.invokestatic 63, 3) := by decide +kernel
theorem d_m_kind_28 : decode c_m_kind 28 = .ok (.ifCond .eq 59, 3) := by decide +kernel
theorem d_m_kind_31 : decode c_m_kind 31 = .ok (.iload 4, 2) := by decide +kernel
theorem d_m_kind_33 : decode c_m_kind 33 = .ok (.iconst 0, 1) := by decide +kernel
theorem d_m_kind_34 : decode c_m_kind 34 = .ok (.iconst 2, 1) := by decide +kernel
theorem d_m_kind_35 : decode c_m_kind 35 = .ok (.invokestatic 63, 3) := by decide +kernel
theorem d_m_kind_38 : decode c_m_kind 38 = .ok (.ifCond .eq 49, 3) := by decide +kernel
theorem d_m_kind_41 : decode c_m_kind 41 = .ok (.iload 5, 2) := by decide +kernel
theorem d_m_kind_43 : decode c_m_kind 43 = .ok (.iconst 0, 1) := by decide +kernel
theorem d_m_kind_44 : decode c_m_kind 44 = .ok (.sipush 5000, 3) := by decide +kernel
theorem d_m_kind_47 : decode c_m_kind 47 = .ok (.invokestatic 63, 3) := by decide +kernel
theorem d_m_kind_50 : decode c_m_kind 50 = .ok (.ifCond .eq 37, 3) := by decide +kernel
theorem d_m_kind_53 : decode c_m_kind 53 = .ok (.iload 6, 2) := by decide +kernel
theorem d_m_kind_55 : decode c_m_kind 55 = .ok (.iconst 0, 1) := by decide +kernel
theorem d_m_kind_56 : decode c_m_kind 56 = .ok (.sipush 5000, 3) := by decide +kernel
theorem d_m_kind_59 : decode c_m_kind 59 = .ok (.invokestatic 63, 3) := by decide +kernel
theorem d_m_kind_62 : decode c_m_kind 62 = .ok (.ifCond .eq 25, 3) := by decide +kernel
theorem d_m_kind_65 : decode c_m_kind 65 = .ok (.iload 5, 2) := by decide +kernel
theorem d_m_kind_67 : decode c_m_kind 67 = .ok (.iload 6, 2) := by decide +kernel
theorem d_m_kind_69 : decode c_m_kind 69 = .ok (.if_icmp .gt 18, 3) := by decide +kernel
theorem d_m_kind_72 : decode c_m_kind 72 = .ok (.iload 7, 2) := by decide +kernel
theorem d_m_kind_74 : decode c_m_kind 74 = .ok (.iconst 0, 1) := by decide +kernel
theorem d_m_kind_75 : decode c_m_kind 75 = .ok (.bipush 7, 2) := by decide +kernel
theorem d_m_kind_77 : decode c_m_kind 77 = .ok (.invokestatic 63, 3) := by decide +kernel
theorem d_m_kind_80 : decode c_m_kind 80 = .ok (.ifCond .eq 7, 3) := by decide +kernel
theorem d_m_kind_83 : decode c_m_kind 83 = .ok (.iconst 1, 1) := by decide +kernel
theorem d_m_kind_84 : decode c_m_kind 84 = .ok (.goto 4, 3) := by decide +kernel
theorem d_m_kind_87 : decode c_m_kind 87 = .ok (.iconst 0, 1) := by decide +kernel
theorem d_m_kind_88 : decode c_m_kind 88 = .ok (.istore 8, 2) := by decide +kernel
theorem d_m_kind_90 : decode c_m_kind 90 = .ok (.aload_n 0, 1) := by decide +kernel
theorem d_m_kind_91 : decode c_m_kind 91 = .ok (.aload_n 0, 1) := by decide +kernel
theorem d_m_kind_92 : decode c_m_kind 92 = .ok (.getfield 55, 3) := by decide +kernel
theorem d_m_kind_95 : decode c_m_kind 95 = .ok (.ifCond .ne 10, 3) := by decide +kernel
theorem d_m_kind_98 : decode c_m_kind 98 = .ok (.aload_n 0, 1) := by decide +kernel
theorem d_m_kind_99 : decode c_m_kind 99 = .ok (.getfield 52, 3) := by decide +kernel
theorem d_m_kind_102 : decode c_m_kind 102 = .ok (.ifCond .le 7, 3) := by decide +kernel
theorem d_m_kind_105 : decode c_m_kind 105 = .ok (.iconst 1, 1) := by decide +kernel
theorem d_m_kind_106 : decode c_m_kind 106 = .ok (.goto 4, 3) := by decide +kernel
theorem d_m_kind_109 : decode c_m_kind 109 = .ok (.iconst 0, 1) := by decide +kernel
theorem d_m_kind_110 : decode c_m_kind 110 = .ok (.iconst 1, 1) := by decide +kernel
theorem d_m_kind_111 : decode c_m_kind 111 = .ok (.invokevirtual 59, 3) := by decide +kernel
theorem d_m_kind_114 : decode c_m_kind 114 = .ok (.ifCond .ne 21, 3) := by decide +kernel
theorem d_m_kind_117 : decode c_m_kind 117 = .ok (.aload_n 0, 1) := by decide +kernel
theorem d_m_kind_118 : decode c_m_kind 118 = .ok (.iload 8, 2) := by decide +kernel
theorem d_m_kind_120 : decode c_m_kind 120 = .ok (.ifCond .ne 7, 3) := by decide +kernel
theorem d_m_kind_123 : decode c_m_kind 123 = .ok (.iconst 1, 1) := by decide +kernel
theorem d_m_kind_124 : decode c_m_kind 124 = .ok (.goto 4, 3) := by decide +kernel
theorem d_m_kind_127 : decode c_m_kind 127 = .ok (.iconst 0, 1) := by decide +kernel
theorem d_m_kind_128 : decode c_m_kind 128 = .ok (.iconst 2, 1) := by decide +kernel
theorem d_m_kind_129 : decode c_m_kind 129 = .ok (.invokevirtual 59, 3) := by decide +kernel
theorem d_m_kind_132 : decode c_m_kind 132 = .ok (.ifCond .eq 5, 3) := by decide +kernel
theorem d_m_kind_135 : decode c_m_kind 135 = .ok (.iconst 0, 1) := by decide +kernel
theorem d_m_kind_136 : decode c_m_kind 136 = .ok (.ireturn, 1) := by decide +kernel
theorem d_m_kind_137 : decode c_m_kind 137 = .ok (.aload_n 0, 1) := by decide +kernel
theorem d_m_kind_138 : decode c_m_kind 138 = .ok (.iload_n 2, 1) := by decide +kernel
theorem d_m_kind_139 : decode c_m_kind 139 = .ok (.invokevirtual 68, 3) := by decide +kernel
theorem d_m_kind_142 : decode c_m_kind 142 = .ok (.istore 9, 2) := by decide +kernel
theorem d_m_kind_144 : decode c_m_kind 144 = .ok (.iload 9, 2) := by decide +kernel
theorem d_m_kind_146 : decode c_m_kind 146 = .ok (.iconst (-1), 1) := by decide +kernel
theorem d_m_kind_147 : decode c_m_kind 147 = .ok (.if_icmp .eq 14, 3) := by decide +kernel
theorem d_m_kind_150 : decode c_m_kind 150 = .ok (.aload_n 0, 1) := by decide +kernel
theorem d_m_kind_151 : decode c_m_kind 151 = .ok (.getfield 16, 3) := by decide +kernel
theorem d_m_kind_154 : decode c_m_kind 154 = .ok (.bipush 6, 2) := by decide +kernel
theorem d_m_kind_156 : decode c_m_kind 156 = .ok (.iload 9, 2) := by decide +kernel
theorem d_m_kind_158 : decode c_m_kind 158 = .ok (.imul, 1) := by decide +kernel
theorem d_m_kind_159 : decode c_m_kind 159 = .ok (.iconst 0, 1) := by decide +kernel
theorem d_m_kind_160 : decode c_m_kind 160 = .ok (.iastore, 1) := by decide +kernel
theorem d_m_kind_161 : decode c_m_kind 161 = .ok (.bipush 6, 2) := by decide +kernel
theorem d_m_kind_163 : decode c_m_kind 163 = .ok (.iload_n 1, 1) := by decide +kernel
theorem d_m_kind_164 : decode c_m_kind 164 = .ok (.imul, 1) := by decide +kernel
theorem d_m_kind_165 : decode c_m_kind 165 = .ok (.istore 10, 2) := by decide +kernel
theorem d_m_kind_167 : decode c_m_kind 167 = .ok (.aload_n 0, 1) := by decide +kernel
theorem d_m_kind_168 : decode c_m_kind 168 = .ok (.getfield 16, 3) := by decide +kernel
theorem d_m_kind_171 : decode c_m_kind 171 = .ok (.iload 10, 2) := by decide +kernel
theorem d_m_kind_173 : decode c_m_kind 173 = .ok (.iload_n 2, 1) := by decide +kernel
theorem d_m_kind_174 : decode c_m_kind 174 = .ok (.iastore, 1) := by decide +kernel
theorem d_m_kind_175 : decode c_m_kind 175 = .ok (.aload_n 0, 1) := by decide +kernel
theorem d_m_kind_176 : decode c_m_kind 176 = .ok (.getfield 16, 3) := by decide +kernel
theorem d_m_kind_179 : decode c_m_kind 179 = .ok (.iload 10, 2) := by decide +kernel
theorem d_m_kind_181 : decode c_m_kind 181 = .ok (.iconst 1, 1) := by decide +kernel
theorem d_m_kind_182 : decode c_m_kind 182 = .ok (.iadd, 1) := by decide +kernel
theorem d_m_kind_183 : decode c_m_kind 183 = .ok (.iload_n 3, 1) := by decide +kernel
theorem d_m_kind_184 : decode c_m_kind 184 = .ok (.iastore, 1) := by decide +kernel
theorem d_m_kind_185 : decode c_m_kind 185 = .ok (.aload_n 0, 1) := by decide +kernel
theorem d_m_kind_186 : decode c_m_kind 186 = .ok (.getfield 16, 3) := by decide +kernel
theorem d_m_kind_189 : decode c_m_kind 189 = .ok (.iload 10, 2) := by decide +kernel
theorem d_m_kind_191 : decode c_m_kind 191 = .ok (.iconst 2, 1) := by decide +kernel
theorem d_m_kind_192 : decode c_m_kind 192 = .ok (.iadd, 1) := by decide +kernel
theorem d_m_kind_193 : decode c_m_kind 193 = .ok (.iload 4, 2) := by decide +kernel
theorem d_m_kind_195 : decode c_m_kind 195 = .ok (.iastore, 1) := by decide +kernel
theorem d_m_kind_196 : decode c_m_kind 196 = .ok (.aload_n 0, 1) := by decide +kernel
theorem d_m_kind_197 : decode c_m_kind 197 = .ok (.getfield 16, 3) := by decide +kernel
theorem d_m_kind_200 : decode c_m_kind 200 = .ok (.iload 10, 2) := by decide +kernel
theorem d_m_kind_202 : decode c_m_kind 202 = .ok (.iconst 3, 1) := by decide +kernel
theorem d_m_kind_203 : decode c_m_kind 203 = .ok (.iadd, 1) := by decide +kernel
theorem d_m_kind_204 : decode c_m_kind 204 = .ok (.iload 5, 2) := by decide +kernel
theorem d_m_kind_206 : decode c_m_kind 206 = .ok (.iastore, 1) := by decide +kernel
theorem d_m_kind_207 : decode c_m_kind 207 = .ok (.aload_n 0, 1) := by decide +kernel
theorem d_m_kind_208 : decode c_m_kind 208 = .ok (.getfield 16, 3) := by decide +kernel
theorem d_m_kind_211 : decode c_m_kind 211 = .ok (.iload 10, 2) := by decide +kernel
theorem d_m_kind_213 : decode c_m_kind 213 = .ok (.iconst 4, 1) := by decide +kernel
theorem d_m_kind_214 : decode c_m_kind 214 = .ok (.iadd, 1) := by decide +kernel
theorem d_m_kind_215 : decode c_m_kind 215 = .ok (.iload 6, 2) := by decide +kernel
theorem d_m_kind_217 : decode c_m_kind 217 = .ok (.iastore, 1) := by decide +kernel
theorem d_m_kind_218 : decode c_m_kind 218 = .ok (.aload_n 0, 1) := by decide +kernel
theorem d_m_kind_219 : decode c_m_kind 219 = .ok (.getfield 16, 3) := by decide +kernel
theorem d_m_kind_222 : decode c_m_kind 222 = .ok (.iload 10, 2) := by decide +kernel
theorem d_m_kind_224 : decode c_m_kind 224 = .ok (.iconst 5, 1) := by decide +kernel
theorem d_m_kind_225 : decode c_m_kind 225 = .ok (.iadd, 1) := by decide +kernel
theorem d_m_kind_226 : decode c_m_kind 226 = .ok (.iload 7, 2) := by decide +kernel
theorem d_m_kind_228 : decode c_m_kind 228 = .ok (.iastore, 1) := by decide +kernel
theorem d_m_kind_229 : decode c_m_kind 229 = .ok (.iload 9, 2) := by decide +kernel
theorem d_m_kind_231 : decode c_m_kind 231 = .ok (.ireturn, 1) := by decide +kernel
theorem d_m_enter_0 : decode c_m_enter 0 = .ok (.aload_n 0, 1) := by decide +kernel
theorem d_m_enter_1 : decode c_m_enter 1 = .ok (.aload_n 0, 1) := by decide +kernel
theorem d_m_enter_2 : decode c_m_enter 2 = .ok (.getfield 55, 3) := by decide +kernel
theorem d_m_enter_5 : decode c_m_enter 5 = .ok (.iconst 1, 1) := by decide +kernel
theorem d_m_enter_6 : decode c_m_enter 6 = .ok (.invokevirtual 59, 3) := by decide +kernel
theorem d_m_enter_9 : decode c_m_enter 9 = .ok (.ifCond .ne 26, 3) := by decide +kernel
theorem d_m_enter_12 : decode c_m_enter 12 = .ok (.aload_n 0, 1) := by decide +kernel
theorem d_m_enter_13 : decode c_m_enter 13 = .ok (.iload_n 1, 1) := by decide +kernel
theorem d_m_enter_14 : decode c_m_enter 14 = .ok (.iconst 5, 1) := by decide +kernel
theorem d_m_enter_15 : decode c_m_enter 15 = .ok (.bipush 40, 2) := by decide +kernel
theorem d_m_enter_17 : decode c_m_enter 17 = .ok (.invokestatic 63, 3) := by decide +kernel
theorem d_m_enter_20 : decode c_m_enter 20 = .ok (.ifCond .ne 7, 3) := by decide +kernel
theorem d_m_enter_23 : decode c_m_enter 23 = .ok (.iconst 1, 1) := by decide +kernel
theorem d_m_enter_24 : decode c_m_enter 24 = .ok (.goto 4, 3) := by decide +kernel
theorem d_m_enter_27 : decode c_m_enter 27 = .ok (.iconst 0, 1) := by decide +kernel
theorem d_m_enter_28 : decode c_m_enter 28 = .ok (.iconst 2, 1) := by decide +kernel
theorem d_m_enter_29 : decode c_m_enter 29 = .ok (.invokevirtual 59, 3) := by decide +kernel
theorem d_m_enter_32 : decode c_m_enter 32 = .ok (.ifCond .eq 5, 3) := by decide +kernel
theorem d_m_enter_35 : decode c_m_enter 35 = .ok (.iconst 0, 1) := by decide +kernel
theorem d_m_enter_36 : decode c_m_enter 36 = .ok (.ireturn, 1) := by decide +kernel
theorem d_m_enter_37 : decode c_m_enter 37 = .ok (.aload_n 0, 1) := by decide +kernel
theorem d_m_enter_38 : decode c_m_enter 38 = .ok (.getfield 52, 3) := by decide +kernel
theorem d_m_enter_41 : decode c_m_enter 41 = .ok (.ifCond .le 19, 3) := by decide +kernel
theorem d_m_enter_44 : decode c_m_enter 44 = .ok (.aload_n 0, 1) := by decide +kernel
theorem d_m_enter_45 : decode c_m_enter 45 = .ok (.aload_n 0, 1) := by decide +kernel
theorem d_m_enter_46 : decode c_m_enter 46 = .ok (.getfield 52, 3) := by decide +kernel
theorem d_m_enter_49 : decode c_m_enter 49 = .ok (.iconst 1, 1) := by decide +kernel
theorem d_m_enter_50 : decode c_m_enter 50 = .ok (.isub, 1) := by decide +kernel
theorem d_m_enter_51 : decode c_m_enter 51 = .ok (.invokevirtual 72, 3) := by decide +kernel
theorem d_m_enter_54 : decode c_m_enter 54 = .ok (.iconst 4, 1) := by decide +kernel
theorem d_m_enter_55 : decode c_m_enter 55 = .ok (.if_icmp .ge 5, 3) := by decide +kernel
theorem d_m_enter_58 : decode c_m_enter 58 = .ok (.iconst 0, 1) := by decide +kernel
theorem d_m_enter_59 : decode c_m_enter 59 = .ok (.ireturn, 1) := by decide +kernel
theorem d_m_enter_60 : decode c_m_enter 60 = .ok (.aload_n 0, 1) := by decide +kernel
theorem d_m_enter_61 : decode c_m_enter 61 = .ok (.dup, 1) := by decide +kernel
theorem d_m_enter_62 : decode c_m_enter 62 = .ok (.getfield 75, 3) := by decide +kernel
theorem d_m_enter_65 : decode c_m_enter 65 = .ok (.iconst 1, 1) := by decide +kernel
theorem d_m_enter_66 : decode c_m_enter 66 = .ok (.iadd, 1) := by decide +kernel
theorem d_m_enter_67 : decode c_m_enter 67 = .ok (.putfield 75, 3) := by decide +kernel
theorem d_m_enter_70 : decode c_m_enter 70 = .ok (.iconst 0, 1) := by decide +kernel
theorem d_m_enter_71 : decode c_m_enter 71 = .ok (.istore_n 2, 1) := by decide +kernel
theorem d_m_enter_72 : decode c_m_enter 72 = .ok (.iload_n 2, 1) := by decide +kernel
theorem d_m_enter_73 : decode c_m_enter 73 = .ok (.bipush 20, 2) := by decide +kernel
theorem d_m_enter_75 : decode c_m_enter 75 = .ok (.if_icmp .ge 19, 3) := by decide +kernel
theorem d_m_enter_78 : decode c_m_enter 78 = .ok (.aload_n 0, 1) := by decide +kernel
theorem d_m_enter_79 : decode c_m_enter 79 = .ok (.aload_n 0, 1) := by decide +kernel
theorem d_m_enter_80 : decode c_m_enter 80 = .ok (.getfield 52, 3) := by decide +kernel
theorem d_m_enter_83 : decode c_m_enter 83 = .ok (.iload_n 2, 1) := by decide +kernel
theorem d_m_enter_84 : decode c_m_enter 84 = .ok (.iconst 0, 1) := by decide +kernel
theorem d_m_enter_85 : decode c_m_enter 85 = .ok (.invokevirtual 78, 3) := by decide +kernel
theorem d_m_enter_88 : decode c_m_enter 88 = .ok (.iinc 2 1, 3) := by decide +kernel
theorem d_m_enter_91 : decode c_m_enter 91 = .ok (.goto (-19), 3) := by decide +kernel
theorem d_m_enter_94 : decode c_m_enter 94 = .ok (.aload_n 0, 1) := by decide +kernel
theorem d_m_enter_95 : decode c_m_enter 95 = .ok (.aload_n 0, 1) := by decide +kernel
theorem d_m_enter_96 : decode c_m_enter 96 = .ok (.getfield 52, 3) := by decide +kernel
theorem d_m_enter_99 : decode c_m_enter 99 = .ok (.iconst 0, 1) := by decide +kernel
theorem d_m_enter_100 : decode c_m_enter 100 = .ok (.aload_n 0, 1) := by decide +kernel
theorem d_m_enter_101 : decode c_m_enter 101 = .ok (.getfield 75, 3) := by decide +kernel
theorem d_m_enter_104 : decode c_m_enter 104 = .ok (.invokevirtual 78, 3) := by decide +kernel
theorem d_m_enter_107 : decode c_m_enter 107 = .ok (.aload_n 0, 1) := by decide +kernel
theorem d_m_enter_108 : decode c_m_enter 108 = .ok (.aload_n 0, 1) := by decide +kernel
theorem d_m_enter_109 : decode c_m_enter 109 = .ok (.getfield 52, 3) := by decide +kernel
theorem d_m_enter_112 : decode c_m_enter 112 = .ok (.iconst 1, 1) := by decide +kernel
theorem d_m_enter_113 : decode c_m_enter 113 = .ok (.iload_n 1, 1) := by decide +kernel
theorem d_m_enter_114 : decode c_m_enter 114 = .ok (.invokevirtual 78, 3) := by decide +kernel
theorem d_m_enter_117 : decode c_m_enter 117 = .ok (.aload_n 0, 1) := by decide +kernel
theorem d_m_enter_118 : decode c_m_enter 118 = .ok (.aload_n 0, 1) := by decide +kernel
theorem d_m_enter_119 : decode c_m_enter 119 = .ok (.getfield 52, 3) := by decide +kernel
theorem d_m_enter_122 : decode c_m_enter 122 = .ok (.iconst 4, 1) := by decide +kernel
theorem d_m_enter_123 : decode c_m_enter 123 = .ok (.iconst (-1), 1) := by decide +kernel
theorem d_m_enter_124 : decode c_m_enter 124 = .ok (.invokevirtual 78, 3) := by decide +kernel
theorem d_m_enter_127 : decode c_m_enter 127 = .ok (.aload_n 0, 1) := by decide +kernel
theorem d_m_enter_128 : decode c_m_enter 128 = .ok (.aload_n 0, 1) := by decide +kernel
theorem d_m_enter_129 : decode c_m_enter 129 = .ok (.getfield 52, 3) := by decide +kernel
theorem d_m_enter_132 : decode c_m_enter 132 = .ok (.bipush 6, 2) := by decide +kernel
theorem d_m_enter_134 : decode c_m_enter 134 = .ok (.iconst (-1), 1) := by decide +kernel
theorem d_m_enter_135 : decode c_m_enter 135 = .ok (.invokevirtual 78, 3) := by decide +kernel
theorem d_m_enter_138 : decode c_m_enter 138 = .ok (.aload_n 0, 1) := by decide +kernel
theorem d_m_enter_139 : decode c_m_enter 139 = .ok (.dup, 1) := by decide +kernel
theorem d_m_enter_140 : decode c_m_enter 140 = .ok (.getfield 52, 3) := by decide +kernel
theorem d_m_enter_143 : decode c_m_enter 143 = .ok (.iconst 1, 1) := by decide +kernel
theorem d_m_enter_144 : decode c_m_enter 144 = .ok (.iadd, 1) := by decide +kernel
theorem d_m_enter_145 : decode c_m_enter 145 = .ok (.putfield 52, 3) := by decide +kernel
theorem d_m_enter_148 : decode c_m_enter 148 = .ok (.aload_n 0, 1) := by decide +kernel
theorem d_m_enter_149 : decode c_m_enter 149 = .ok (.getfield 75, 3) := by decide +kernel
theorem d_m_enter_152 : decode c_m_enter 152 = .ok (.ireturn, 1) := by decide +kernel
theorem d_m_over_0 : decode c_m_over 0 = .ok (.iconst 0, 1) := by decide +kernel
theorem d_m_over_1 : decode c_m_over 1 = .ok (.istore_n 2, 1) := by decide +kernel
theorem d_m_over_2 : decode c_m_over 2 = .ok (.iload_n 2, 1) := by decide +kernel
theorem d_m_over_3 : decode c_m_over 3 = .ok (.aload_n 0, 1) := by decide +kernel
theorem d_m_over_4 : decode c_m_over 4 = .ok (.getfield 52, 3) := by decide +kernel
theorem d_m_over_7 : decode c_m_over 7 = .ok (.if_icmp .ge 30, 3) := by decide +kernel
theorem d_m_over_10 : decode c_m_over 10 = .ok (.aload_n 0, 1) := by decide +kernel
theorem d_m_over_11 : decode c_m_over 11 = .ok (.iload_n 2, 1) := by decide +kernel
theorem d_m_over_12 : decode c_m_over 12 = .ok (.invokevirtual 72, 3) := by decide +kernel
theorem d_m_over_15 : decode c_m_over 15 = .ok (.iload_n 1, 1) := by decide +kernel
theorem d_m_over_16 : decode c_m_over 16 = .ok (.if_icmp .ge 15, 3) := by decide +kernel
theorem d_m_over_19 : decode c_m_over 19 = .ok (.aload_n 0, 1) := by decide +kernel
theorem d_m_over_20 : decode c_m_over 20 = .ok (.iload_n 2, 1) := by decide +kernel
theorem d_m_over_21 : decode c_m_over 21 = .ok (.iconst 2, 1) := by decide +kernel
theorem d_m_over_22 : decode c_m_over 22 = .ok (.invokevirtual 48, 3) := by decide +kernel
theorem d_m_over_25 : decode c_m_over 25 = .ok (.iload_n 1, 1) := by decide +kernel
theorem d_m_over_26 : decode c_m_over 26 = .ok (.if_icmp .lt 5, 3) := by decide +kernel
theorem d_m_over_29 : decode c_m_over 29 = .ok (.iload_n 2, 1) := by decide +kernel
theorem d_m_over_30 : decode c_m_over 30 = .ok (.ireturn, 1) := by decide +kernel
theorem d_m_over_31 : decode c_m_over 31 = .ok (.iinc 2 1, 3) := by decide +kernel
theorem d_m_over_34 : decode c_m_over 34 = .ok (.goto (-32), 3) := by decide +kernel
theorem d_m_over_37 : decode c_m_over 37 = .ok (.iconst (-1), 1) := by decide +kernel
theorem d_m_over_38 : decode c_m_over 38 = .ok (.ireturn, 1) := by decide +kernel
theorem d_m_code_0 : decode c_m_code 0 = .ok (.aload_n 0, 1) := by decide +kernel
theorem d_m_code_1 : decode c_m_code 1 = .ok (.aload_n 0, 1) := by decide +kernel
theorem d_m_code_2 : decode c_m_code 2 = .ok (.getfield 55, 3) := by decide +kernel
theorem d_m_code_5 : decode c_m_code 5 = .ok (.iconst 1, 1) := by decide +kernel
theorem d_m_code_6 : decode c_m_code 6 = .ok (.invokevirtual 59, 3) := by decide +kernel
theorem d_m_code_9 : decode c_m_code 9 = .ok (.ifCond .ne 26, 3) := by decide +kernel
theorem d_m_code_12 : decode c_m_code 12 = .ok (.aload_n 0, 1) := by decide +kernel
theorem d_m_code_13 : decode c_m_code 13 = .ok (.iload_n 1, 1) := by decide +kernel
theorem d_m_code_14 : decode c_m_code 14 = .ok (.iconst 1, 1) := by decide +kernel
theorem d_m_code_15 : decode c_m_code 15 = .ok (.ldc 67, 2) := by decide +kernel
theorem d_m_code_17 : decode c_m_code 17 = .ok (.invokestatic 63, 3) := by decide +kernel
theorem d_m_code_20 : decode c_m_code 20 = .ok (.ifCond .ne 7, 3) := by decide +kernel
theorem d_m_code_23 : decode c_m_code 23 = .ok (.iconst 1, 1) := by decide +kernel
theorem d_m_code_24 : decode c_m_code 24 = .ok (.goto 4, 3) := by decide +kernel
theorem d_m_code_27 : decode c_m_code 27 = .ok (.iconst 0, 1) := by decide +kernel
theorem d_m_code_28 : decode c_m_code 28 = .ok (.iconst 2, 1) := by decide +kernel
theorem d_m_code_29 : decode c_m_code 29 = .ok (.invokevirtual 59, 3) := by decide +kernel
theorem d_m_code_32 : decode c_m_code 32 = .ok (.ifCond .eq 5, 3) := by decide +kernel
theorem d_m_code_35 : decode c_m_code 35 = .ok (.iconst 0, 1) := by decide +kernel
theorem d_m_code_36 : decode c_m_code 36 = .ok (.ireturn, 1) := by decide +kernel
theorem d_m_code_37 : decode c_m_code 37 = .ok (.aload_n 0, 1) := by decide +kernel
theorem d_m_code_38 : decode c_m_code 38 = .ok (.bipush 15, 2) := by decide +kernel
theorem d_m_code_40 : decode c_m_code 40 = .ok (.invokevirtual 82, 3) := by decide +kernel
theorem d_m_code_43 : decode c_m_code 43 = .ok (.istore_n 2, 1) := by decide +kernel
theorem d_m_code_44 : decode c_m_code 44 = .ok (.iload_n 2, 1) := by decide +kernel
theorem d_m_code_45 : decode c_m_code 45 = .ok (.iconst (-1), 1) := by decide +kernel
theorem d_m_code_46 : decode c_m_code 46 = .ok (.if_icmp .eq 14, 3) := by decide +kernel
theorem d_m_code_49 : decode c_m_code 49 = .ok (.aload_n 0, 1) := by decide +kernel
theorem d_m_code_50 : decode c_m_code 50 = .ok (.iload_n 2, 1) := by decide +kernel
theorem d_m_code_51 : decode c_m_code 51 = .ok (.bipush 7, 2) := by decide +kernel
theorem d_m_code_53 : decode c_m_code 53 = .ok (.invokevirtual 48, 3) := by decide +kernel
theorem d_m_code_56 : decode c_m_code 56 = .ok (.iconst 3, 1) := by decide +kernel
theorem d_m_code_57 : decode c_m_code 57 = .ok (.if_icmp .ne 5, 3) := by decide +kernel
theorem d_m_code_60 : decode c_m_code 60 = .ok (.iconst 0, 1) := by decide +kernel
theorem d_m_code_61 : decode c_m_code 61 = .ok (.ireturn, 1) := by decide +kernel
theorem d_m_code_62 : decode c_m_code 62 = .ok (.aload_n 0, 1) := by decide +kernel
theorem d_m_code_63 : decode c_m_code 63 = .ok (.iload_n 2, 1) := by decide +kernel
theorem d_m_code_64 : decode c_m_code 64 = .ok (.bipush 9, 2) := by decide +kernel
theorem d_m_code_66 : decode c_m_code 66 = .ok (.aload_n 0, 1) := by decide +kernel
theorem d_m_code_67 : decode c_m_code 67 = .ok (.iload_n 2, 1) := by decide +kernel
theorem d_m_code_68 : decode c_m_code 68 = .ok (.bipush 7, 2) := by decide +kernel
theorem d_m_code_70 : decode c_m_code 70 = .ok (.invokevirtual 48, 3) := by decide +kernel
theorem d_m_code_73 : decode c_m_code 73 = .ok (.iadd, 1) := by decide +kernel
theorem d_m_code_74 : decode c_m_code 74 = .ok (.iload_n 1, 1) := by decide +kernel
theorem d_m_code_75 : decode c_m_code 75 = .ok (.invokevirtual 78, 3) := by decide +kernel
theorem d_m_code_78 : decode c_m_code 78 = .ok (.aload_n 0, 1) := by decide +kernel
theorem d_m_code_79 : decode c_m_code 79 = .ok (.iload_n 2, 1) := by decide +kernel
theorem d_m_code_80 : decode c_m_code 80 = .ok (.bipush 7, 2) := by decide +kernel
theorem d_m_code_82 : decode c_m_code 82 = .ok (.aload_n 0, 1) := by decide +kernel
theorem d_m_code_83 : decode c_m_code 83 = .ok (.iload_n 2, 1) := by decide +kernel
theorem d_m_code_84 : decode c_m_code 84 = .ok (.bipush 7, 2) := by decide +kernel
theorem d_m_code_86 : decode c_m_code 86 = .ok (.invokevirtual 48, 3) := by decide +kernel
theorem d_m_code_89 : decode c_m_code 89 = .ok (.iconst 1, 1) := by decide +kernel
theorem d_m_code_90 : decode c_m_code 90 = .ok (.iadd, 1) := by decide +kernel
theorem d_m_code_91 : decode c_m_code 91 = .ok (.invokevirtual 78, 3) := by decide +kernel
theorem d_m_code_94 : decode c_m_code 94 = .ok (.iconst 1, 1) := by decide +kernel
theorem d_m_code_95 : decode c_m_code 95 = .ok (.ireturn, 1) := by decide +kernel
theorem d_m_width_0 : decode c_m_width 0 = .ok (.aload_n 0, 1) := by decide +kernel
theorem d_m_width_1 : decode c_m_width 1 = .ok (.aload_n 0, 1) := by decide +kernel
theorem d_m_width_2 : decode c_m_width 2 = .ok (.getfield 55, 3) := by decide +kernel
theorem d_m_width_5 : decode c_m_width 5 = .ok (.iconst 1, 1) := by decide +kernel
theorem d_m_width_6 : decode c_m_width 6 = .ok (.invokevirtual 59, 3) := by decide +kernel
theorem d_m_width_9 : decode c_m_width 9 = .ok (.ifCond .ne 27, 3) := by decide +kernel
theorem d_m_width_12 : decode c_m_width 12 = .ok (.aload_n 0, 1) := by decide +kernel
theorem d_m_width_13 : decode c_m_width 13 = .ok (.iload_n 1, 1) := by decide +kernel
theorem d_m_width_14 : decode c_m_width 14 = .ok (.iconst 0, 1) := by decide +kernel
theorem d_m_width_15 : decode c_m_width 15 = .ok (.sipush 255, 3) := by decide +kernel
theorem d_m_width_18 : decode c_m_width 18 = .ok (.invokestatic 63, 3) := by decide +kernel
theorem d_m_width_21 : decode c_m_width 21 = .ok (.ifCond .ne 7, 3) := by decide +kernel
theorem d_m_width_24 : decode c_m_width 24 = .ok (.iconst 1, 1) := by decide +kernel
theorem d_m_width_25 : decode c_m_width 25 = .ok (.goto 4, 3) := by decide +kernel
theorem d_m_width_28 : decode c_m_width 28 = .ok (.iconst 0, 1) := by decide +kernel
theorem d_m_width_29 : decode c_m_width 29 = .ok (.iconst 2, 1) := by decide +kernel
theorem d_m_width_30 : decode c_m_width 30 = .ok (.invokevirtual 59, 3) := by decide +kernel
theorem d_m_width_33 : decode c_m_width 33 = .ok (.ifCond .eq 5, 3) := by decide +kernel
theorem d_m_width_36 : decode c_m_width 36 = .ok (.iconst 0, 1) := by decide +kernel
theorem d_m_width_37 : decode c_m_width 37 = .ok (.ireturn, 1) := by decide +kernel
theorem d_m_width_38 : decode c_m_width 38 = .ok (.aload_n 0, 1) := by decide +kernel
theorem d_m_width_39 : decode c_m_width 39 = .ok (.bipush 30, 2) := by decide +kernel
theorem d_m_width_41 : decode c_m_width 41 = .ok (.invokevirtual 82, 3) := by decide +kernel
theorem d_m_width_44 : decode c_m_width 44 = .ok (.istore_n 2, 1) := by decide +kernel
theorem d_m_width_45 : decode c_m_width 45 = .ok (.iload_n 2, 1) := by decide +kernel
theorem d_m_width_46 : decode c_m_width 46 = .ok (.iconst (-1), 1) := by decide +kernel
theorem d_m_width_47 : decode c_m_width 47 = .ok (.if_icmp .eq 15, 3) := by decide +kernel
theorem d_m_width_50 : decode c_m_width 50 = .ok (.aload_n 0, 1) := by decide +kernel
theorem d_m_width_51 : decode c_m_width 51 = .ok (.iload_n 2, 1) := by decide +kernel
theorem d_m_width_52 : decode c_m_width 52 = .ok (.bipush 8, 2) := by decide +kernel
theorem d_m_width_54 : decode c_m_width 54 = .ok (.invokevirtual 48, 3) := by decide +kernel
theorem d_m_width_57 : decode c_m_width 57 = .ok (.bipush 8, 2) := by decide +kernel
theorem d_m_width_59 : decode c_m_width 59 = .ok (.if_icmp .ne 5, 3) := by decide +kernel
theorem d_m_width_62 : decode c_m_width 62 = .ok (.iconst 0, 1) := by decide +kernel
theorem d_m_width_63 : decode c_m_width 63 = .ok (.ireturn, 1) := by decide +kernel
theorem d_m_width_64 : decode c_m_width 64 = .ok (.aload_n 0, 1) := by decide +kernel
theorem d_m_width_65 : decode c_m_width 65 = .ok (.iload_n 2, 1) := by decide +kernel
theorem d_m_width_66 : decode c_m_width 66 = .ok (.bipush 12, 2) := by decide +kernel
theorem d_m_width_68 : decode c_m_width 68 = .ok (.aload_n 0, 1) := by decide +kernel
theorem d_m_width_69 : decode c_m_width 69 = .ok (.iload_n 2, 1) := by decide +kernel
theorem d_m_width_70 : decode c_m_width 70 = .ok (.bipush 8, 2) := by decide +kernel
theorem d_m_width_72 : decode c_m_width 72 = .ok (.invokevirtual 48, 3) := by decide +kernel
theorem d_m_width_75 : decode c_m_width 75 = .ok (.iadd, 1) := by decide +kernel
theorem d_m_width_76 : decode c_m_width 76 = .ok (.iload_n 1, 1) := by decide +kernel
theorem d_m_width_77 : decode c_m_width 77 = .ok (.invokevirtual 78, 3) := by decide +kernel
theorem d_m_width_80 : decode c_m_width 80 = .ok (.aload_n 0, 1) := by decide +kernel
theorem d_m_width_81 : decode c_m_width 81 = .ok (.iload_n 2, 1) := by decide +kernel
theorem d_m_width_82 : decode c_m_width 82 = .ok (.bipush 8, 2) := by decide +kernel
theorem d_m_width_84 : decode c_m_width 84 = .ok (.aload_n 0, 1) := by decide +kernel
theorem d_m_width_85 : decode c_m_width 85 = .ok (.iload_n 2, 1) := by decide +kernel
theorem d_m_width_86 : decode c_m_width 86 = .ok (.bipush 8, 2) := by decide +kernel
theorem d_m_width_88 : decode c_m_width 88 = .ok (.invokevirtual 48, 3) := by decide +kernel
theorem d_m_width_91 : decode c_m_width 91 = .ok (.iconst 1, 1) := by decide +kernel
theorem d_m_width_92 : decode c_m_width 92 = .ok (.iadd, 1) := by decide +kernel
theorem d_m_width_93 : decode c_m_width 93 = .ok (.invokevirtual 78, 3) := by decide +kernel
theorem d_m_width_96 : decode c_m_width 96 = .ok (.iconst 1, 1) := by decide +kernel
theorem d_m_width_97 : decode c_m_width 97 = .ok (.ireturn, 1) := by decide +kernel
theorem d_m_weigh_0 : decode c_m_weigh 0 = .ok (.aload_n 0, 1) := by decide +kernel
theorem d_m_weigh_1 : decode c_m_weigh 1 = .ok (.aload_n 0, 1) := by decide +kernel
theorem d_m_weigh_2 : decode c_m_weigh 2 = .ok (.getfield 55, 3) := by decide +kernel
theorem d_m_weigh_5 : decode c_m_weigh 5 = .ok (.iconst 1, 1) := by decide +kernel
theorem d_m_weigh_6 : decode c_m_weigh 6 = .ok (.invokevirtual 59, 3) := by decide +kernel
theorem d_m_weigh_9 : decode c_m_weigh 9 = .ok (.ifCond .ne 27, 3) := by decide +kernel
theorem d_m_weigh_12 : decode c_m_weigh 12 = .ok (.aload_n 0, 1) := by decide +kernel
theorem d_m_weigh_13 : decode c_m_weigh 13 = .ok (.iload_n 1, 1) := by decide +kernel
theorem d_m_weigh_14 : decode c_m_weigh 14 = .ok (.iconst 0, 1) := by decide +kernel
theorem d_m_weigh_15 : decode c_m_weigh 15 = .ok (.sipush 5000, 3) := by decide +kernel
theorem d_m_weigh_18 : decode c_m_weigh 18 = .ok (.invokestatic 63, 3) := by decide +kernel
theorem d_m_weigh_21 : decode c_m_weigh 21 = .ok (.ifCond .ne 7, 3) := by decide +kernel
theorem d_m_weigh_24 : decode c_m_weigh 24 = .ok (.iconst 1, 1) := by decide +kernel
theorem d_m_weigh_25 : decode c_m_weigh 25 = .ok (.goto 4, 3) := by decide +kernel
theorem d_m_weigh_28 : decode c_m_weigh 28 = .ok (.iconst 0, 1) := by decide +kernel
theorem d_m_weigh_29 : decode c_m_weigh 29 = .ok (.iconst 2, 1) := by decide +kernel
theorem d_m_weigh_30 : decode c_m_weigh 30 = .ok (.invokevirtual 59, 3) := by decide +kernel
theorem d_m_weigh_33 : decode c_m_weigh 33 = .ok (.ifCond .eq 5, 3) := by decide +kernel
theorem d_m_weigh_36 : decode c_m_weigh 36 = .ok (.iconst 0, 1) := by decide +kernel
theorem d_m_weigh_37 : decode c_m_weigh 37 = .ok (.ireturn, 1) := by decide +kernel
theorem d_m_weigh_38 : decode c_m_weigh 38 = .ok (.aload_n 0, 1) := by decide +kernel
theorem d_m_weigh_39 : decode c_m_weigh 39 = .ok (.bipush 45, 2) := by decide +kernel
theorem d_m_weigh_41 : decode c_m_weigh 41 = .ok (.invokevirtual 82, 3) := by decide +kernel
theorem d_m_weigh_44 : decode c_m_weigh 44 = .ok (.istore_n 2, 1) := by decide +kernel
theorem d_m_weigh_45 : decode c_m_weigh 45 = .ok (.iload_n 2, 1) := by decide +kernel
theorem d_m_weigh_46 : decode c_m_weigh 46 = .ok (.iconst (-1), 1) := by decide +kernel
theorem d_m_weigh_47 : decode c_m_weigh 47 = .ok (.if_icmp .ne 5, 3) := by decide +kernel
theorem d_m_weigh_50 : decode c_m_weigh 50 = .ok (.iconst 0, 1) := by decide +kernel
theorem d_m_weigh_51 : decode c_m_weigh 51 = .ok (.ireturn, 1) := by decide +kernel
theorem d_m_weigh_52 : decode c_m_weigh 52 = .ok (.aload_n 0, 1) := by decide +kernel
theorem d_m_weigh_53 : decode c_m_weigh 53 = .ok (.iload_n 2, 1) := by decide +kernel
theorem d_m_weigh_54 : decode c_m_weigh 54 = .ok (.bipush 6, 2) := by decide +kernel
theorem d_m_weigh_56 : decode c_m_weigh 56 = .ok (.iload_n 1, 1) := by decide +kernel
theorem d_m_weigh_57 : decode c_m_weigh 57 = .ok (.invokevirtual 78, 3) := by decide +kernel
theorem d_m_weigh_60 : decode c_m_weigh 60 = .ok (.iconst 1, 1) := by decide +kernel
theorem d_m_weigh_61 : decode c_m_weigh 61 = .ok (.ireturn, 1) := by decide +kernel
theorem d_m_writes_0 : decode c_m_writes 0 = .ok (.aload_n 0, 1) := by decide +kernel
theorem d_m_writes_1 : decode c_m_writes 1 = .ok (.getfield 85, 3) := by decide +kernel
theorem d_m_writes_4 : decode c_m_writes 4 = .ok (.iconst 1, 1) := by decide +kernel
theorem d_m_writes_5 : decode c_m_writes 5 = .ok (.if_icmp .ne 15, 3) := by decide +kernel
theorem d_m_writes_8 : decode c_m_writes 8 = .ok (.aload_n 0, 1) := by decide +kernel
theorem d_m_writes_9 : decode c_m_writes 9 = .ok (.iconst 0, 1) := by decide +kernel
theorem d_m_writes_10 : decode c_m_writes 10 = .ok (.putfield 85, 3) := by decide +kernel
theorem d_m_writes_13 : decode c_m_writes 13 = .ok (.aload_n 0, 1) := by decide +kernel
theorem d_m_writes_14 : decode c_m_writes 14 = .ok (.iconst 1, 1) := by decide +kernel
theorem d_m_writes_15 : decode c_m_writes 15 = .ok (.putfield 55, 3) := by decide +kernel
theorem d_m_writes_18 : decode c_m_writes 18 = .ok (.iconst 0, 1) := by decide +kernel
theorem d_m_writes_19 : decode c_m_writes 19 = .ok (.ireturn, 1) := by decide +kernel
theorem d_m_writes_20 : decode c_m_writes 20 = .ok (.aload_n 0, 1) := by decide +kernel
theorem d_m_writes_21 : decode c_m_writes 21 = .ok (.dup, 1) := by decide +kernel
theorem d_m_writes_22 : decode c_m_writes 22 = .ok (.getfield 85, 3) := by decide +kernel
theorem d_m_writes_25 : decode c_m_writes 25 = .ok (.aload_n 0, 1) := by decide +kernel
theorem d_m_writes_26 : decode c_m_writes 26 = .ok (.getfield 85, 3) := by decide +kernel
theorem d_m_writes_29 : decode c_m_writes 29 = .ok (.ifCond .le 7, 3) := by decide +kernel
theorem d_m_writes_32 : decode c_m_writes 32 = .ok (.iconst 1, 1) := by decide +kernel
theorem d_m_writes_33 : decode c_m_writes 33 = .ok (.goto 4, 3) := by decide +kernel
theorem d_m_writes_36 : decode c_m_writes 36 = .ok (.iconst 0, 1) := by decide +kernel
theorem d_m_writes_37 : decode c_m_writes 37 = .ok (.isub, 1) := by decide +kernel
theorem d_m_writes_38 : decode c_m_writes 38 = .ok (.putfield 85, 3) := by decide +kernel
theorem d_m_writes_41 : decode c_m_writes 41 = .ok (.aload_n 0, 1) := by decide +kernel
theorem d_m_writes_42 : decode c_m_writes 42 = .ok (.dup, 1) := by decide +kernel
theorem d_m_writes_43 : decode c_m_writes 43 = .ok (.getfield 88, 3) := by decide +kernel
theorem d_m_writes_46 : decode c_m_writes 46 = .ok (.iconst 1, 1) := by decide +kernel
theorem d_m_writes_47 : decode c_m_writes 47 = .ok (.iadd, 1) := by decide +kernel
theorem d_m_writes_48 : decode c_m_writes 48 = .ok (.putfield 88, 3) := by decide +kernel
theorem d_m_writes_51 : decode c_m_writes 51 = .ok (.iconst 1, 1) := by decide +kernel
theorem d_m_writes_52 : decode c_m_writes 52 = .ok (.ireturn, 1) := by decide +kernel
theorem d_m_isBlocked_0 : decode c_m_isBlocked 0 = .ok (.iconst 0, 1) := by decide +kernel
theorem d_m_isBlocked_1 : decode c_m_isBlocked 1 = .ok (.istore_n 1, 1) := by decide +kernel
theorem d_m_isBlocked_2 : decode c_m_isBlocked 2 = .ok (.iload_n 1, 1) := by decide +kernel
theorem d_m_isBlocked_3 : decode c_m_isBlocked 3 = .ok (.aload_n 0, 1) := by decide +kernel
theorem d_m_isBlocked_4 : decode c_m_isBlocked 4 = .ok (.getfield 52, 3) := by decide +kernel
theorem d_m_isBlocked_7 : decode c_m_isBlocked 7 = .ok (.if_icmp .ge 33, 3) := by decide +kernel
theorem d_m_isBlocked_10 : decode c_m_isBlocked 10 = .ok (.aload_n 0, 1) := by decide +kernel
theorem d_m_isBlocked_11 : decode c_m_isBlocked 11 = .ok (.iload_n 1, 1) := by decide +kernel
theorem d_m_isBlocked_12 : decode c_m_isBlocked 12 = .ok (.iconst 2, 1) := by decide +kernel
theorem d_m_isBlocked_13 : decode c_m_isBlocked 13 = .ok (.invokevirtual 48, 3) := by decide +kernel
theorem d_m_isBlocked_16 : decode c_m_isBlocked 16 = .ok (.bipush 104, 2) := by decide +kernel
theorem d_m_isBlocked_18 : decode c_m_isBlocked 18 = .ok (.if_icmp .ne 16, 3) := by decide +kernel
theorem d_m_isBlocked_21 : decode c_m_isBlocked 21 = .ok (.aload_n 0, 1) := by decide +kernel
theorem d_m_isBlocked_22 : decode c_m_isBlocked 22 = .ok (.iload_n 1, 1) := by decide +kernel
theorem d_m_isBlocked_23 : decode c_m_isBlocked 23 = .ok (.iconst 3, 1) := by decide +kernel
theorem d_m_isBlocked_24 : decode c_m_isBlocked 24 = .ok (.invokevirtual 48, 3) := by decide +kernel
theorem d_m_isBlocked_27 : decode c_m_isBlocked 27 = .ok (.bipush 10, 2) := by decide +kernel
theorem d_m_isBlocked_29 : decode c_m_isBlocked 29 = .ok (.if_icmp .eq 5, 3) := by decide +kernel
theorem d_m_isBlocked_32 : decode c_m_isBlocked 32 = .ok (.iconst 1, 1) := by decide +kernel
theorem d_m_isBlocked_33 : decode c_m_isBlocked 33 = .ok (.ireturn, 1) := by decide +kernel
theorem d_m_isBlocked_34 : decode c_m_isBlocked 34 = .ok (.iinc 1 1, 3) := by decide +kernel
theorem d_m_isBlocked_37 : decode c_m_isBlocked 37 = .ok (.goto (-35), 3) := by decide +kernel
theorem d_m_isBlocked_40 : decode c_m_isBlocked 40 = .ok (.iconst 0, 1) := by decide +kernel
theorem d_m_isBlocked_41 : decode c_m_isBlocked 41 = .ok (.ireturn, 1) := by decide +kernel
theorem d_m_isSuspicious_0 : decode c_m_isSuspicious 0 = .ok (.aload_n 0, 1) := by decide +kernel
theorem d_m_isSuspicious_1 : decode c_m_isSuspicious 1 = .ok (.getfield 91, 3) := by decide +kernel
theorem d_m_isSuspicious_4 : decode c_m_isSuspicious 4 = .ok (.bipush 50, 2) := by decide +kernel
theorem d_m_isSuspicious_6 : decode c_m_isSuspicious 6 = .ok (.if_icmp .le 7, 3) := by decide +kernel
theorem d_m_isSuspicious_9 : decode c_m_isSuspicious 9 = .ok (.iconst 1, 1) := by decide +kernel
theorem d_m_isSuspicious_10 : decode c_m_isSuspicious 10 = .ok (.goto 4, 3) := by decide +kernel
theorem d_m_isSuspicious_13 : decode c_m_isSuspicious 13 = .ok (.iconst 0, 1) := by decide +kernel
theorem d_m_isSuspicious_14 : decode c_m_isSuspicious 14 = .ok (.ireturn, 1) := by decide +kernel
theorem d_m_against_0 : decode c_m_against 0 = .ok (.aload_n 0, 1) := by decide +kernel
theorem d_m_against_1 : decode c_m_against 1 = .ok (.iload_n 1, 1) := by decide +kernel
theorem d_m_against_2 : decode c_m_against 2 = .ok (.bipush 7, 2) := by decide +kernel
theorem d_m_against_4 : decode c_m_against 4 = .ok (.invokevirtual 48, 3) := by decide +kernel
theorem d_m_against_7 : decode c_m_against 7 = .ok (.ifCond .ne 5, 3) := by decide +kernel
theorem d_m_against_10 : decode c_m_against 10 = .ok (.iconst 1, 1) := by decide +kernel
theorem d_m_against_11 : decode c_m_against 11 = .ok (.ireturn, 1) := by decide +kernel
theorem d_m_against_12 : decode c_m_against 12 = .ok (.iconst 1, 1) := by decide +kernel
theorem d_m_against_13 : decode c_m_against 13 = .ok (.istore_n 2, 1) := by decide +kernel
theorem d_m_against_14 : decode c_m_against 14 = .ok (.iload_n 2, 1) := by decide +kernel
theorem d_m_against_15 : decode c_m_against 15 = .ok (.aload_n 0, 1) := by decide +kernel
theorem d_m_against_16 : decode c_m_against 16 = .ok (.iload_n 1, 1) := by decide +kernel
theorem d_m_against_17 : decode c_m_against 17 = .ok (.bipush 7, 2) := by decide +kernel
theorem d_m_against_19 : decode c_m_against 19 = .ok (.invokevirtual 48, 3) := by decide +kernel
theorem d_m_against_22 : decode c_m_against 22 = .ok (.if_icmp .ge 30, 3) := by decide +kernel
theorem d_m_against_25 : decode c_m_against 25 = .ok (.aload_n 0, 1) := by decide +kernel
theorem d_m_against_26 : decode c_m_against 26 = .ok (.iload_n 1, 1) := by decide +kernel
theorem d_m_against_27 : decode c_m_against 27 = .ok (.bipush 9, 2) := by decide +kernel
theorem d_m_against_29 : decode c_m_against 29 = .ok (.iload_n 2, 1) := by decide +kernel
theorem d_m_against_30 : decode c_m_against 30 = .ok (.iadd, 1) := by decide +kernel
theorem d_m_against_31 : decode c_m_against 31 = .ok (.invokevirtual 48, 3) := by decide +kernel
theorem d_m_against_34 : decode c_m_against 34 = .ok (.aload_n 0, 1) := by decide +kernel
theorem d_m_against_35 : decode c_m_against 35 = .ok (.iload_n 1, 1) := by decide +kernel
theorem d_m_against_36 : decode c_m_against 36 = .ok (.bipush 9, 2) := by decide +kernel
theorem d_m_against_38 : decode c_m_against 38 = .ok (.invokevirtual 48, 3) := by decide +kernel
theorem d_m_against_41 : decode c_m_against 41 = .ok (.if_icmp .eq 5, 3) := by decide +kernel
theorem d_m_against_44 : decode c_m_against 44 = .ok (.iconst 2, 1) := by decide +kernel
theorem d_m_against_45 : decode c_m_against 45 = .ok (.ireturn, 1) := by decide +kernel
theorem d_m_against_46 : decode c_m_against 46 = .ok (.iinc 2 1, 3) := by decide +kernel
theorem d_m_against_49 : decode c_m_against 49 = .ok (.goto (-35), 3) := by decide +kernel
theorem d_m_against_52 : decode c_m_against 52 = .ok (.aload_n 0, 1) := by decide +kernel
theorem d_m_against_53 : decode c_m_against 53 = .ok (.aload_n 0, 1) := by decide +kernel
theorem d_m_against_54 : decode c_m_against 54 = .ok (.iload_n 1, 1) := by decide +kernel
theorem d_m_against_55 : decode c_m_against 55 = .ok (.bipush 9, 2) := by decide +kernel
theorem d_m_against_57 : decode c_m_against 57 = .ok (.invokevirtual 48, 3) := by decide +kernel
theorem d_m_against_60 : decode c_m_against 60 = .ok (.invokevirtual 68, 3) := by decide +kernel
theorem d_m_against_63 : decode c_m_against 63 = .ok (.istore_n 2, 1) := by decide +kernel
theorem d_m_against_64 : decode c_m_against 64 = .ok (.iload_n 2, 1) := by decide +kernel
theorem d_m_against_65 : decode c_m_against 65 = .ok (.iconst (-1), 1) := by decide +kernel
theorem d_m_against_66 : decode c_m_against 66 = .ok (.if_icmp .ne 5, 3) := by decide +kernel
theorem d_m_against_69 : decode c_m_against 69 = .ok (.iconst 3, 1) := by decide +kernel
theorem d_m_against_70 : decode c_m_against 70 = .ok (.ireturn, 1) := by decide +kernel
theorem d_m_against_71 : decode c_m_against 71 = .ok (.aload_n 0, 1) := by decide +kernel
theorem d_m_against_72 : decode c_m_against 72 = .ok (.iload_n 1, 1) := by decide +kernel
theorem d_m_against_73 : decode c_m_against 73 = .ok (.bipush 6, 2) := by decide +kernel
theorem d_m_against_75 : decode c_m_against 75 = .ok (.invokevirtual 48, 3) := by decide +kernel
theorem d_m_against_78 : decode c_m_against 78 = .ok (.iconst (-1), 1) := by decide +kernel
theorem d_m_against_79 : decode c_m_against 79 = .ok (.if_icmp .eq 38, 3) := by decide +kernel
theorem d_m_against_82 : decode c_m_against 82 = .ok (.aload_n 0, 1) := by decide +kernel
theorem d_m_against_83 : decode c_m_against 83 = .ok (.iload_n 1, 1) := by decide +kernel
theorem d_m_against_84 : decode c_m_against 84 = .ok (.bipush 6, 2) := by decide +kernel
theorem d_m_against_86 : decode c_m_against 86 = .ok (.invokevirtual 48, 3) := by decide +kernel
theorem d_m_against_89 : decode c_m_against 89 = .ok (.aload_n 0, 1) := by decide +kernel
theorem d_m_against_90 : decode c_m_against 90 = .ok (.getfield 16, 3) := by decide +kernel
theorem d_m_against_93 : decode c_m_against 93 = .ok (.bipush 6, 2) := by decide +kernel
theorem d_m_against_95 : decode c_m_against 95 = .ok (.iload_n 2, 1) := by decide +kernel
theorem d_m_against_96 : decode c_m_against 96 = .ok (.imul, 1) := by decide +kernel
theorem d_m_against_97 : decode c_m_against 97 = .ok (.iconst 3, 1) := by decide +kernel
theorem d_m_against_98 : decode c_m_against 98 = .ok (.iadd, 1) := by decide +kernel
theorem d_m_against_99 : decode c_m_against 99 = .ok (.iaload, 1) := by decide +kernel
theorem d_m_against_100 : decode c_m_against 100 = .ok (.aload_n 0, 1) := by decide +kernel
theorem d_m_against_101 : decode c_m_against 101 = .ok (.getfield 16, 3) := by decide +kernel
theorem d_m_against_104 : decode c_m_against 104 = .ok (.bipush 6, 2) := by decide +kernel
theorem d_m_against_106 : decode c_m_against 106 = .ok (.iload_n 2, 1) := by decide +kernel
theorem d_m_against_107 : decode c_m_against 107 = .ok (.imul, 1) := by decide +kernel
theorem d_m_against_108 : decode c_m_against 108 = .ok (.iconst 4, 1) := by decide +kernel
theorem d_m_against_109 : decode c_m_against 109 = .ok (.iadd, 1) := by decide +kernel
theorem d_m_against_110 : decode c_m_against 110 = .ok (.iaload, 1) := by decide +kernel
theorem d_m_against_111 : decode c_m_against 111 = .ok (.invokestatic 63, 3) := by decide +kernel
theorem d_m_against_114 : decode c_m_against 114 = .ok (.ifCond .ne 5, 3) := by decide +kernel
theorem d_m_against_117 : decode c_m_against 117 = .ok (.iconst 4, 1) := by decide +kernel
theorem d_m_against_118 : decode c_m_against 118 = .ok (.ireturn, 1) := by decide +kernel
theorem d_m_against_119 : decode c_m_against 119 = .ok (.aload_n 0, 1) := by decide +kernel
theorem d_m_against_120 : decode c_m_against 120 = .ok (.getfield 16, 3) := by decide +kernel
theorem d_m_against_123 : decode c_m_against 123 = .ok (.bipush 6, 2) := by decide +kernel
theorem d_m_against_125 : decode c_m_against 125 = .ok (.iload_n 2, 1) := by decide +kernel
theorem d_m_against_126 : decode c_m_against 126 = .ok (.imul, 1) := by decide +kernel
theorem d_m_against_127 : decode c_m_against 127 = .ok (.iconst 5, 1) := by decide +kernel
theorem d_m_against_128 : decode c_m_against 128 = .ok (.iadd, 1) := by decide +kernel
theorem d_m_against_129 : decode c_m_against 129 = .ok (.iaload, 1) := by decide +kernel
theorem d_m_against_130 : decode c_m_against 130 = .ok (.istore_n 3, 1) := by decide +kernel
theorem d_m_against_131 : decode c_m_against 131 = .ok (.iconst 0, 1) := by decide +kernel
theorem d_m_against_132 : decode c_m_against 132 = .ok (.istore 4, 2) := by decide +kernel
theorem d_m_against_134 : decode c_m_against 134 = .ok (.iconst 0, 1) := by decide +kernel
theorem d_m_against_135 : decode c_m_against 135 = .ok (.istore 5, 2) := by decide +kernel
theorem d_m_against_137 : decode c_m_against 137 = .ok (.iload 5, 2) := by decide +kernel
theorem d_m_against_139 : decode c_m_against 139 = .ok (.aload_n 0, 1) := by decide +kernel
theorem d_m_against_140 : decode c_m_against 140 = .ok (.iload_n 1, 1) := by decide +kernel
theorem d_m_against_141 : decode c_m_against 141 = .ok (.bipush 8, 2) := by decide +kernel
theorem d_m_against_143 : decode c_m_against 143 = .ok (.invokevirtual 48, 3) := by decide +kernel
theorem d_m_against_146 : decode c_m_against 146 = .ok (.if_icmp .ge 52, 3) := by decide +kernel
theorem d_m_against_149 : decode c_m_against 149 = .ok (.aload_n 0, 1) := by decide +kernel
theorem d_m_against_150 : decode c_m_against 150 = .ok (.iload_n 1, 1) := by decide +kernel
theorem d_m_against_151 : decode c_m_against 151 = .ok (.bipush 12, 2) := by decide +kernel
theorem d_m_against_153 : decode c_m_against 153 = .ok (.iload 5, 2) := by decide +kernel
theorem d_m_against_155 : decode c_m_against 155 = .ok (.iadd, 1) := by decide +kernel
theorem d_m_against_156 : decode c_m_against 156 = .ok (.invokevirtual 48, 3) := by decide +kernel
theorem d_m_against_159 : decode c_m_against 159 = .ok (.aload_n 0, 1) := by decide +kernel
theorem d_m_against_160 : decode c_m_against 160 = .ok (.getfield 7, 3) := by decide +kernel
theorem d_m_against_163 : decode c_m_against 163 = .ok (.bipush 8, 2) := by decide +kernel
theorem d_m_against_165 : decode c_m_against 165 = .ok (.iload_n 3, 1) := by decide +kernel
theorem d_m_against_166 : decode c_m_against 166 = .ok (.imul, 1) := by decide +kernel
theorem d_m_against_167 : decode c_m_against 167 = .ok (.iload 5, 2) := by decide +kernel
theorem d_m_against_169 : decode c_m_against 169 = .ok (.iadd, 1) := by decide +kernel
theorem d_m_against_170 : decode c_m_against 170 = .ok (.iaload, 1) := by decide +kernel
theorem d_m_against_171 : decode c_m_against 171 = .ok (.isub, 1) := by decide +kernel
theorem d_m_against_172 : decode c_m_against 172 = .ok (.istore 6, 2) := by decide +kernel
theorem d_m_against_174 : decode c_m_against 174 = .ok (.iload 4, 2) := by decide +kernel
theorem d_m_against_176 : decode c_m_against 176 = .ok (.iload 6, 2) := by decide +kernel
theorem d_m_against_178 : decode c_m_against 178 = .ok (.ifCond .ge 9, 3) := by decide +kernel
theorem d_m_against_181 : decode c_m_against 181 = .ok (.iload 6, 2) := by decide +kernel
theorem d_m_against_183 : decode c_m_against 183 = .ok (.ineg, 1) := by decide +kernel
theorem d_m_against_184 : decode c_m_against 184 = .ok (.goto 5, 3) := by decide +kernel
theorem d_m_against_187 : decode c_m_against 187 = .ok (.iload 6, 2) := by decide +kernel
theorem d_m_against_189 : decode c_m_against 189 = .ok (.iadd, 1) := by decide +kernel
theorem d_m_against_190 : decode c_m_against 190 = .ok (.istore 4, 2) := by decide +kernel
theorem d_m_against_192 : decode c_m_against 192 = .ok (.iinc 5 1, 3) := by decide +kernel
theorem d_m_against_195 : decode c_m_against 195 = .ok (.goto (-58), 3) := by decide +kernel
theorem d_m_against_198 : decode c_m_against 198 = .ok (.aload_n 0, 1) := by decide +kernel
theorem d_m_against_199 : decode c_m_against 199 = .ok (.iload_n 1, 1) := by decide +kernel
theorem d_m_against_200 : decode c_m_against 200 = .ok (.bipush 8, 2) := by decide +kernel
theorem d_m_against_202 : decode c_m_against 202 = .ok (.invokevirtual 48, 3) := by decide +kernel
theorem d_m_against_205 : decode c_m_against 205 = .ok (.bipush 8, 2) := by decide +kernel
theorem d_m_against_207 : decode c_m_against 207 = .ok (.if_icmp .lt 14, 3) := by decide +kernel
theorem d_m_against_210 : decode c_m_against 210 = .ok (.iload 4, 2) := by decide +kernel
theorem d_m_against_212 : decode c_m_against 212 = .ok (.aload_n 0, 1) := by decide +kernel
theorem d_m_against_213 : decode c_m_against 213 = .ok (.getfield 13, 3) := by decide +kernel
theorem d_m_against_216 : decode c_m_against 216 = .ok (.iload_n 3, 1) := by decide +kernel
theorem d_m_against_217 : decode c_m_against 217 = .ok (.iaload, 1) := by decide +kernel
theorem d_m_against_218 : decode c_m_against 218 = .ok (.if_icmp .le 5, 3) := by decide +kernel
theorem d_m_against_221 : decode c_m_against 221 = .ok (.iconst 5, 1) := by decide +kernel
theorem d_m_against_222 : decode c_m_against 222 = .ok (.ireturn, 1) := by decide +kernel
theorem d_m_against_223 : decode c_m_against 223 = .ok (.aload_n 0, 1) := by decide +kernel
theorem d_m_against_224 : decode c_m_against 224 = .ok (.getfield 16, 3) := by decide +kernel
theorem d_m_against_227 : decode c_m_against 227 = .ok (.bipush 6, 2) := by decide +kernel
theorem d_m_against_229 : decode c_m_against 229 = .ok (.iload_n 2, 1) := by decide +kernel
theorem d_m_against_230 : decode c_m_against 230 = .ok (.imul, 1) := by decide +kernel
theorem d_m_against_231 : decode c_m_against 231 = .ok (.iconst 2, 1) := by decide +kernel
theorem d_m_against_232 : decode c_m_against 232 = .ok (.iadd, 1) := by decide +kernel
theorem d_m_against_233 : decode c_m_against 233 = .ok (.iaload, 1) := by decide +kernel
theorem d_m_against_234 : decode c_m_against 234 = .ok (.istore 5, 2) := by decide +kernel
theorem d_m_against_236 : decode c_m_against 236 = .ok (.aload_n 0, 1) := by decide +kernel
theorem d_m_against_237 : decode c_m_against 237 = .ok (.getfield 22, 3) := by decide +kernel
theorem d_m_against_240 : decode c_m_against 240 = .ok (.iload 5, 2) := by decide +kernel
theorem d_m_against_242 : decode c_m_against 242 = .ok (.iaload, 1) := by decide +kernel
theorem d_m_against_243 : decode c_m_against 243 = .ok (.istore 6, 2) := by decide +kernel
theorem d_m_against_245 : decode c_m_against 245 = .ok (.iconst 0, 1) := by decide +kernel
theorem d_m_against_246 : decode c_m_against 246 = .ok (.istore 7, 2) := by decide +kernel
theorem d_m_against_248 : decode c_m_against 248 = .ok (.iload 7, 2) := by decide +kernel
theorem d_m_against_250 : decode c_m_against 250 = .ok (.aload_n 0, 1) := by decide +kernel
theorem d_m_against_251 : decode c_m_against 251 = .ok (.getfield 52, 3) := by decide +kernel
theorem d_m_against_254 : decode c_m_against 254 = .ok (.if_icmp .ge 53, 3) := by decide +kernel
theorem d_m_against_257 : decode c_m_against 257 = .ok (.iload 6, 2) := by decide +kernel
theorem d_m_against_259 : decode c_m_against 259 = .ok (.aload_n 0, 1) := by decide +kernel
theorem d_m_against_260 : decode c_m_against 260 = .ok (.iload 7, 2) := by decide +kernel
theorem d_m_against_262 : decode c_m_against 262 = .ok (.iconst 3, 1) := by decide +kernel
theorem d_m_against_263 : decode c_m_against 263 = .ok (.invokevirtual 48, 3) := by decide +kernel
theorem d_m_against_266 : decode c_m_against 266 = .ok (.bipush 10, 2) := by decide +kernel
theorem d_m_against_268 : decode c_m_against 268 = .ok (.if_icmp .ne 29, 3) := by decide +kernel
theorem d_m_against_271 : decode c_m_against 271 = .ok (.aload_n 0, 1) := by decide +kernel
theorem d_m_against_272 : decode c_m_against 272 = .ok (.getfield 16, 3) := by decide +kernel
theorem d_m_against_275 : decode c_m_against 275 = .ok (.bipush 6, 2) := by decide +kernel
theorem d_m_against_277 : decode c_m_against 277 = .ok (.aload_n 0, 1) := by decide +kernel
theorem d_m_against_278 : decode c_m_against 278 = .ok (.iload 7, 2) := by decide +kernel
theorem d_m_against_280 : decode c_m_against 280 = .ok (.iconst 4, 1) := by decide +kernel
theorem d_m_against_281 : decode c_m_against 281 = .ok (.invokevirtual 48, 3) := by decide +kernel
theorem d_m_against_284 : decode c_m_against 284 = .ok (.imul, 1) := by decide +kernel
theorem d_m_against_285 : decode c_m_against 285 = .ok (.iconst 2, 1) := by decide +kernel
theorem d_m_against_286 : decode c_m_against 286 = .ok (.iadd, 1) := by decide +kernel
theorem d_m_against_287 : decode c_m_against 287 = .ok (.iaload, 1) := by decide +kernel
theorem d_m_against_288 : decode c_m_against 288 = .ok (.iload 5, 2) := by decide +kernel
theorem d_m_against_290 : decode c_m_against 290 = .ok (.if_icmp .ne 7, 3) := by decide +kernel
theorem d_m_against_293 : decode c_m_against 293 = .ok (.iconst 1, 1) := by decide +kernel
theorem d_m_against_294 : decode c_m_against 294 = .ok (.goto 4, 3) := by decide +kernel
theorem d_m_against_297 : decode c_m_against 297 = .ok (.iconst 0, 1) := by decide +kernel
theorem d_m_against_298 : decode c_m_against 298 = .ok (.iadd, 1) := by decide +kernel
theorem d_m_against_299 : decode c_m_against 299 = .ok (.istore 6, 2) := by decide +kernel
theorem d_m_against_301 : decode c_m_against 301 = .ok (.iinc 7 1, 3) := by decide +kernel
theorem d_m_against_304 : decode c_m_against 304 = .ok (.goto (-56), 3) := by decide +kernel
theorem d_m_against_307 : decode c_m_against 307 = .ok (.iload 6, 2) := by decide +kernel
theorem d_m_against_309 : decode c_m_against 309 = .ok (.aload_n 0, 1) := by decide +kernel
theorem d_m_against_310 : decode c_m_against 310 = .ok (.getfield 25, 3) := by decide +kernel
theorem d_m_against_313 : decode c_m_against 313 = .ok (.iload 5, 2) := by decide +kernel
theorem d_m_against_315 : decode c_m_against 315 = .ok (.iaload, 1) := by decide +kernel
theorem d_m_against_316 : decode c_m_against 316 = .ok (.if_icmp .lt 6, 3) := by decide +kernel
theorem d_m_against_319 : decode c_m_against 319 = .ok (.bipush 6, 2) := by decide +kernel
theorem d_m_against_321 : decode c_m_against 321 = .ok (.ireturn, 1) := by decide +kernel
theorem d_m_against_322 : decode c_m_against 322 = .ok (.aload_n 0, 1) := by decide +kernel
theorem d_m_against_323 : decode c_m_against 323 = .ok (.getfield 94, 3) := by decide +kernel
theorem d_m_against_326 : decode c_m_against 326 = .ok (.bipush 60, 2) := by decide +kernel
theorem d_m_against_328 : decode c_m_against 328 = .ok (.if_icmp .ne 6, 3) := by decide +kernel
theorem d_m_against_331 : decode c_m_against 331 = .ok (.bipush 7, 2) := by decide +kernel
theorem d_m_against_333 : decode c_m_against 333 = .ok (.ireturn, 1) := by decide +kernel
theorem d_m_against_334 : decode c_m_against 334 = .ok (.aload_n 0, 1) := by decide +kernel
theorem d_m_against_335 : decode c_m_against 335 = .ok (.invokevirtual 97, 3) := by decide +kernel
theorem d_m_against_338 : decode c_m_against 338 = .ok (.ifCond .eq 6, 3) := by decide +kernel
theorem d_m_against_341 : decode c_m_against 341 = .ok (.bipush 8, 2) := by decide +kernel
theorem d_m_against_343 : decode c_m_against 343 = .ok (.ireturn, 1) := by decide +kernel
theorem d_m_against_344 : decode c_m_against 344 = .ok (.aload_n 0, 1) := by decide +kernel
theorem d_m_against_345 : decode c_m_against 345 = .ok (.getfield 101, 3) := by decide +kernel
theorem d_m_against_348 : decode c_m_against 348 = .ok (.iconst 3, 1) := by decide +kernel
theorem d_m_against_349 : decode c_m_against 349 = .ok (.if_icmp .lt 7, 3) := by decide +kernel
theorem d_m_against_352 : decode c_m_against 352 = .ok (.iconst 1, 1) := by decide +kernel
theorem d_m_against_353 : decode c_m_against 353 = .ok (.goto 4, 3) := by decide +kernel
theorem d_m_against_356 : decode c_m_against 356 = .ok (.iconst 0, 1) := by decide +kernel
theorem d_m_against_357 : decode c_m_against 357 = .ok (.istore 7, 2) := by decide +kernel
theorem d_m_against_359 : decode c_m_against 359 = .ok (.iconst 0, 1) := by decide +kernel
theorem d_m_against_360 : decode c_m_against 360 = .ok (.istore 8, 2) := by decide +kernel
theorem d_m_against_362 : decode c_m_against 362 = .ok (.iload 8, 2) := by decide +kernel
theorem d_m_against_364 : decode c_m_against 364 = .ok (.bipush 24, 2) := by decide +kernel
theorem d_m_against_366 : decode c_m_against 366 = .ok (.if_icmp .ge 44, 3) := by decide +kernel
theorem d_m_against_369 : decode c_m_against 369 = .ok (.iload 7, 2) := by decide +kernel
theorem d_m_against_371 : decode c_m_against 371 = .ok (.ifCond .eq 39, 3) := by decide +kernel
theorem d_m_against_374 : decode c_m_against 374 = .ok (.aload_n 0, 1) := by decide +kernel
theorem d_m_against_375 : decode c_m_against 375 = .ok (.getfield 38, 3) := by decide +kernel
theorem d_m_against_378 : decode c_m_against 378 = .ok (.iload 8, 2) := by decide +kernel
theorem d_m_against_380 : decode c_m_against 380 = .ok (.iaload, 1) := by decide +kernel
theorem d_m_against_381 : decode c_m_against 381 = .ok (.aload_n 0, 1) := by decide +kernel
theorem d_m_against_382 : decode c_m_against 382 = .ok (.iload_n 1, 1) := by decide +kernel
theorem d_m_against_383 : decode c_m_against 383 = .ok (.bipush 12, 2) := by decide +kernel
theorem d_m_against_385 : decode c_m_against 385 = .ok (.iload 8, 2) := by decide +kernel
theorem d_m_against_387 : decode c_m_against 387 = .ok (.bipush 8, 2) := by decide +kernel
theorem d_m_against_389 : decode c_m_against 389 = .ok (.irem, 1) := by decide +kernel
theorem d_m_against_390 : decode c_m_against 390 = .ok (.iadd, 1) := by decide +kernel
theorem d_m_against_391 : decode c_m_against 391 = .ok (.invokevirtual 48, 3) := by decide +kernel
theorem d_m_against_394 : decode c_m_against 394 = .ok (.if_icmp .ne 7, 3) := by decide +kernel
theorem d_m_against_397 : decode c_m_against 397 = .ok (.iconst 1, 1) := by decide +kernel
theorem d_m_against_398 : decode c_m_against 398 = .ok (.goto 4, 3) := by decide +kernel
theorem d_m_against_401 : decode c_m_against 401 = .ok (.iconst 0, 1) := by decide +kernel
theorem d_m_against_402 : decode c_m_against 402 = .ok (.istore 7, 2) := by decide +kernel
theorem d_m_against_404 : decode c_m_against 404 = .ok (.iinc 8 1, 3) := by decide +kernel
theorem d_m_against_407 : decode c_m_against 407 = .ok (.goto (-45), 3) := by decide +kernel
theorem d_m_against_410 : decode c_m_against 410 = .ok (.iload 7, 2) := by decide +kernel
theorem d_m_against_412 : decode c_m_against 412 = .ok (.ifCond .eq 8, 3) := by decide +kernel
theorem d_m_against_415 : decode c_m_against 415 = .ok (.bipush 9, 2) := by decide +kernel
theorem d_m_against_417 : decode c_m_against 417 = .ok (.goto 4, 3) := by decide +kernel
theorem d_m_against_420 : decode c_m_against 420 = .ok (.iconst 0, 1) := by decide +kernel
theorem d_m_against_421 : decode c_m_against 421 = .ok (.ireturn, 1) := by decide +kernel
