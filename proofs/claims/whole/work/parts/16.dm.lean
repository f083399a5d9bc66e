/-! decode rows -/
theorem d_m_judge_0 : decode c_m_judge 0 = .ok (.aload_n 0, 1) := by decide +kernel
theorem d_m_judge_1 : decode c_m_judge 1 = .ok (.iload_n 1, 1) := by decide +kernel
theorem d_m_judge_2 : decode c_m_judge 2 = .ok (.invokevirtual 104, 3) := by decide +kernel
theorem d_m_judge_5 : decode c_m_judge 5 = .ok (.istore_n 2, 1) := by decide +kernel
theorem d_m_judge_6 : decode c_m_judge 6 = .ok (.iload_n 2, 1) := by decide +kernel
theorem d_m_judge_7 : decode c_m_judge 7 = .ok (.ifCond .le 21, 3) := by decide +kernel
theorem d_m_judge_10 : decode c_m_judge 10 = .ok (.aload_n 0, 1) := by decide +kernel
theorem d_m_judge_11 : decode c_m_judge 11 = .ok (.iload_n 1, 1) := by decide +kernel
theorem d_m_judge_12 : decode c_m_judge 12 = .ok (.iconst 3, 1) := by decide +kernel
theorem d_m_judge_13 : decode c_m_judge 13 = .ok (.iload_n 2, 1) := by decide +kernel
theorem d_m_judge_14 : decode c_m_judge 14 = .ok (.invokevirtual 78, 3) := by decide +kernel
theorem d_m_judge_17 : decode c_m_judge 17 = .ok (.aload_n 0, 1) := by decide +kernel
theorem d_m_judge_18 : decode c_m_judge 18 = .ok (.getfield 41, 3) := by decide +kernel
theorem d_m_judge_21 : decode c_m_judge 21 = .ok (.iload_n 2, 1) := by decide +kernel
theorem d_m_judge_22 : decode c_m_judge 22 = .ok (.dup2, 1) := by decide +kernel
theorem d_m_judge_23 : decode c_m_judge 23 = .ok (.iaload, 1) := by decide +kernel
theorem d_m_judge_24 : decode c_m_judge 24 = .ok (.iconst 1, 1) := by decide +kernel
theorem d_m_judge_25 : decode c_m_judge 25 = .ok (.iadd, 1) := by decide +kernel
theorem d_m_judge_26 : decode c_m_judge 26 = .ok (.iastore, 1) := by decide +kernel
theorem d_m_judge_27 : decode c_m_judge 27 = .ok (.return_, 1) := by decide +kernel
theorem d_m_judge_28 : decode c_m_judge 28 = .ok (.aload_n 0, 1) := by decide +kernel
theorem d_m_judge_29 : decode c_m_judge 29 = .ok (.invokevirtual 107, 3) := by decide +kernel
theorem d_m_judge_32 : decode c_m_judge 32 = .ok (.ifCond .ne 4, 3) := by decide +kernel
theorem d_m_judge_35 : decode c_m_judge 35 = .ok (.return_, 1) := by decide +kernel
theorem d_m_judge_36 : decode c_m_judge 36 = .ok (.aload_n 0, 1) := by decide +kernel
theorem d_m_judge_37 : decode c_m_judge 37 = .ok (.iload_n 1, 1) := by decide +kernel
theorem d_m_judge_38 : decode c_m_judge 38 = .ok (.iconst 3, 1) := by decide +kernel
theorem d_m_judge_39 : decode c_m_judge 39 = .ok (.bipush 10, 2) := by decide +kernel
theorem d_m_judge_41 : decode c_m_judge 41 = .ok (.invokevirtual 78, 3) := by decide +kernel
theorem d_m_judge_44 : decode c_m_judge 44 = .ok (.aload_n 0, 1) := by decide +kernel
theorem d_m_judge_45 : decode c_m_judge 45 = .ok (.iload_n 1, 1) := by decide +kernel
theorem d_m_judge_46 : decode c_m_judge 46 = .ok (.iconst 4, 1) := by decide +kernel
theorem d_m_judge_47 : decode c_m_judge 47 = .ok (.aload_n 0, 1) := by decide +kernel
theorem d_m_judge_48 : decode c_m_judge 48 = .ok (.aload_n 0, 1) := by decide +kernel
theorem d_m_judge_49 : decode c_m_judge 49 = .ok (.iload_n 1, 1) := by decide +kernel
theorem d_m_judge_50 : decode c_m_judge 50 = .ok (.bipush 9, 2) := by decide +kernel
theorem d_m_judge_52 : decode c_m_judge 52 = .ok (.invokevirtual 48, 3) := by decide +kernel
theorem d_m_judge_55 : decode c_m_judge 55 = .ok (.invokevirtual 68, 3) := by decide +kernel
theorem d_m_judge_58 : decode c_m_judge 58 = .ok (.invokevirtual 78, 3) := by decide +kernel
theorem d_m_judge_61 : decode c_m_judge 61 = .ok (.iconst 0, 1) := by decide +kernel
theorem d_m_judge_62 : decode c_m_judge 62 = .ok (.istore_n 3, 1) := by decide +kernel
theorem d_m_judge_63 : decode c_m_judge 63 = .ok (.iload_n 3, 1) := by decide +kernel
theorem d_m_judge_64 : decode c_m_judge 64 = .ok (.bipush 8, 2) := by decide +kernel
theorem d_m_judge_66 : decode c_m_judge 66 = .ok (.if_icmp .ge 34, 3) := by decide +kernel
theorem d_m_judge_69 : decode c_m_judge 69 = .ok (.aload_n 0, 1) := by decide +kernel
theorem d_m_judge_70 : decode c_m_judge 70 = .ok (.getfield 38, 3) := by decide +kernel
theorem d_m_judge_73 : decode c_m_judge 73 = .ok (.bipush 8, 2) := by decide +kernel
theorem d_m_judge_75 : decode c_m_judge 75 = .ok (.aload_n 0, 1) := by decide +kernel
theorem d_m_judge_76 : decode c_m_judge 76 = .ok (.getfield 101, 3) := by decide +kernel
theorem d_m_judge_79 : decode c_m_judge 79 = .ok (.iconst 3, 1) := by decide +kernel
theorem d_m_judge_80 : decode c_m_judge 80 = .ok (.irem, 1) := by decide +kernel
theorem d_m_judge_81 : decode c_m_judge 81 = .ok (.imul, 1) := by decide +kernel
theorem d_m_judge_82 : decode c_m_judge 82 = .ok (.iload_n 3, 1) := by decide +kernel
theorem d_m_judge_83 : decode c_m_judge 83 = .ok (.iadd, 1) := by decide +kernel
theorem d_m_judge_84 : decode c_m_judge 84 = .ok (.aload_n 0, 1) := by decide +kernel
theorem d_m_judge_85 : decode c_m_judge 85 = .ok (.iload_n 1, 1) := by decide +kernel
theorem d_m_judge_86 : decode c_m_judge 86 = .ok (.bipush 12, 2) := by decide +kernel
theorem d_m_judge_88 : decode c_m_judge 88 = .ok (.iload_n 3, 1) := by decide +kernel
theorem d_m_judge_89 : decode c_m_judge 89 = .ok (.iadd, 1) := by decide +kernel
theorem d_m_judge_90 : decode c_m_judge 90 = .ok (.invokevirtual 48, 3) := by decide +kernel
theorem d_m_judge_93 : decode c_m_judge 93 = .ok (.iastore, 1) := by decide +kernel
theorem d_m_judge_94 : decode c_m_judge 94 = .ok (.iinc 3 1, 3) := by decide +kernel
theorem d_m_judge_97 : decode c_m_judge 97 = .ok (.goto (-34), 3) := by decide +kernel
theorem d_m_judge_100 : decode c_m_judge 100 = .ok (.aload_n 0, 1) := by decide +kernel
theorem d_m_judge_101 : decode c_m_judge 101 = .ok (.dup, 1) := by decide +kernel
theorem d_m_judge_102 : decode c_m_judge 102 = .ok (.getfield 101, 3) := by decide +kernel
theorem d_m_judge_105 : decode c_m_judge 105 = .ok (.iconst 1, 1) := by decide +kernel
theorem d_m_judge_106 : decode c_m_judge 106 = .ok (.iadd, 1) := by decide +kernel
theorem d_m_judge_107 : decode c_m_judge 107 = .ok (.putfield 101, 3) := by decide +kernel
theorem d_m_judge_110 : decode c_m_judge 110 = .ok (.return_, 1) := by decide +kernel
theorem d_m_pay_0 : decode c_m_pay 0 = .ok (.aload_n 0, 1) := by decide +kernel
theorem d_m_pay_1 : decode c_m_pay 1 = .ok (.invokevirtual 107, 3) := by decide +kernel
theorem d_m_pay_4 : decode c_m_pay 4 = .ok (.ifCond .ne 4, 3) := by decide +kernel
theorem d_m_pay_7 : decode c_m_pay 7 = .ok (.return_, 1) := by decide +kernel
theorem d_m_pay_8 : decode c_m_pay 8 = .ok (.aload_n 0, 1) := by decide +kernel
theorem d_m_pay_9 : decode c_m_pay 9 = .ok (.getfield 16, 3) := by decide +kernel
theorem d_m_pay_12 : decode c_m_pay 12 = .ok (.bipush 6, 2) := by decide +kernel
theorem d_m_pay_14 : decode c_m_pay 14 = .ok (.aload_n 0, 1) := by decide +kernel
theorem d_m_pay_15 : decode c_m_pay 15 = .ok (.iload_n 1, 1) := by decide +kernel
theorem d_m_pay_16 : decode c_m_pay 16 = .ok (.iconst 4, 1) := by decide +kernel
theorem d_m_pay_17 : decode c_m_pay 17 = .ok (.invokevirtual 48, 3) := by decide +kernel
theorem d_m_pay_20 : decode c_m_pay 20 = .ok (.imul, 1) := by decide +kernel
theorem d_m_pay_21 : decode c_m_pay 21 = .ok (.iconst 1, 1) := by decide +kernel
theorem d_m_pay_22 : decode c_m_pay 22 = .ok (.iadd, 1) := by decide +kernel
theorem d_m_pay_23 : decode c_m_pay 23 = .ok (.iaload, 1) := by decide +kernel
theorem d_m_pay_24 : decode c_m_pay 24 = .ok (.istore_n 2, 1) := by decide +kernel
theorem d_m_pay_25 : decode c_m_pay 25 = .ok (.aload_n 0, 1) := by decide +kernel
theorem d_m_pay_26 : decode c_m_pay 26 = .ok (.iload_n 1, 1) := by decide +kernel
theorem d_m_pay_27 : decode c_m_pay 27 = .ok (.iconst 5, 1) := by decide +kernel
theorem d_m_pay_28 : decode c_m_pay 28 = .ok (.iconst 1, 1) := by decide +kernel
theorem d_m_pay_29 : decode c_m_pay 29 = .ok (.invokevirtual 78, 3) := by decide +kernel
theorem d_m_pay_32 : decode c_m_pay 32 = .ok (.aload_n 0, 1) := by decide +kernel
theorem d_m_pay_33 : decode c_m_pay 33 = .ok (.dup, 1) := by decide +kernel
theorem d_m_pay_34 : decode c_m_pay 34 = .ok (.getfield 110, 3) := by decide +kernel
theorem d_m_pay_37 : decode c_m_pay 37 = .ok (.iload_n 2, 1) := by decide +kernel
theorem d_m_pay_38 : decode c_m_pay 38 = .ok (.iadd, 1) := by decide +kernel
theorem d_m_pay_39 : decode c_m_pay 39 = .ok (.putfield 110, 3) := by decide +kernel
theorem d_m_pay_42 : decode c_m_pay 42 = .ok (.aload_n 0, 1) := by decide +kernel
theorem d_m_pay_43 : decode c_m_pay 43 = .ok (.dup, 1) := by decide +kernel
theorem d_m_pay_44 : decode c_m_pay 44 = .ok (.getfield 113, 3) := by decide +kernel
theorem d_m_pay_47 : decode c_m_pay 47 = .ok (.iconst 1, 1) := by decide +kernel
theorem d_m_pay_48 : decode c_m_pay 48 = .ok (.iadd, 1) := by decide +kernel
theorem d_m_pay_49 : decode c_m_pay 49 = .ok (.putfield 113, 3) := by decide +kernel
theorem d_m_pay_52 : decode c_m_pay 52 = .ok (.aload_n 0, 1) := by decide +kernel
theorem d_m_pay_53 : decode c_m_pay 53 = .ok (.dup, 1) := by decide +kernel
theorem d_m_pay_54 : decode c_m_pay 54 = .ok (.getfield 116, 3) := by decide +kernel
theorem d_m_pay_57 : decode c_m_pay 57 = .ok (.iload_n 2, 1) := by decide +kernel
theorem d_m_pay_58 : decode c_m_pay 58 = .ok (.iadd, 1) := by decide +kernel
theorem d_m_pay_59 : decode c_m_pay 59 = .ok (.putfield 116, 3) := by decide +kernel
theorem d_m_pay_62 : decode c_m_pay 62 = .ok (.return_, 1) := by decide +kernel
theorem d_m_drop_0 : decode c_m_drop 0 = .ok (.aload_n 0, 1) := by decide +kernel
theorem d_m_drop_1 : decode c_m_drop 1 = .ok (.invokevirtual 107, 3) := by decide +kernel
theorem d_m_drop_4 : decode c_m_drop 4 = .ok (.ifCond .ne 5, 3) := by decide +kernel
theorem d_m_drop_7 : decode c_m_drop 7 = .ok (.iconst 0, 1) := by decide +kernel
theorem d_m_drop_8 : decode c_m_drop 8 = .ok (.ireturn, 1) := by decide +kernel
theorem d_m_drop_9 : decode c_m_drop 9 = .ok (.aload_n 0, 1) := by decide +kernel
theorem d_m_drop_10 : decode c_m_drop 10 = .ok (.getfield 22, 3) := by decide +kernel
theorem d_m_drop_13 : decode c_m_drop 13 = .ok (.aload_n 0, 1) := by decide +kernel
theorem d_m_drop_14 : decode c_m_drop 14 = .ok (.getfield 16, 3) := by decide +kernel
theorem d_m_drop_17 : decode c_m_drop 17 = .ok (.bipush 6, 2) := by decide +kernel
theorem d_m_drop_19 : decode c_m_drop 19 = .ok (.aload_n 0, 1) := by decide +kernel
theorem d_m_drop_20 : decode c_m_drop 20 = .ok (.iload_n 1, 1) := by decide +kernel
theorem d_m_drop_21 : decode c_m_drop 21 = .ok (.iconst 4, 1) := by decide +kernel
theorem d_m_drop_22 : decode c_m_drop 22 = .ok (.invokevirtual 48, 3) := by decide +kernel
theorem d_m_drop_25 : decode c_m_drop 25 = .ok (.imul, 1) := by decide +kernel
theorem d_m_drop_26 : decode c_m_drop 26 = .ok (.iconst 2, 1) := by decide +kernel
theorem d_m_drop_27 : decode c_m_drop 27 = .ok (.iadd, 1) := by decide +kernel
theorem d_m_drop_28 : decode c_m_drop 28 = .ok (.iaload, 1) := by decide +kernel
theorem d_m_drop_29 : decode c_m_drop 29 = .ok (.dup2, 1) := by decide +kernel
theorem d_m_drop_30 : decode c_m_drop 30 = .ok (.iaload, 1) := by decide +kernel
theorem d_m_drop_31 : decode c_m_drop 31 = .ok (.iconst 1, 1) := by decide +kernel
theorem d_m_drop_32 : decode c_m_drop 32 = .ok (.iadd, 1) := by decide +kernel
theorem d_m_drop_33 : decode c_m_drop 33 = .ok (.iastore, 1) := by decide +kernel
theorem d_m_drop_34 : decode c_m_drop 34 = .ok (.aload_n 0, 1) := by decide +kernel
theorem d_m_drop_35 : decode c_m_drop 35 = .ok (.iconst 0, 1) := by decide +kernel
theorem d_m_drop_36 : decode c_m_drop 36 = .ok (.putfield 91, 3) := by decide +kernel
theorem d_m_drop_39 : decode c_m_drop 39 = .ok (.aload_n 0, 1) := by decide +kernel
theorem d_m_drop_40 : decode c_m_drop 40 = .ok (.iload_n 1, 1) := by decide +kernel
theorem d_m_drop_41 : decode c_m_drop 41 = .ok (.invokevirtual 119, 3) := by decide +kernel
theorem d_m_drop_44 : decode c_m_drop 44 = .ok (.iconst 1, 1) := by decide +kernel
theorem d_m_drop_45 : decode c_m_drop 45 = .ok (.ireturn, 1) := by decide +kernel
theorem d_m_forward_0 : decode c_m_forward 0 = .ok (.aload_n 0, 1) := by decide +kernel
theorem d_m_forward_1 : decode c_m_forward 1 = .ok (.aload_n 0, 1) := by decide +kernel
theorem d_m_forward_2 : decode c_m_forward 2 = .ok (.getfield 55, 3) := by decide +kernel
theorem d_m_forward_5 : decode c_m_forward 5 = .ok (.iconst 1, 1) := by decide +kernel
theorem d_m_forward_6 : decode c_m_forward 6 = .ok (.invokevirtual 59, 3) := by decide +kernel
theorem d_m_forward_9 : decode c_m_forward 9 = .ok (.ifCond .ne 27, 3) := by decide +kernel
theorem d_m_forward_12 : decode c_m_forward 12 = .ok (.aload_n 0, 1) := by decide +kernel
theorem d_m_forward_13 : decode c_m_forward 13 = .ok (.iload_n 1, 1) := by decide +kernel
theorem d_m_forward_14 : decode c_m_forward 14 = .ok (.iconst 0, 1) := by decide +kernel
theorem d_m_forward_15 : decode c_m_forward 15 = .ok (.sipush 300, 3) := by decide +kernel
theorem d_m_forward_18 : decode c_m_forward 18 = .ok (.invokestatic 63, 3) := by decide +kernel
theorem d_m_forward_21 : decode c_m_forward 21 = .ok (.ifCond .ne 7, 3) := by decide +kernel
theorem d_m_forward_24 : decode c_m_forward 24 = .ok (.iconst 1, 1) := by decide +kernel
theorem d_m_forward_25 : decode c_m_forward 25 = .ok (.goto 4, 3) := by decide +kernel
theorem d_m_forward_28 : decode c_m_forward 28 = .ok (.iconst 0, 1) := by decide +kernel
theorem d_m_forward_29 : decode c_m_forward 29 = .ok (.iconst 2, 1) := by decide +kernel
theorem d_m_forward_30 : decode c_m_forward 30 = .ok (.invokevirtual 59, 3) := by decide +kernel
theorem d_m_forward_33 : decode c_m_forward 33 = .ok (.ifCond .eq 5, 3) := by decide +kernel
theorem d_m_forward_36 : decode c_m_forward 36 = .ok (.iconst 0, 1) := by decide +kernel
theorem d_m_forward_37 : decode c_m_forward 37 = .ok (.ireturn, 1) := by decide +kernel
theorem d_m_forward_38 : decode c_m_forward 38 = .ok (.iconst 0, 1) := by decide +kernel
theorem d_m_forward_39 : decode c_m_forward 39 = .ok (.istore_n 2, 1) := by decide +kernel
theorem d_m_forward_40 : decode c_m_forward 40 = .ok (.iload_n 2, 1) := by decide +kernel
theorem d_m_forward_41 : decode c_m_forward 41 = .ok (.iload_n 1, 1) := by decide +kernel
theorem d_m_forward_42 : decode c_m_forward 42 = .ok (.if_icmp .ge 151, 3) := by decide +kernel
theorem d_m_forward_45 : decode c_m_forward 45 = .ok (.aload_n 0, 1) := by decide +kernel
theorem d_m_forward_46 : decode c_m_forward 46 = .ok (.getfield 55, 3) := by decide +kernel
theorem d_m_forward_49 : decode c_m_forward 49 = .ok (.ifCond .ne 144, 3) := by decide +kernel
theorem d_m_forward_52 : decode c_m_forward 52 = .ok (.aload_n 0, 1) := by decide +kernel
theorem d_m_forward_53 : decode c_m_forward 53 = .ok (.invokevirtual 123, 3) := by decide +kernel
theorem d_m_forward_56 : decode c_m_forward 56 = .ok (.ifCond .ne 137, 3) := by decide +kernel
theorem d_m_forward_59 : decode c_m_forward 59 = .ok (.iconst 0, 1) := by decide +kernel
theorem d_m_forward_60 : decode c_m_forward 60 = .ok (.istore_n 3, 1) := by decide +kernel
theorem d_m_forward_61 : decode c_m_forward 61 = .ok (.iload_n 3, 1) := by decide +kernel
theorem d_m_forward_62 : decode c_m_forward 62 = .ok (.aload_n 0, 1) := by decide +kernel
theorem d_m_forward_63 : decode c_m_forward 63 = .ok (.getfield 52, 3) := by decide +kernel
theorem d_m_forward_66 : decode c_m_forward 66 = .ok (.if_icmp .ge 23, 3) := by decide +kernel
theorem d_m_forward_69 : decode c_m_forward 69 = .ok (.aload_n 0, 1) := by decide +kernel
theorem d_m_forward_70 : decode c_m_forward 70 = .ok (.iload_n 3, 1) := by decide +kernel
theorem d_m_forward_71 : decode c_m_forward 71 = .ok (.iconst 2, 1) := by decide +kernel
theorem d_m_forward_72 : decode c_m_forward 72 = .ok (.aload_n 0, 1) := by decide +kernel
theorem d_m_forward_73 : decode c_m_forward 73 = .ok (.iload_n 3, 1) := by decide +kernel
theorem d_m_forward_74 : decode c_m_forward 74 = .ok (.iconst 2, 1) := by decide +kernel
theorem d_m_forward_75 : decode c_m_forward 75 = .ok (.invokevirtual 48, 3) := by decide +kernel
theorem d_m_forward_78 : decode c_m_forward 78 = .ok (.iconst 1, 1) := by decide +kernel
theorem d_m_forward_79 : decode c_m_forward 79 = .ok (.iadd, 1) := by decide +kernel
theorem d_m_forward_80 : decode c_m_forward 80 = .ok (.invokevirtual 78, 3) := by decide +kernel
theorem d_m_forward_83 : decode c_m_forward 83 = .ok (.iinc 3 1, 3) := by decide +kernel
theorem d_m_forward_86 : decode c_m_forward 86 = .ok (.goto (-25), 3) := by decide +kernel
theorem d_m_forward_89 : decode c_m_forward 89 = .ok (.iinc 2 1, 3) := by decide +kernel
theorem d_m_forward_92 : decode c_m_forward 92 = .ok (.iconst 0, 1) := by decide +kernel
theorem d_m_forward_93 : decode c_m_forward 93 = .ok (.istore_n 3, 1) := by decide +kernel
theorem d_m_forward_94 : decode c_m_forward 94 = .ok (.iload_n 3, 1) := by decide +kernel
theorem d_m_forward_95 : decode c_m_forward 95 = .ok (.aload_n 0, 1) := by decide +kernel
theorem d_m_forward_96 : decode c_m_forward 96 = .ok (.getfield 52, 3) := by decide +kernel
theorem d_m_forward_99 : decode c_m_forward 99 = .ok (.if_icmp .ge 91, 3) := by decide +kernel
theorem d_m_forward_102 : decode c_m_forward 102 = .ok (.aload_n 0, 1) := by decide +kernel
theorem d_m_forward_103 : decode c_m_forward 103 = .ok (.getfield 55, 3) := by decide +kernel
theorem d_m_forward_106 : decode c_m_forward 106 = .ok (.ifCond .ne 84, 3) := by decide +kernel
theorem d_m_forward_109 : decode c_m_forward 109 = .ok (.iconst 0, 1) := by decide +kernel
theorem d_m_forward_110 : decode c_m_forward 110 = .ok (.istore 4, 2) := by decide +kernel
theorem d_m_forward_112 : decode c_m_forward 112 = .ok (.aload_n 0, 1) := by decide +kernel
theorem d_m_forward_113 : decode c_m_forward 113 = .ok (.iload_n 3, 1) := by decide +kernel
theorem d_m_forward_114 : decode c_m_forward 114 = .ok (.invokevirtual 72, 3) := by decide +kernel
theorem d_m_forward_117 : decode c_m_forward 117 = .ok (.bipush 60, 2) := by decide +kernel
theorem d_m_forward_119 : decode c_m_forward 119 = .ok (.if_icmp .ne 8, 3) := by decide +kernel
theorem d_m_forward_122 : decode c_m_forward 122 = .ok (.aload_n 0, 1) := by decide +kernel
theorem d_m_forward_123 : decode c_m_forward 123 = .ok (.iload_n 3, 1) := by decide +kernel
theorem d_m_forward_124 : decode c_m_forward 124 = .ok (.invokevirtual 126, 3) := by decide +kernel
theorem d_m_forward_127 : decode c_m_forward 127 = .ok (.aload_n 0, 1) := by decide +kernel
theorem d_m_forward_128 : decode c_m_forward 128 = .ok (.getfield 55, 3) := by decide +kernel
theorem d_m_forward_131 : decode c_m_forward 131 = .ok (.ifCond .ne 19, 3) := by decide +kernel
theorem d_m_forward_134 : decode c_m_forward 134 = .ok (.aload_n 0, 1) := by decide +kernel
theorem d_m_forward_135 : decode c_m_forward 135 = .ok (.iload_n 3, 1) := by decide +kernel
theorem d_m_forward_136 : decode c_m_forward 136 = .ok (.iconst 2, 1) := by decide +kernel
theorem d_m_forward_137 : decode c_m_forward 137 = .ok (.invokevirtual 48, 3) := by decide +kernel
theorem d_m_forward_140 : decode c_m_forward 140 = .ok (.bipush 105, 2) := by decide +kernel
theorem d_m_forward_142 : decode c_m_forward 142 = .ok (.if_icmp .ne 8, 3) := by decide +kernel
theorem d_m_forward_145 : decode c_m_forward 145 = .ok (.aload_n 0, 1) := by decide +kernel
theorem d_m_forward_146 : decode c_m_forward 146 = .ok (.iload_n 3, 1) := by decide +kernel
theorem d_m_forward_147 : decode c_m_forward 147 = .ok (.invokevirtual 129, 3) := by decide +kernel
theorem d_m_forward_150 : decode c_m_forward 150 = .ok (.aload_n 0, 1) := by decide +kernel
theorem d_m_forward_151 : decode c_m_forward 151 = .ok (.getfield 55, 3) := by decide +kernel
theorem d_m_forward_154 : decode c_m_forward 154 = .ok (.ifCond .ne 20, 3) := by decide +kernel
theorem d_m_forward_157 : decode c_m_forward 157 = .ok (.aload_n 0, 1) := by decide +kernel
theorem d_m_forward_158 : decode c_m_forward 158 = .ok (.iload_n 3, 1) := by decide +kernel
theorem d_m_forward_159 : decode c_m_forward 159 = .ok (.invokevirtual 72, 3) := by decide +kernel
theorem d_m_forward_162 : decode c_m_forward 162 = .ok (.bipush 110, 2) := by decide +kernel
theorem d_m_forward_164 : decode c_m_forward 164 = .ok (.if_icmp .ne 10, 3) := by decide +kernel
theorem d_m_forward_167 : decode c_m_forward 167 = .ok (.aload_n 0, 1) := by decide +kernel
theorem d_m_forward_168 : decode c_m_forward 168 = .ok (.iload_n 3, 1) := by decide +kernel
theorem d_m_forward_169 : decode c_m_forward 169 = .ok (.invokevirtual 132, 3) := by decide +kernel
theorem d_m_forward_172 : decode c_m_forward 172 = .ok (.istore 4, 2) := by decide +kernel
theorem d_m_forward_174 : decode c_m_forward 174 = .ok (.iload_n 3, 1) := by decide +kernel
theorem d_m_forward_175 : decode c_m_forward 175 = .ok (.iload 4, 2) := by decide +kernel
theorem d_m_forward_177 : decode c_m_forward 177 = .ok (.ifCond .eq 7, 3) := by decide +kernel
theorem d_m_forward_180 : decode c_m_forward 180 = .ok (.iconst 0, 1) := by decide +kernel
theorem d_m_forward_181 : decode c_m_forward 181 = .ok (.goto 4, 3) := by decide +kernel
theorem d_m_forward_184 : decode c_m_forward 184 = .ok (.iconst 1, 1) := by decide +kernel
theorem d_m_forward_185 : decode c_m_forward 185 = .ok (.iadd, 1) := by decide +kernel
theorem d_m_forward_186 : decode c_m_forward 186 = .ok (.istore_n 3, 1) := by decide +kernel
theorem d_m_forward_187 : decode c_m_forward 187 = .ok (.goto (-93), 3) := by decide +kernel
theorem d_m_forward_190 : decode c_m_forward 190 = .ok (.goto (-150), 3) := by decide +kernel
theorem d_m_forward_193 : decode c_m_forward 193 = .ok (.iload_n 2, 1) := by decide +kernel
theorem d_m_forward_194 : decode c_m_forward 194 = .ok (.ireturn, 1) := by decide +kernel
theorem d_m_forget_0 : decode c_m_forget 0 = .ok (.aload_n 0, 1) := by decide +kernel
theorem d_m_forget_1 : decode c_m_forget 1 = .ok (.iload_n 1, 1) := by decide +kernel
theorem d_m_forget_2 : decode c_m_forget 2 = .ok (.iconst 3, 1) := by decide +kernel
theorem d_m_forget_3 : decode c_m_forget 3 = .ok (.iconst 0, 1) := by decide +kernel
theorem d_m_forget_4 : decode c_m_forget 4 = .ok (.invokevirtual 78, 3) := by decide +kernel
theorem d_m_forget_7 : decode c_m_forget 7 = .ok (.aload_n 0, 1) := by decide +kernel
theorem d_m_forget_8 : decode c_m_forget 8 = .ok (.iload_n 1, 1) := by decide +kernel
theorem d_m_forget_9 : decode c_m_forget 9 = .ok (.iconst 4, 1) := by decide +kernel
theorem d_m_forget_10 : decode c_m_forget 10 = .ok (.iconst (-1), 1) := by decide +kernel
theorem d_m_forget_11 : decode c_m_forget 11 = .ok (.invokevirtual 78, 3) := by decide +kernel
theorem d_m_forget_14 : decode c_m_forget 14 = .ok (.aload_n 0, 1) := by decide +kernel
theorem d_m_forget_15 : decode c_m_forget 15 = .ok (.iload_n 1, 1) := by decide +kernel
theorem d_m_forget_16 : decode c_m_forget 16 = .ok (.bipush 6, 2) := by decide +kernel
theorem d_m_forget_18 : decode c_m_forget 18 = .ok (.iconst (-1), 1) := by decide +kernel
theorem d_m_forget_19 : decode c_m_forget 19 = .ok (.invokevirtual 78, 3) := by decide +kernel
theorem d_m_forget_22 : decode c_m_forget 22 = .ok (.aload_n 0, 1) := by decide +kernel
theorem d_m_forget_23 : decode c_m_forget 23 = .ok (.iload_n 1, 1) := by decide +kernel
theorem d_m_forget_24 : decode c_m_forget 24 = .ok (.bipush 7, 2) := by decide +kernel
theorem d_m_forget_26 : decode c_m_forget 26 = .ok (.iconst 0, 1) := by decide +kernel
theorem d_m_forget_27 : decode c_m_forget 27 = .ok (.invokevirtual 78, 3) := by decide +kernel
theorem d_m_forget_30 : decode c_m_forget 30 = .ok (.aload_n 0, 1) := by decide +kernel
theorem d_m_forget_31 : decode c_m_forget 31 = .ok (.iload_n 1, 1) := by decide +kernel
theorem d_m_forget_32 : decode c_m_forget 32 = .ok (.bipush 8, 2) := by decide +kernel
theorem d_m_forget_34 : decode c_m_forget 34 = .ok (.iconst 0, 1) := by decide +kernel
theorem d_m_forget_35 : decode c_m_forget 35 = .ok (.invokevirtual 78, 3) := by decide +kernel
theorem d_m_forget_38 : decode c_m_forget 38 = .ok (.return_, 1) := by decide +kernel
theorem d_m_back_0 : decode c_m_back 0 = .ok (.aload_n 0, 1) := by decide +kernel
theorem d_m_back_1 : decode c_m_back 1 = .ok (.aload_n 0, 1) := by decide +kernel
theorem d_m_back_2 : decode c_m_back 2 = .ok (.getfield 55, 3) := by decide +kernel
theorem d_m_back_5 : decode c_m_back 5 = .ok (.iconst 1, 1) := by decide +kernel
theorem d_m_back_6 : decode c_m_back 6 = .ok (.invokevirtual 59, 3) := by decide +kernel
theorem d_m_back_9 : decode c_m_back 9 = .ok (.ifCond .ne 27, 3) := by decide +kernel
theorem d_m_back_12 : decode c_m_back 12 = .ok (.aload_n 0, 1) := by decide +kernel
theorem d_m_back_13 : decode c_m_back 13 = .ok (.iload_n 1, 1) := by decide +kernel
theorem d_m_back_14 : decode c_m_back 14 = .ok (.iconst 0, 1) := by decide +kernel
theorem d_m_back_15 : decode c_m_back 15 = .ok (.sipush 300, 3) := by decide +kernel
theorem d_m_back_18 : decode c_m_back 18 = .ok (.invokestatic 63, 3) := by decide +kernel
theorem d_m_back_21 : decode c_m_back 21 = .ok (.ifCond .ne 7, 3) := by decide +kernel
theorem d_m_back_24 : decode c_m_back 24 = .ok (.iconst 1, 1) := by decide +kernel
theorem d_m_back_25 : decode c_m_back 25 = .ok (.goto 4, 3) := by decide +kernel
theorem d_m_back_28 : decode c_m_back 28 = .ok (.iconst 0, 1) := by decide +kernel
theorem d_m_back_29 : decode c_m_back 29 = .ok (.iconst 2, 1) := by decide +kernel
theorem d_m_back_30 : decode c_m_back 30 = .ok (.invokevirtual 59, 3) := by decide +kernel
theorem d_m_back_33 : decode c_m_back 33 = .ok (.ifCond .eq 5, 3) := by decide +kernel
theorem d_m_back_36 : decode c_m_back 36 = .ok (.iconst 0, 1) := by decide +kernel
theorem d_m_back_37 : decode c_m_back 37 = .ok (.ireturn, 1) := by decide +kernel
theorem d_m_back_38 : decode c_m_back 38 = .ok (.iconst 0, 1) := by decide +kernel
theorem d_m_back_39 : decode c_m_back 39 = .ok (.istore_n 2, 1) := by decide +kernel
theorem d_m_back_40 : decode c_m_back 40 = .ok (.iconst 0, 1) := by decide +kernel
theorem d_m_back_41 : decode c_m_back 41 = .ok (.istore_n 3, 1) := by decide +kernel
theorem d_m_back_42 : decode c_m_back 42 = .ok (.iload_n 3, 1) := by decide +kernel
theorem d_m_back_43 : decode c_m_back 43 = .ok (.iload_n 1, 1) := by decide +kernel
theorem d_m_back_44 : decode c_m_back 44 = .ok (.if_icmp .ge 123, 3) := by decide +kernel
theorem d_m_back_47 : decode c_m_back 47 = .ok (.iconst 0, 1) := by decide +kernel
theorem d_m_back_48 : decode c_m_back 48 = .ok (.istore 4, 2) := by decide +kernel
theorem d_m_back_50 : decode c_m_back 50 = .ok (.aload_n 0, 1) := by decide +kernel
theorem d_m_back_51 : decode c_m_back 51 = .ok (.getfield 52, 3) := by decide +kernel
theorem d_m_back_54 : decode c_m_back 54 = .ok (.iconst 1, 1) := by decide +kernel
theorem d_m_back_55 : decode c_m_back 55 = .ok (.isub, 1) := by decide +kernel
theorem d_m_back_56 : decode c_m_back 56 = .ok (.istore 5, 2) := by decide +kernel
theorem d_m_back_58 : decode c_m_back 58 = .ok (.iload 5, 2) := by decide +kernel
theorem d_m_back_60 : decode c_m_back 60 = .ok (.ifCond .lt 82, 3) := by decide +kernel
theorem d_m_back_63 : decode c_m_back 63 = .ok (.aload_n 0, 1) := by decide +kernel
theorem d_m_back_64 : decode c_m_back 64 = .ok (.iload 5, 2) := by decide +kernel
theorem d_m_back_66 : decode c_m_back 66 = .ok (.iconst 2, 1) := by decide +kernel
theorem d_m_back_67 : decode c_m_back 67 = .ok (.invokevirtual 48, 3) := by decide +kernel
theorem d_m_back_70 : decode c_m_back 70 = .ok (.bipush 104, 2) := by decide +kernel
theorem d_m_back_72 : decode c_m_back 72 = .ok (.if_icmp .le 6, 3) := by decide +kernel
theorem d_m_back_75 : decode c_m_back 75 = .ok (.goto 61, 3) := by decide +kernel
theorem d_m_back_78 : decode c_m_back 78 = .ok (.iconst 1, 1) := by decide +kernel
theorem d_m_back_79 : decode c_m_back 79 = .ok (.istore 4, 2) := by decide +kernel
theorem d_m_back_81 : decode c_m_back 81 = .ok (.aload_n 0, 1) := by decide +kernel
theorem d_m_back_82 : decode c_m_back 82 = .ok (.iload 5, 2) := by decide +kernel
theorem d_m_back_84 : decode c_m_back 84 = .ok (.iconst 2, 1) := by decide +kernel
theorem d_m_back_85 : decode c_m_back 85 = .ok (.aload_n 0, 1) := by decide +kernel
theorem d_m_back_86 : decode c_m_back 86 = .ok (.iload 5, 2) := by decide +kernel
theorem d_m_back_88 : decode c_m_back 88 = .ok (.iconst 2, 1) := by decide +kernel
theorem d_m_back_89 : decode c_m_back 89 = .ok (.invokevirtual 48, 3) := by decide +kernel
theorem d_m_back_92 : decode c_m_back 92 = .ok (.iconst 1, 1) := by decide +kernel
theorem d_m_back_93 : decode c_m_back 93 = .ok (.isub, 1) := by decide +kernel
theorem d_m_back_94 : decode c_m_back 94 = .ok (.invokevirtual 78, 3) := by decide +kernel
theorem d_m_back_97 : decode c_m_back 97 = .ok (.aload_n 0, 1) := by decide +kernel
theorem d_m_back_98 : decode c_m_back 98 = .ok (.iload 5, 2) := by decide +kernel
theorem d_m_back_100 : decode c_m_back 100 = .ok (.invokevirtual 72, 3) := by decide +kernel
theorem d_m_back_103 : decode c_m_back 103 = .ok (.bipush 59, 2) := by decide +kernel
theorem d_m_back_105 : decode c_m_back 105 = .ok (.if_icmp .ne 9, 3) := by decide +kernel
theorem d_m_back_108 : decode c_m_back 108 = .ok (.aload_n 0, 1) := by decide +kernel
theorem d_m_back_109 : decode c_m_back 109 = .ok (.iload 5, 2) := by decide +kernel
theorem d_m_back_111 : decode c_m_back 111 = .ok (.invokevirtual 136, 3) := by decide +kernel
theorem d_m_back_114 : decode c_m_back 114 = .ok (.aload_n 0, 1) := by decide +kernel
theorem d_m_back_115 : decode c_m_back 115 = .ok (.iload 5, 2) := by decide +kernel
theorem d_m_back_117 : decode c_m_back 117 = .ok (.iconst 2, 1) := by decide +kernel
theorem d_m_back_118 : decode c_m_back 118 = .ok (.invokevirtual 48, 3) := by decide +kernel
theorem d_m_back_121 : decode c_m_back 121 = .ok (.ifCond .lt 6, 3) := by decide +kernel
theorem d_m_back_124 : decode c_m_back 124 = .ok (.goto 12, 3) := by decide +kernel
theorem d_m_back_127 : decode c_m_back 127 = .ok (.aload_n 0, 1) := by decide +kernel
theorem d_m_back_128 : decode c_m_back 128 = .ok (.iload 5, 2) := by decide +kernel
theorem d_m_back_130 : decode c_m_back 130 = .ok (.invokevirtual 119, 3) := by decide +kernel
theorem d_m_back_133 : decode c_m_back 133 = .ok (.iinc 2 1, 3) := by decide +kernel
theorem d_m_back_136 : decode c_m_back 136 = .ok (.iinc 5 (-1), 3) := by decide +kernel
theorem d_m_back_139 : decode c_m_back 139 = .ok (.goto (-81), 3) := by decide +kernel
theorem d_m_back_142 : decode c_m_back 142 = .ok (.aload_n 0, 1) := by decide +kernel
theorem d_m_back_143 : decode c_m_back 143 = .ok (.dup, 1) := by decide +kernel
theorem d_m_back_144 : decode c_m_back 144 = .ok (.getfield 91, 3) := by decide +kernel
theorem d_m_back_147 : decode c_m_back 147 = .ok (.iload 4, 2) := by decide +kernel
theorem d_m_back_149 : decode c_m_back 149 = .ok (.ifCond .eq 7, 3) := by decide +kernel
theorem d_m_back_152 : decode c_m_back 152 = .ok (.iconst 1, 1) := by decide +kernel
theorem d_m_back_153 : decode c_m_back 153 = .ok (.goto 4, 3) := by decide +kernel
theorem d_m_back_156 : decode c_m_back 156 = .ok (.iconst 0, 1) := by decide +kernel
theorem d_m_back_157 : decode c_m_back 157 = .ok (.iadd, 1) := by decide +kernel
theorem d_m_back_158 : decode c_m_back 158 = .ok (.putfield 91, 3) := by decide +kernel
theorem d_m_back_161 : decode c_m_back 161 = .ok (.iinc 3 1, 3) := by decide +kernel
theorem d_m_back_164 : decode c_m_back 164 = .ok (.goto (-122), 3) := by decide +kernel
theorem d_m_back_167 : decode c_m_back 167 = .ok (.iload_n 2, 1) := by decide +kernel
theorem d_m_back_168 : decode c_m_back 168 = .ok (.ireturn, 1) := by decide +kernel
theorem d_m_voucher_0 : decode c_m_voucher 0 = .ok (.aload_n 0, 1) := by decide +kernel
theorem d_m_voucher_1 : decode c_m_voucher 1 = .ok (.aload_n 0, 1) := by decide +kernel
theorem d_m_voucher_2 : decode c_m_voucher 2 = .ok (.getfield 55, 3) := by decide +kernel
theorem d_m_voucher_5 : decode c_m_voucher 5 = .ok (.iconst 1, 1) := by decide +kernel
theorem d_m_voucher_6 : decode c_m_voucher 6 = .ok (.invokevirtual 59, 3) := by decide +kernel
theorem d_m_voucher_9 : decode c_m_voucher 9 = .ok (.ifCond .eq 5, 3) := by decide +kernel
theorem d_m_voucher_12 : decode c_m_voucher 12 = .ok (.iconst 0, 1) := by decide +kernel
theorem d_m_voucher_13 : decode c_m_voucher 13 = .ok (.ireturn, 1) := by decide +kernel
theorem d_m_voucher_14 : decode c_m_voucher 14 = .ok (.aload_n 0, 1) := by decide +kernel
theorem d_m_voucher_15 : decode c_m_voucher 15 = .ok (.getfield 110, 3) := by decide +kernel
theorem d_m_voucher_18 : decode c_m_voucher 18 = .ok (.ifCond .eq 19, 3) := by decide +kernel
theorem d_m_voucher_21 : decode c_m_voucher 21 = .ok (.aload_n 0, 1) := by decide +kernel
theorem d_m_voucher_22 : decode c_m_voucher 22 = .ok (.getfield 94, 3) := by decide +kernel
theorem d_m_voucher_25 : decode c_m_voucher 25 = .ok (.bipush 60, 2) := by decide +kernel
theorem d_m_voucher_27 : decode c_m_voucher 27 = .ok (.if_icmp .eq 10, 3) := by decide +kernel
theorem d_m_voucher_30 : decode c_m_voucher 30 = .ok (.aload_n 0, 1) := by decide +kernel
theorem d_m_voucher_31 : decode c_m_voucher 31 = .ok (.invokevirtual 107, 3) := by decide +kernel
theorem d_m_voucher_34 : decode c_m_voucher 34 = .ok (.ifCond .ne 5, 3) := by decide +kernel
theorem d_m_voucher_37 : decode c_m_voucher 37 = .ok (.iconst 0, 1) := by decide +kernel
theorem d_m_voucher_38 : decode c_m_voucher 38 = .ok (.ireturn, 1) := by decide +kernel
theorem d_m_voucher_39 : decode c_m_voucher 39 = .ok (.aload_n 0, 1) := by decide +kernel
theorem d_m_voucher_40 : decode c_m_voucher 40 = .ok (.dup, 1) := by decide +kernel
theorem d_m_voucher_41 : decode c_m_voucher 41 = .ok (.getfield 139, 3) := by decide +kernel
theorem d_m_voucher_44 : decode c_m_voucher 44 = .ok (.iconst 1, 1) := by decide +kernel
theorem d_m_voucher_45 : decode c_m_voucher 45 = .ok (.iadd, 1) := by decide +kernel
theorem d_m_voucher_46 : decode c_m_voucher 46 = .ok (.putfield 139, 3) := by decide +kernel
theorem d_m_voucher_49 : decode c_m_voucher 49 = .ok (.aload_n 0, 1) := by decide +kernel
theorem d_m_voucher_50 : decode c_m_voucher 50 = .ok (.getfield 28, 3) := by decide +kernel
theorem d_m_voucher_53 : decode c_m_voucher 53 = .ok (.aload_n 0, 1) := by decide +kernel
theorem d_m_voucher_54 : decode c_m_voucher 54 = .ok (.getfield 94, 3) := by decide +kernel
theorem d_m_voucher_57 : decode c_m_voucher 57 = .ok (.aload_n 0, 1) := by decide +kernel
theorem d_m_voucher_58 : decode c_m_voucher 58 = .ok (.getfield 139, 3) := by decide +kernel
theorem d_m_voucher_61 : decode c_m_voucher 61 = .ok (.iastore, 1) := by decide +kernel
theorem d_m_voucher_62 : decode c_m_voucher 62 = .ok (.aload_n 0, 1) := by decide +kernel
theorem d_m_voucher_63 : decode c_m_voucher 63 = .ok (.getfield 31, 3) := by decide +kernel
theorem d_m_voucher_66 : decode c_m_voucher 66 = .ok (.aload_n 0, 1) := by decide +kernel
theorem d_m_voucher_67 : decode c_m_voucher 67 = .ok (.getfield 94, 3) := by decide +kernel
theorem d_m_voucher_70 : decode c_m_voucher 70 = .ok (.aload_n 0, 1) := by decide +kernel
theorem d_m_voucher_71 : decode c_m_voucher 71 = .ok (.getfield 110, 3) := by decide +kernel
theorem d_m_voucher_74 : decode c_m_voucher 74 = .ok (.iastore, 1) := by decide +kernel
theorem d_m_voucher_75 : decode c_m_voucher 75 = .ok (.aload_n 0, 1) := by decide +kernel
theorem d_m_voucher_76 : decode c_m_voucher 76 = .ok (.getfield 34, 3) := by decide +kernel
theorem d_m_voucher_79 : decode c_m_voucher 79 = .ok (.aload_n 0, 1) := by decide +kernel
theorem d_m_voucher_80 : decode c_m_voucher 80 = .ok (.getfield 94, 3) := by decide +kernel
theorem d_m_voucher_83 : decode c_m_voucher 83 = .ok (.iconst 0, 1) := by decide +kernel
theorem d_m_voucher_84 : decode c_m_voucher 84 = .ok (.bastore, 1) := by decide +kernel
theorem d_m_voucher_85 : decode c_m_voucher 85 = .ok (.aload_n 0, 1) := by decide +kernel
theorem d_m_voucher_86 : decode c_m_voucher 86 = .ok (.dup, 1) := by decide +kernel
theorem d_m_voucher_87 : decode c_m_voucher 87 = .ok (.getfield 94, 3) := by decide +kernel
theorem d_m_voucher_90 : decode c_m_voucher 90 = .ok (.iconst 1, 1) := by decide +kernel
theorem d_m_voucher_91 : decode c_m_voucher 91 = .ok (.iadd, 1) := by decide +kernel
theorem d_m_voucher_92 : decode c_m_voucher 92 = .ok (.putfield 94, 3) := by decide +kernel
theorem d_m_voucher_95 : decode c_m_voucher 95 = .ok (.aload_n 0, 1) := by decide +kernel
theorem d_m_voucher_96 : decode c_m_voucher 96 = .ok (.dup, 1) := by decide +kernel
theorem d_m_voucher_97 : decode c_m_voucher 97 = .ok (.getfield 142, 3) := by decide +kernel
theorem d_m_voucher_100 : decode c_m_voucher 100 = .ok (.aload_n 0, 1) := by decide +kernel
theorem d_m_voucher_101 : decode c_m_voucher 101 = .ok (.getfield 110, 3) := by decide +kernel
theorem d_m_voucher_104 : decode c_m_voucher 104 = .ok (.iadd, 1) := by decide +kernel
theorem d_m_voucher_105 : decode c_m_voucher 105 = .ok (.putfield 142, 3) := by decide +kernel
theorem d_m_voucher_108 : decode c_m_voucher 108 = .ok (.aload_n 0, 1) := by decide +kernel
theorem d_m_voucher_109 : decode c_m_voucher 109 = .ok (.iconst 0, 1) := by decide +kernel
theorem d_m_voucher_110 : decode c_m_voucher 110 = .ok (.putfield 110, 3) := by decide +kernel
theorem d_m_voucher_113 : decode c_m_voucher 113 = .ok (.aload_n 0, 1) := by decide +kernel
theorem d_m_voucher_114 : decode c_m_voucher 114 = .ok (.getfield 139, 3) := by decide +kernel
theorem d_m_voucher_117 : decode c_m_voucher 117 = .ok (.ireturn, 1) := by decide +kernel
theorem d_m_give_0 : decode c_m_give 0 = .ok (.aload_n 0, 1) := by decide +kernel
theorem d_m_give_1 : decode c_m_give 1 = .ok (.aload_n 0, 1) := by decide +kernel
theorem d_m_give_2 : decode c_m_give 2 = .ok (.getfield 55, 3) := by decide +kernel
theorem d_m_give_5 : decode c_m_give 5 = .ok (.iconst 1, 1) := by decide +kernel
theorem d_m_give_6 : decode c_m_give 6 = .ok (.invokevirtual 59, 3) := by decide +kernel
theorem d_m_give_9 : decode c_m_give 9 = .ok (.ifCond .eq 5, 3) := by decide +kernel
theorem d_m_give_12 : decode c_m_give 12 = .ok (.iconst 0, 1) := by decide +kernel
theorem d_m_give_13 : decode c_m_give 13 = .ok (.ireturn, 1) := by decide +kernel
theorem d_m_give_14 : decode c_m_give 14 = .ok (.aload_n 0, 1) := by decide +kernel
theorem d_m_give_15 : decode c_m_give 15 = .ok (.getfield 110, 3) := by decide +kernel
theorem d_m_give_18 : decode c_m_give 18 = .ok (.ifCond .eq 10, 3) := by decide +kernel
theorem d_m_give_21 : decode c_m_give 21 = .ok (.aload_n 0, 1) := by decide +kernel
theorem d_m_give_22 : decode c_m_give 22 = .ok (.invokevirtual 107, 3) := by decide +kernel
theorem d_m_give_25 : decode c_m_give 25 = .ok (.ifCond .ne 5, 3) := by decide +kernel
theorem d_m_give_28 : decode c_m_give 28 = .ok (.iconst 0, 1) := by decide +kernel
theorem d_m_give_29 : decode c_m_give 29 = .ok (.ireturn, 1) := by decide +kernel
theorem d_m_give_30 : decode c_m_give 30 = .ok (.aload_n 0, 1) := by decide +kernel
theorem d_m_give_31 : decode c_m_give 31 = .ok (.getfield 110, 3) := by decide +kernel
theorem d_m_give_34 : decode c_m_give 34 = .ok (.istore_n 1, 1) := by decide +kernel
theorem d_m_give_35 : decode c_m_give 35 = .ok (.aload_n 0, 1) := by decide +kernel
theorem d_m_give_36 : decode c_m_give 36 = .ok (.dup, 1) := by decide +kernel
theorem d_m_give_37 : decode c_m_give 37 = .ok (.getfield 145, 3) := by decide +kernel
theorem d_m_give_40 : decode c_m_give 40 = .ok (.iload_n 1, 1) := by decide +kernel
theorem d_m_give_41 : decode c_m_give 41 = .ok (.iadd, 1) := by decide +kernel
theorem d_m_give_42 : decode c_m_give 42 = .ok (.putfield 145, 3) := by decide +kernel
theorem d_m_give_45 : decode c_m_give 45 = .ok (.aload_n 0, 1) := by decide +kernel
theorem d_m_give_46 : decode c_m_give 46 = .ok (.iconst 0, 1) := by decide +kernel
theorem d_m_give_47 : decode c_m_give 47 = .ok (.putfield 110, 3) := by decide +kernel
theorem d_m_give_50 : decode c_m_give 50 = .ok (.iload_n 1, 1) := by decide +kernel
theorem d_m_give_51 : decode c_m_give 51 = .ok (.ireturn, 1) := by decide +kernel
theorem d_m_voucherAt_0 : decode c_m_voucherAt 0 = .ok (.iconst 0, 1) := by decide +kernel
theorem d_m_voucherAt_1 : decode c_m_voucherAt 1 = .ok (.istore_n 2, 1) := by decide +kernel
theorem d_m_voucherAt_2 : decode c_m_voucherAt 2 = .ok (.iload_n 2, 1) := by decide +kernel
theorem d_m_voucherAt_3 : decode c_m_voucherAt 3 = .ok (.aload_n 0, 1) := by decide +kernel
theorem d_m_voucherAt_4 : decode c_m_voucherAt 4 = .ok (.getfield 94, 3) := by decide +kernel
theorem d_m_voucherAt_7 : decode c_m_voucherAt 7 = .ok (.if_icmp .ge 21, 3) := by decide +kernel
theorem d_m_voucherAt_10 : decode c_m_voucherAt 10 = .ok (.aload_n 0, 1) := by decide +kernel
theorem d_m_voucherAt_11 : decode c_m_voucherAt 11 = .ok (.getfield 28, 3) := by decide +kernel
theorem d_m_voucherAt_14 : decode c_m_voucherAt 14 = .ok (.iload_n 2, 1) := by decide +kernel
theorem d_m_voucherAt_15 : decode c_m_voucherAt 15 = .ok (.iaload, 1) := by decide +kernel
theorem d_m_voucherAt_16 : decode c_m_voucherAt 16 = .ok (.iload_n 1, 1) := by decide +kernel
theorem d_m_voucherAt_17 : decode c_m_voucherAt 17 = .ok (.if_icmp .ne 5, 3) := by decide +kernel
theorem d_m_voucherAt_20 : decode c_m_voucherAt 20 = .ok (.iload_n 2, 1) := by decide +kernel
theorem d_m_voucherAt_21 : decode c_m_voucherAt 21 = .ok (.ireturn, 1) := by decide +kernel
theorem d_m_voucherAt_22 : decode c_m_voucherAt 22 = .ok (.iinc 2 1, 3) := by decide +kernel
theorem d_m_voucherAt_25 : decode c_m_voucherAt 25 = .ok (.goto (-23), 3) := by decide +kernel
theorem d_m_voucherAt_28 : decode c_m_voucherAt 28 = .ok (.iconst (-1), 1) := by decide +kernel
theorem d_m_voucherAt_29 : decode c_m_voucherAt 29 = .ok (.ireturn, 1) := by decide +kernel
theorem d_m_redeem_0 : decode c_m_redeem 0 = .ok (.aload_n 0, 1) := by decide +kernel
theorem d_m_redeem_1 : decode c_m_redeem 1 = .ok (.iload_n 1, 1) := by decide +kernel
theorem d_m_redeem_2 : decode c_m_redeem 2 = .ok (.invokevirtual 148, 3) := by decide +kernel
theorem d_m_redeem_5 : decode c_m_redeem 5 = .ok (.istore_n 2, 1) := by decide +kernel
theorem d_m_redeem_6 : decode c_m_redeem 6 = .ok (.aload_n 0, 1) := by decide +kernel
theorem d_m_redeem_7 : decode c_m_redeem 7 = .ok (.aload_n 0, 1) := by decide +kernel
theorem d_m_redeem_8 : decode c_m_redeem 8 = .ok (.getfield 55, 3) := by decide +kernel
theorem d_m_redeem_11 : decode c_m_redeem 11 = .ok (.iconst 1, 1) := by decide +kernel
theorem d_m_redeem_12 : decode c_m_redeem 12 = .ok (.invokevirtual 59, 3) := by decide +kernel
theorem d_m_redeem_15 : decode c_m_redeem 15 = .ok (.ifCond .ne 30, 3) := by decide +kernel
theorem d_m_redeem_18 : decode c_m_redeem 18 = .ok (.aload_n 0, 1) := by decide +kernel
theorem d_m_redeem_19 : decode c_m_redeem 19 = .ok (.iload_n 2, 1) := by decide +kernel
theorem d_m_redeem_20 : decode c_m_redeem 20 = .ok (.iconst (-1), 1) := by decide +kernel
theorem d_m_redeem_21 : decode c_m_redeem 21 = .ok (.if_icmp .ne 7, 3) := by decide +kernel
theorem d_m_redeem_24 : decode c_m_redeem 24 = .ok (.iconst 1, 1) := by decide +kernel
theorem d_m_redeem_25 : decode c_m_redeem 25 = .ok (.goto 4, 3) := by decide +kernel
theorem d_m_redeem_28 : decode c_m_redeem 28 = .ok (.iconst 0, 1) := by decide +kernel
theorem d_m_redeem_29 : decode c_m_redeem 29 = .ok (.iconst 2, 1) := by decide +kernel
theorem d_m_redeem_30 : decode c_m_redeem 30 = .ok (.invokevirtual 59, 3) := by decide +kernel
theorem d_m_redeem_33 : decode c_m_redeem 33 = .ok (.ifCond .ne 12, 3) := by decide +kernel
theorem d_m_redeem_36 : decode c_m_redeem 36 = .ok (.aload_n 0, 1) := by decide +kernel
theorem d_m_redeem_37 : decode c_m_redeem 37 = .ok (.getfield 34, 3) := by decide +kernel
theorem d_m_redeem_40 : decode c_m_redeem 40 = .ok (.iload_n 2, 1) := by decide +kernel
theorem d_m_redeem_41 : decode c_m_redeem 41 = .ok (.baload, 1) := by decide +kernel
theorem d_m_redeem_42 : decode c_m_redeem 42 = .ok (.ifCond .eq 5, 3) := by decide +kernel
theorem d_m_redeem_45 : decode c_m_redeem 45 = .ok (.iconst 0, 1) := by decide +kernel
theorem d_m_redeem_46 : decode c_m_redeem 46 = .ok (.ireturn, 1) := by decide +kernel
theorem d_m_redeem_47 : decode c_m_redeem 47 = .ok (.aload_n 0, 1) := by decide +kernel
theorem d_m_redeem_48 : decode c_m_redeem 48 = .ok (.getfield 34, 3) := by decide +kernel
theorem d_m_redeem_51 : decode c_m_redeem 51 = .ok (.iload_n 2, 1) := by decide +kernel
theorem d_m_redeem_52 : decode c_m_redeem 52 = .ok (.iconst 1, 1) := by decide +kernel
theorem d_m_redeem_53 : decode c_m_redeem 53 = .ok (.bastore, 1) := by decide +kernel
theorem d_m_redeem_54 : decode c_m_redeem 54 = .ok (.aload_n 0, 1) := by decide +kernel
theorem d_m_redeem_55 : decode c_m_redeem 55 = .ok (.getfield 31, 3) := by decide +kernel
theorem d_m_redeem_58 : decode c_m_redeem 58 = .ok (.iload_n 2, 1) := by decide +kernel
theorem d_m_redeem_59 : decode c_m_redeem 59 = .ok (.iaload, 1) := by decide +kernel
theorem d_m_redeem_60 : decode c_m_redeem 60 = .ok (.ireturn, 1) := by decide +kernel
theorem d_m_clear_0 : decode c_m_clear 0 = .ok (.aload_n 0, 1) := by decide +kernel
theorem d_m_clear_1 : decode c_m_clear 1 = .ok (.aload_n 0, 1) := by decide +kernel
theorem d_m_clear_2 : decode c_m_clear 2 = .ok (.getfield 55, 3) := by decide +kernel
theorem d_m_clear_5 : decode c_m_clear 5 = .ok (.iconst 1, 1) := by decide +kernel
theorem d_m_clear_6 : decode c_m_clear 6 = .ok (.invokevirtual 59, 3) := by decide +kernel
theorem d_m_clear_9 : decode c_m_clear 9 = .ok (.ifCond .eq 5, 3) := by decide +kernel
theorem d_m_clear_12 : decode c_m_clear 12 = .ok (.iconst 0, 1) := by decide +kernel
theorem d_m_clear_13 : decode c_m_clear 13 = .ok (.ireturn, 1) := by decide +kernel
theorem d_m_clear_14 : decode c_m_clear 14 = .ok (.iconst 0, 1) := by decide +kernel
theorem d_m_clear_15 : decode c_m_clear 15 = .ok (.istore_n 1, 1) := by decide +kernel
theorem d_m_clear_16 : decode c_m_clear 16 = .ok (.iconst 0, 1) := by decide +kernel
theorem d_m_clear_17 : decode c_m_clear 17 = .ok (.istore_n 2, 1) := by decide +kernel
theorem d_m_clear_18 : decode c_m_clear 18 = .ok (.iload_n 2, 1) := by decide +kernel
theorem d_m_clear_19 : decode c_m_clear 19 = .ok (.aload_n 0, 1) := by decide +kernel
theorem d_m_clear_20 : decode c_m_clear 20 = .ok (.getfield 94, 3) := by decide +kernel
theorem d_m_clear_23 : decode c_m_clear 23 = .ok (.if_icmp .ge 55, 3) := by decide +kernel
theorem d_m_clear_26 : decode c_m_clear 26 = .ok (.aload_n 0, 1) := by decide +kernel
theorem d_m_clear_27 : decode c_m_clear 27 = .ok (.getfield 34, 3) := by decide +kernel
theorem d_m_clear_30 : decode c_m_clear 30 = .ok (.iload_n 2, 1) := by decide +kernel
theorem d_m_clear_31 : decode c_m_clear 31 = .ok (.baload, 1) := by decide +kernel
theorem d_m_clear_32 : decode c_m_clear 32 = .ok (.ifCond .eq 6, 3) := by decide +kernel
theorem d_m_clear_35 : decode c_m_clear 35 = .ok (.goto 37, 3) := by decide +kernel
theorem d_m_clear_38 : decode c_m_clear 38 = .ok (.aload_n 0, 1) := by decide +kernel
theorem d_m_clear_39 : decode c_m_clear 39 = .ok (.getfield 28, 3) := by decide +kernel
theorem d_m_clear_42 : decode c_m_clear 42 = .ok (.iload_n 1, 1) := by decide +kernel
theorem d_m_clear_43 : decode c_m_clear 43 = .ok (.aload_n 0, 1) := by decide +kernel
theorem d_m_clear_44 : decode c_m_clear 44 = .ok (.getfield 28, 3) := by decide +kernel
theorem d_m_clear_47 : decode c_m_clear 47 = .ok (.iload_n 2, 1) := by decide +kernel
theorem d_m_clear_48 : decode c_m_clear 48 = .ok (.iaload, 1) := by decide +kernel
theorem d_m_clear_49 : decode c_m_clear 49 = .ok (.iastore, 1) := by decide +kernel
theorem d_m_clear_50 : decode c_m_clear 50 = .ok (.aload_n 0, 1) := by decide +kernel
theorem d_m_clear_51 : decode c_m_clear 51 = .ok (.getfield 31, 3) := by decide +kernel
theorem d_m_clear_54 : decode c_m_clear 54 = .ok (.iload_n 1, 1) := by decide +kernel
theorem d_m_clear_55 : decode c_m_clear 55 = .ok (.aload_n 0, 1) := by decide +kernel
theorem d_m_clear_56 : decode c_m_clear 56 = .ok (.getfield 31, 3) := by decide +kernel
theorem d_m_clear_59 : decode c_m_clear 59 = .ok (.iload_n 2, 1) := by decide +kernel
theorem d_m_clear_60 : decode c_m_clear 60 = .ok (.iaload, 1) := by decide +kernel
theorem d_m_clear_61 : decode c_m_clear 61 = .ok (.iastore, 1) := by decide +kernel
theorem d_m_clear_62 : decode c_m_clear 62 = .ok (.aload_n 0, 1) := by decide +kernel
theorem d_m_clear_63 : decode c_m_clear 63 = .ok (.getfield 34, 3) := by decide +kernel
theorem d_m_clear_66 : decode c_m_clear 66 = .ok (.iload_n 1, 1) := by decide +kernel
theorem d_m_clear_67 : decode c_m_clear 67 = .ok (.iconst 0, 1) := by decide +kernel
theorem d_m_clear_68 : decode c_m_clear 68 = .ok (.bastore, 1) := by decide +kernel
theorem d_m_clear_69 : decode c_m_clear 69 = .ok (.iinc 1 1, 3) := by decide +kernel
theorem d_m_clear_72 : decode c_m_clear 72 = .ok (.iinc 2 1, 3) := by decide +kernel
theorem d_m_clear_75 : decode c_m_clear 75 = .ok (.goto (-57), 3) := by decide +kernel
theorem d_m_clear_78 : decode c_m_clear 78 = .ok (.aload_n 0, 1) := by decide +kernel
theorem d_m_clear_79 : decode c_m_clear 79 = .ok (.getfield 94, 3) := by decide +kernel
theorem d_m_clear_82 : decode c_m_clear 82 = .ok (.iload_n 1, 1) := by decide +kernel
theorem d_m_clear_83 : decode c_m_clear 83 = .ok (.isub, 1) := by decide +kernel
theorem d_m_clear_84 : decode c_m_clear 84 = .ok (.istore_n 2, 1) := by decide +kernel
theorem d_m_clear_85 : decode c_m_clear 85 = .ok (.aload_n 0, 1) := by decide +kernel
theorem d_m_clear_86 : decode c_m_clear 86 = .ok (.iload_n 1, 1) := by decide +kernel
theorem d_m_clear_87 : decode c_m_clear 87 = .ok (.putfield 94, 3) := by decide +kernel
theorem d_m_clear_90 : decode c_m_clear 90 = .ok (.iload_n 2, 1) := by decide +kernel
theorem d_m_clear_91 : decode c_m_clear 91 = .ok (.ireturn, 1) := by decide +kernel
theorem d_m_empty_0 : decode c_m_empty 0 = .ok (.aload_n 0, 1) := by decide +kernel
theorem d_m_empty_1 : decode c_m_empty 1 = .ok (.aload_n 0, 1) := by decide +kernel
theorem d_m_empty_2 : decode c_m_empty 2 = .ok (.getfield 55, 3) := by decide +kernel
theorem d_m_empty_5 : decode c_m_empty 5 = .ok (.iconst 1, 1) := by decide +kernel
theorem d_m_empty_6 : decode c_m_empty 6 = .ok (.invokevirtual 59, 3) := by decide +kernel
theorem d_m_empty_9 : decode c_m_empty 9 = .ok (.ifCond .ne 36, 3) := by decide +kernel
theorem d_m_empty_12 : decode c_m_empty 12 = .ok (.aload_n 0, 1) := by decide +kernel
theorem d_m_empty_13 : decode c_m_empty 13 = .ok (.iload_n 1, 1) := by decide +kernel
theorem d_m_empty_14 : decode c_m_empty 14 = .ok (.iconst 0, 1) := by decide +kernel
theorem d_m_empty_15 : decode c_m_empty 15 = .ok (.iconst 2, 1) := by decide +kernel
theorem d_m_empty_16 : decode c_m_empty 16 = .ok (.invokestatic 63, 3) := by decide +kernel
theorem d_m_empty_19 : decode c_m_empty 19 = .ok (.ifCond .eq 14, 3) := by decide +kernel
theorem d_m_empty_22 : decode c_m_empty 22 = .ok (.iload_n 2, 1) := by decide +kernel
theorem d_m_empty_23 : decode c_m_empty 23 = .ok (.iconst 0, 1) := by decide +kernel
theorem d_m_empty_24 : decode c_m_empty 24 = .ok (.sipush 200, 3) := by decide +kernel
theorem d_m_empty_27 : decode c_m_empty 27 = .ok (.invokestatic 63, 3) := by decide +kernel
theorem d_m_empty_30 : decode c_m_empty 30 = .ok (.ifCond .ne 7, 3) := by decide +kernel
theorem d_m_empty_33 : decode c_m_empty 33 = .ok (.iconst 1, 1) := by decide +kernel
theorem d_m_empty_34 : decode c_m_empty 34 = .ok (.goto 4, 3) := by decide +kernel
theorem d_m_empty_37 : decode c_m_empty 37 = .ok (.iconst 0, 1) := by decide +kernel
theorem d_m_empty_38 : decode c_m_empty 38 = .ok (.iconst 2, 1) := by decide +kernel
theorem d_m_empty_39 : decode c_m_empty 39 = .ok (.invokevirtual 59, 3) := by decide +kernel
theorem d_m_empty_42 : decode c_m_empty 42 = .ok (.ifCond .eq 5, 3) := by decide +kernel
theorem d_m_empty_45 : decode c_m_empty 45 = .ok (.iconst 0, 1) := by decide +kernel
theorem d_m_empty_46 : decode c_m_empty 46 = .ok (.ireturn, 1) := by decide +kernel
theorem d_m_empty_47 : decode c_m_empty 47 = .ok (.aload_n 0, 1) := by decide +kernel
theorem d_m_empty_48 : decode c_m_empty 48 = .ok (.getfield 22, 3) := by decide +kernel
theorem d_m_empty_51 : decode c_m_empty 51 = .ok (.iload_n 1, 1) := by decide +kernel
theorem d_m_empty_52 : decode c_m_empty 52 = .ok (.iaload, 1) := by decide +kernel
theorem d_m_empty_53 : decode c_m_empty 53 = .ok (.istore_n 3, 1) := by decide +kernel
theorem d_m_empty_54 : decode c_m_empty 54 = .ok (.aload_n 0, 1) := by decide +kernel
theorem d_m_empty_55 : decode c_m_empty 55 = .ok (.getfield 22, 3) := by decide +kernel
theorem d_m_empty_58 : decode c_m_empty 58 = .ok (.iload_n 1, 1) := by decide +kernel
theorem d_m_empty_59 : decode c_m_empty 59 = .ok (.iconst 0, 1) := by decide +kernel
theorem d_m_empty_60 : decode c_m_empty 60 = .ok (.iastore, 1) := by decide +kernel
theorem d_m_empty_61 : decode c_m_empty 61 = .ok (.aload_n 0, 1) := by decide +kernel
theorem d_m_empty_62 : decode c_m_empty 62 = .ok (.getfield 25, 3) := by decide +kernel
theorem d_m_empty_65 : decode c_m_empty 65 = .ok (.iload_n 1, 1) := by decide +kernel
theorem d_m_empty_66 : decode c_m_empty 66 = .ok (.iload_n 2, 1) := by decide +kernel
theorem d_m_empty_67 : decode c_m_empty 67 = .ok (.iastore, 1) := by decide +kernel
theorem d_m_empty_68 : decode c_m_empty 68 = .ok (.iload_n 3, 1) := by decide +kernel
theorem d_m_empty_69 : decode c_m_empty 69 = .ok (.ireturn, 1) := by decide +kernel
theorem d_m_service_0 : decode c_m_service 0 = .ok (.aload_n 0, 1) := by decide +kernel
theorem d_m_service_1 : decode c_m_service 1 = .ok (.aload_n 0, 1) := by decide +kernel
theorem d_m_service_2 : decode c_m_service 2 = .ok (.getfield 55, 3) := by decide +kernel
theorem d_m_service_5 : decode c_m_service 5 = .ok (.ifCond .ne 10, 3) := by decide +kernel
theorem d_m_service_8 : decode c_m_service 8 = .ok (.aload_n 0, 1) := by decide +kernel
theorem d_m_service_9 : decode c_m_service 9 = .ok (.getfield 52, 3) := by decide +kernel
theorem d_m_service_12 : decode c_m_service 12 = .ok (.ifCond .le 7, 3) := by decide +kernel
theorem d_m_service_15 : decode c_m_service 15 = .ok (.iconst 1, 1) := by decide +kernel
theorem d_m_service_16 : decode c_m_service 16 = .ok (.goto 4, 3) := by decide +kernel
theorem d_m_service_19 : decode c_m_service 19 = .ok (.iconst 0, 1) := by decide +kernel
theorem d_m_service_20 : decode c_m_service 20 = .ok (.iconst 1, 1) := by decide +kernel
theorem d_m_service_21 : decode c_m_service 21 = .ok (.invokevirtual 59, 3) := by decide +kernel
theorem d_m_service_24 : decode c_m_service 24 = .ok (.ifCond .eq 5, 3) := by decide +kernel
theorem d_m_service_27 : decode c_m_service 27 = .ok (.iconst 0, 1) := by decide +kernel
theorem d_m_service_28 : decode c_m_service 28 = .ok (.ireturn, 1) := by decide +kernel
theorem d_m_service_29 : decode c_m_service 29 = .ok (.aload_n 0, 1) := by decide +kernel
theorem d_m_service_30 : decode c_m_service 30 = .ok (.invokevirtual 97, 3) := by decide +kernel
theorem d_m_service_33 : decode c_m_service 33 = .ok (.istore_n 1, 1) := by decide +kernel
theorem d_m_service_34 : decode c_m_service 34 = .ok (.aload_n 0, 1) := by decide +kernel
theorem d_m_service_35 : decode c_m_service 35 = .ok (.iconst 0, 1) := by decide +kernel
theorem d_m_service_36 : decode c_m_service 36 = .ok (.putfield 91, 3) := by decide +kernel
theorem d_m_service_39 : decode c_m_service 39 = .ok (.iload_n 1, 1) := by decide +kernel
theorem d_m_service_40 : decode c_m_service 40 = .ok (.ireturn, 1) := by decide +kernel
theorem d_m_cut_0 : decode c_m_cut 0 = .ok (.aload_n 0, 1) := by decide +kernel
theorem d_m_cut_1 : decode c_m_cut 1 = .ok (.iload_n 1, 1) := by decide +kernel
theorem d_m_cut_2 : decode c_m_cut 2 = .ok (.iconst 0, 1) := by decide +kernel
theorem d_m_cut_3 : decode c_m_cut 3 = .ok (.sipush 1000, 3) := by decide +kernel
theorem d_m_cut_6 : decode c_m_cut 6 = .ok (.invokestatic 63, 3) := by decide +kernel
theorem d_m_cut_9 : decode c_m_cut 9 = .ok (.ifCond .ne 7, 3) := by decide +kernel
theorem d_m_cut_12 : decode c_m_cut 12 = .ok (.iconst 1, 1) := by decide +kernel
theorem d_m_cut_13 : decode c_m_cut 13 = .ok (.goto 4, 3) := by decide +kernel
theorem d_m_cut_16 : decode c_m_cut 16 = .ok (.iconst 0, 1) := by decide +kernel
theorem d_m_cut_17 : decode c_m_cut 17 = .ok (.iconst 1, 1) := by decide +kernel
theorem d_m_cut_18 : decode c_m_cut 18 = .ok (.invokevirtual 59, 3) := by decide +kernel
theorem d_m_cut_21 : decode c_m_cut 21 = .ok (.ifCond .eq 4, 3) := by decide +kernel
theorem d_m_cut_24 : decode c_m_cut 24 = .ok (.return_, 1) := by decide +kernel
theorem d_m_cut_25 : decode c_m_cut 25 = .ok (.aload_n 0, 1) := by decide +kernel
theorem d_m_cut_26 : decode c_m_cut 26 = .ok (.iload_n 1, 1) := by decide +kernel
theorem d_m_cut_27 : decode c_m_cut 27 = .ok (.putfield 85, 3) := by decide +kernel
theorem d_m_cut_30 : decode c_m_cut 30 = .ok (.return_, 1) := by decide +kernel
theorem d_m_power_0 : decode c_m_power 0 = .ok (.aload_n 0, 1) := by decide +kernel
theorem d_m_power_1 : decode c_m_power 1 = .ok (.iconst 0, 1) := by decide +kernel
theorem d_m_power_2 : decode c_m_power 2 = .ok (.putfield 44, 3) := by decide +kernel
theorem d_m_power_5 : decode c_m_power 5 = .ok (.aload_n 0, 1) := by decide +kernel
theorem d_m_power_6 : decode c_m_power 6 = .ok (.getfield 55, 3) := by decide +kernel
theorem d_m_power_9 : decode c_m_power 9 = .ok (.ifCond .ne 5, 3) := by decide +kernel
theorem d_m_power_12 : decode c_m_power 12 = .ok (.iconst (-1), 1) := by decide +kernel
theorem d_m_power_13 : decode c_m_power 13 = .ok (.ireturn, 1) := by decide +kernel
theorem d_m_power_14 : decode c_m_power 14 = .ok (.aload_n 0, 1) := by decide +kernel
theorem d_m_power_15 : decode c_m_power 15 = .ok (.iconst 0, 1) := by decide +kernel
theorem d_m_power_16 : decode c_m_power 16 = .ok (.putfield 55, 3) := by decide +kernel
theorem d_m_power_19 : decode c_m_power 19 = .ok (.aload_n 0, 1) := by decide +kernel
theorem d_m_power_20 : decode c_m_power 20 = .ok (.getfield 88, 3) := by decide +kernel
theorem d_m_power_23 : decode c_m_power 23 = .ok (.istore_n 1, 1) := by decide +kernel
theorem d_m_power_24 : decode c_m_power 24 = .ok (.iconst 0, 1) := by decide +kernel
theorem d_m_power_25 : decode c_m_power 25 = .ok (.istore_n 2, 1) := by decide +kernel
theorem d_m_power_26 : decode c_m_power 26 = .ok (.iload_n 2, 1) := by decide +kernel
theorem d_m_power_27 : decode c_m_power 27 = .ok (.aload_n 0, 1) := by decide +kernel
theorem d_m_power_28 : decode c_m_power 28 = .ok (.getfield 52, 3) := by decide +kernel
theorem d_m_power_31 : decode c_m_power 31 = .ok (.if_icmp .ge 25, 3) := by decide +kernel
theorem d_m_power_34 : decode c_m_power 34 = .ok (.aload_n 0, 1) := by decide +kernel
theorem d_m_power_35 : decode c_m_power 35 = .ok (.iload_n 2, 1) := by decide +kernel
theorem d_m_power_36 : decode c_m_power 36 = .ok (.iconst 2, 1) := by decide +kernel
theorem d_m_power_37 : decode c_m_power 37 = .ok (.invokevirtual 48, 3) := by decide +kernel
theorem d_m_power_40 : decode c_m_power 40 = .ok (.bipush 105, 2) := by decide +kernel
theorem d_m_power_42 : decode c_m_power 42 = .ok (.if_icmp .ge 8, 3) := by decide +kernel
theorem d_m_power_45 : decode c_m_power 45 = .ok (.aload_n 0, 1) := by decide +kernel
theorem d_m_power_46 : decode c_m_power 46 = .ok (.iload_n 2, 1) := by decide +kernel
theorem d_m_power_47 : decode c_m_power 47 = .ok (.invokevirtual 136, 3) := by decide +kernel
theorem d_m_power_50 : decode c_m_power 50 = .ok (.iinc 2 1, 3) := by decide +kernel
theorem d_m_power_53 : decode c_m_power 53 = .ok (.goto (-27), 3) := by decide +kernel
theorem d_m_power_56 : decode c_m_power 56 = .ok (.iconst 0, 1) := by decide +kernel
theorem d_m_power_57 : decode c_m_power 57 = .ok (.istore_n 2, 1) := by decide +kernel
theorem d_m_power_58 : decode c_m_power 58 = .ok (.iload_n 2, 1) := by decide +kernel
theorem d_m_power_59 : decode c_m_power 59 = .ok (.aload_n 0, 1) := by decide +kernel
theorem d_m_power_60 : decode c_m_power 60 = .ok (.getfield 52, 3) := by decide +kernel
theorem d_m_power_63 : decode c_m_power 63 = .ok (.if_icmp .ge 41, 3) := by decide +kernel
theorem d_m_power_66 : decode c_m_power 66 = .ok (.aload_n 0, 1) := by decide +kernel
theorem d_m_power_67 : decode c_m_power 67 = .ok (.getfield 55, 3) := by decide +kernel
theorem d_m_power_70 : decode c_m_power 70 = .ok (.ifCond .ne 34, 3) := by decide +kernel
theorem d_m_power_73 : decode c_m_power 73 = .ok (.aload_n 0, 1) := by decide +kernel
theorem d_m_power_74 : decode c_m_power 74 = .ok (.iload_n 2, 1) := by decide +kernel
theorem d_m_power_75 : decode c_m_power 75 = .ok (.iconst 2, 1) := by decide +kernel
theorem d_m_power_76 : decode c_m_power 76 = .ok (.invokevirtual 48, 3) := by decide +kernel
theorem d_m_power_79 : decode c_m_power 79 = .ok (.bipush 105, 2) := by decide +kernel
theorem d_m_power_81 : decode c_m_power 81 = .ok (.if_icmp .lt 17, 3) := by decide +kernel
theorem d_m_power_84 : decode c_m_power 84 = .ok (.aload_n 0, 1) := by decide +kernel
theorem d_m_power_85 : decode c_m_power 85 = .ok (.iload_n 2, 1) := by decide +kernel
theorem d_m_power_86 : decode c_m_power 86 = .ok (.iconst 5, 1) := by decide +kernel
theorem d_m_power_87 : decode c_m_power 87 = .ok (.invokevirtual 48, 3) := by decide +kernel
theorem d_m_power_90 : decode c_m_power 90 = .ok (.ifCond .ne 8, 3) := by decide +kernel
theorem d_m_power_93 : decode c_m_power 93 = .ok (.aload_n 0, 1) := by decide +kernel
theorem d_m_power_94 : decode c_m_power 94 = .ok (.iload_n 2, 1) := by decide +kernel
theorem d_m_power_95 : decode c_m_power 95 = .ok (.invokevirtual 129, 3) := by decide +kernel
theorem d_m_power_98 : decode c_m_power 98 = .ok (.iinc 2 1, 3) := by decide +kernel
theorem d_m_power_101 : decode c_m_power 101 = .ok (.goto (-43), 3) := by decide +kernel
theorem d_m_power_104 : decode c_m_power 104 = .ok (.iconst 0, 1) := by decide +kernel
theorem d_m_power_105 : decode c_m_power 105 = .ok (.istore_n 2, 1) := by decide +kernel
theorem d_m_power_106 : decode c_m_power 106 = .ok (.iload_n 2, 1) := by decide +kernel
theorem d_m_power_107 : decode c_m_power 107 = .ok (.aload_n 0, 1) := by decide +kernel
theorem d_m_power_108 : decode c_m_power 108 = .ok (.getfield 52, 3) := by decide +kernel
theorem d_m_power_111 : decode c_m_power 111 = .ok (.if_icmp .ge 49, 3) := by decide +kernel
theorem d_m_power_114 : decode c_m_power 114 = .ok (.aload_n 0, 1) := by decide +kernel
theorem d_m_power_115 : decode c_m_power 115 = .ok (.getfield 55, 3) := by decide +kernel
theorem d_m_power_118 : decode c_m_power 118 = .ok (.ifCond .ne 42, 3) := by decide +kernel
theorem d_m_power_121 : decode c_m_power 121 = .ok (.aload_n 0, 1) := by decide +kernel
theorem d_m_power_122 : decode c_m_power 122 = .ok (.iload_n 2, 1) := by decide +kernel
theorem d_m_power_123 : decode c_m_power 123 = .ok (.invokevirtual 72, 3) := by decide +kernel
theorem d_m_power_126 : decode c_m_power 126 = .ok (.bipush 110, 2) := by decide +kernel
theorem d_m_power_128 : decode c_m_power 128 = .ok (.if_icmp .lt 15, 3) := by decide +kernel
theorem d_m_power_131 : decode c_m_power 131 = .ok (.aload_n 0, 1) := by decide +kernel
theorem d_m_power_132 : decode c_m_power 132 = .ok (.iload_n 2, 1) := by decide +kernel
theorem d_m_power_133 : decode c_m_power 133 = .ok (.invokevirtual 132, 3) := by decide +kernel
theorem d_m_power_136 : decode c_m_power 136 = .ok (.ifCond .eq 7, 3) := by decide +kernel
theorem d_m_power_139 : decode c_m_power 139 = .ok (.iconst 1, 1) := by decide +kernel
theorem d_m_power_140 : decode c_m_power 140 = .ok (.goto 4, 3) := by decide +kernel
theorem d_m_power_143 : decode c_m_power 143 = .ok (.iconst 0, 1) := by decide +kernel
theorem d_m_power_144 : decode c_m_power 144 = .ok (.istore_n 3, 1) := by decide +kernel
theorem d_m_power_145 : decode c_m_power 145 = .ok (.iload_n 2, 1) := by decide +kernel
theorem d_m_power_146 : decode c_m_power 146 = .ok (.iload_n 3, 1) := by decide +kernel
theorem d_m_power_147 : decode c_m_power 147 = .ok (.ifCond .eq 7, 3) := by decide +kernel
theorem d_m_power_150 : decode c_m_power 150 = .ok (.iconst 0, 1) := by decide +kernel
theorem d_m_power_151 : decode c_m_power 151 = .ok (.goto 4, 3) := by decide +kernel
theorem d_m_power_154 : decode c_m_power 154 = .ok (.iconst 1, 1) := by decide +kernel
theorem d_m_power_155 : decode c_m_power 155 = .ok (.iadd, 1) := by decide +kernel
theorem d_m_power_156 : decode c_m_power 156 = .ok (.istore_n 2, 1) := by decide +kernel
theorem d_m_power_157 : decode c_m_power 157 = .ok (.goto (-51), 3) := by decide +kernel
theorem d_m_power_160 : decode c_m_power 160 = .ok (.aload_n 0, 1) := by decide +kernel
theorem d_m_power_161 : decode c_m_power 161 = .ok (.getfield 88, 3) := by decide +kernel
theorem d_m_power_164 : decode c_m_power 164 = .ok (.iload_n 1, 1) := by decide +kernel
theorem d_m_power_165 : decode c_m_power 165 = .ok (.isub, 1) := by decide +kernel
theorem d_m_power_166 : decode c_m_power 166 = .ok (.ireturn, 1) := by decide +kernel
theorem d_m_rest_0 : decode c_m_rest 0 = .ok (.iload_n 2, 1) := by decide +kernel
theorem d_m_rest_1 : decode c_m_rest 1 = .ok (.istore_n 3, 1) := by decide +kernel
theorem d_m_rest_2 : decode c_m_rest 2 = .ok (.iconst 1, 1) := by decide +kernel
theorem d_m_rest_3 : decode c_m_rest 3 = .ok (.istore 4, 2) := by decide +kernel
theorem d_m_rest_5 : decode c_m_rest 5 = .ok (.iconst 1, 1) := by decide +kernel
theorem d_m_rest_6 : decode c_m_rest 6 = .ok (.istore 5, 2) := by decide +kernel
theorem d_m_rest_8 : decode c_m_rest 8 = .ok (.iload 5, 2) := by decide +kernel
theorem d_m_rest_10 : decode c_m_rest 10 = .ok (.iload_n 1, 1) := by decide +kernel
theorem d_m_rest_11 : decode c_m_rest 11 = .ok (.if_icmp .ge 16, 3) := by decide +kernel
theorem d_m_rest_14 : decode c_m_rest 14 = .ok (.bipush 10, 2) := by decide +kernel
theorem d_m_rest_16 : decode c_m_rest 16 = .ok (.iload 4, 2) := by decide +kernel
theorem d_m_rest_18 : decode c_m_rest 18 = .ok (.imul, 1) := by decide +kernel
theorem d_m_rest_19 : decode c_m_rest 19 = .ok (.istore 4, 2) := by decide +kernel
theorem d_m_rest_21 : decode c_m_rest 21 = .ok (.iinc 5 1, 3) := by decide +kernel
theorem d_m_rest_24 : decode c_m_rest 24 = .ok (.goto (-16), 3) := by decide +kernel
theorem d_m_rest_27 : decode c_m_rest 27 = .ok (.iload 4, 2) := by decide +kernel
theorem d_m_rest_29 : decode c_m_rest 29 = .ok (.ifCond .le 29, 3) := by decide +kernel
theorem d_m_rest_32 : decode c_m_rest 32 = .ok (.bipush 10, 2) := by decide +kernel
theorem d_m_rest_34 : decode c_m_rest 34 = .ok (.iload_n 3, 1) := by decide +kernel
theorem d_m_rest_35 : decode c_m_rest 35 = .ok (.imul, 1) := by decide +kernel
theorem d_m_rest_36 : decode c_m_rest 36 = .ok (.iload_n 0, 1) := by decide +kernel
theorem d_m_rest_37 : decode c_m_rest 37 = .ok (.iload 4, 2) := by decide +kernel
theorem d_m_rest_39 : decode c_m_rest 39 = .ok (.idiv, 1) := by decide +kernel
theorem d_m_rest_40 : decode c_m_rest 40 = .ok (.bipush 10, 2) := by decide +kernel
theorem d_m_rest_42 : decode c_m_rest 42 = .ok (.irem, 1) := by decide +kernel
theorem d_m_rest_43 : decode c_m_rest 43 = .ok (.iadd, 1) := by decide +kernel
theorem d_m_rest_44 : decode c_m_rest 44 = .ok (.bipush 97, 2) := by decide +kernel
theorem d_m_rest_46 : decode c_m_rest 46 = .ok (.irem, 1) := by decide +kernel
theorem d_m_rest_47 : decode c_m_rest 47 = .ok (.istore_n 3, 1) := by decide +kernel
theorem d_m_rest_48 : decode c_m_rest 48 = .ok (.iload 4, 2) := by decide +kernel
theorem d_m_rest_50 : decode c_m_rest 50 = .ok (.bipush 10, 2) := by decide +kernel
theorem d_m_rest_52 : decode c_m_rest 52 = .ok (.idiv, 1) := by decide +kernel
theorem d_m_rest_53 : decode c_m_rest 53 = .ok (.istore 4, 2) := by decide +kernel
theorem d_m_rest_55 : decode c_m_rest 55 = .ok (.goto (-28), 3) := by decide +kernel
theorem d_m_rest_58 : decode c_m_rest 58 = .ok (.iload_n 3, 1) := by decide +kernel
theorem d_m_rest_59 : decode c_m_rest 59 = .ok (.ireturn, 1) := by decide +kernel
theorem d_m_endOf_0 : decode c_m_endOf 0 = .ok (.bipush 98, 2) := by decide +kernel
theorem d_m_endOf_2 : decode c_m_endOf 2 = .ok (.sipush 3700, 3) := by decide +kernel
theorem d_m_endOf_5 : decode c_m_endOf 5 = .ok (.iconst 4, 1) := by decide +kernel
theorem d_m_endOf_6 : decode c_m_endOf 6 = .ok (.aload_n 0, 1) := by decide +kernel
theorem d_m_endOf_7 : decode c_m_endOf 7 = .ok (.getfield 31, 3) := by decide +kernel
theorem d_m_endOf_10 : decode c_m_endOf 10 = .ok (.iload_n 1, 1) := by decide +kernel
theorem d_m_endOf_11 : decode c_m_endOf 11 = .ok (.iaload, 1) := by decide +kernel
theorem d_m_endOf_12 : decode c_m_endOf 12 = .ok (.bipush 6, 2) := by decide +kernel
theorem d_m_endOf_14 : decode c_m_endOf 14 = .ok (.aload_n 0, 1) := by decide +kernel
theorem d_m_endOf_15 : decode c_m_endOf 15 = .ok (.getfield 28, 3) := by decide +kernel
theorem d_m_endOf_18 : decode c_m_endOf 18 = .ok (.iload_n 1, 1) := by decide +kernel
theorem d_m_endOf_19 : decode c_m_endOf 19 = .ok (.iaload, 1) := by decide +kernel
theorem d_m_endOf_20 : decode c_m_endOf 20 = .ok (.bipush 6, 2) := by decide +kernel
theorem d_m_endOf_22 : decode c_m_endOf 22 = .ok (.iconst 0, 1) := by decide +kernel
theorem d_m_endOf_23 : decode c_m_endOf 23 = .ok (.invokestatic 151, 3) := by decide +kernel
theorem d_m_endOf_26 : decode c_m_endOf 26 = .ok (.invokestatic 151, 3) := by decide +kernel
theorem d_m_endOf_29 : decode c_m_endOf 29 = .ok (.invokestatic 151, 3) := by decide +kernel
theorem d_m_endOf_32 : decode c_m_endOf 32 = .ok (.isub, 1) := by decide +kernel
theorem d_m_endOf_33 : decode c_m_endOf 33 = .ok (.ireturn, 1) := by decide +kernel
theorem d_m_check_0 : decode c_m_check 0 = .ok (.aload_n 0, 1) := by decide +kernel
theorem d_m_check_1 : decode c_m_check 1 = .ok (.iload_n 1, 1) := by decide +kernel
theorem d_m_check_2 : decode c_m_check 2 = .ok (.iconst 0, 1) := by decide +kernel
theorem d_m_check_3 : decode c_m_check 3 = .ok (.ldc 155, 2) := by decide +kernel
theorem d_m_check_5 : decode c_m_check 5 = .ok (.invokestatic 63, 3) := by decide +kernel
theorem d_m_check_8 : decode c_m_check 8 = .ok (.ifCond .eq 13, 3) := by decide +kernel
theorem d_m_check_11 : decode c_m_check 11 = .ok (.iload_n 2, 1) := by decide +kernel
theorem d_m_check_12 : decode c_m_check 12 = .ok (.iconst 0, 1) := by decide +kernel
theorem d_m_check_13 : decode c_m_check 13 = .ok (.ldc 155, 2) := by decide +kernel
theorem d_m_check_15 : decode c_m_check 15 = .ok (.invokestatic 63, 3) := by decide +kernel
theorem d_m_check_18 : decode c_m_check 18 = .ok (.ifCond .ne 7, 3) := by decide +kernel
theorem d_m_check_21 : decode c_m_check 21 = .ok (.iconst 1, 1) := by decide +kernel
theorem d_m_check_22 : decode c_m_check 22 = .ok (.goto 4, 3) := by decide +kernel
theorem d_m_check_25 : decode c_m_check 25 = .ok (.iconst 0, 1) := by decide +kernel
theorem d_m_check_26 : decode c_m_check 26 = .ok (.iconst 1, 1) := by decide +kernel
theorem d_m_check_27 : decode c_m_check 27 = .ok (.invokevirtual 59, 3) := by decide +kernel
theorem d_m_check_30 : decode c_m_check 30 = .ok (.ifCond .eq 5, 3) := by decide +kernel
theorem d_m_check_33 : decode c_m_check 33 = .ok (.iconst 0, 1) := by decide +kernel
theorem d_m_check_34 : decode c_m_check 34 = .ok (.ireturn, 1) := by decide +kernel
theorem d_m_check_35 : decode c_m_check 35 = .ok (.iload_n 2, 1) := by decide +kernel
theorem d_m_check_36 : decode c_m_check 36 = .ok (.bipush 100, 2) := by decide +kernel
theorem d_m_check_38 : decode c_m_check 38 = .ok (.idiv, 1) := by decide +kernel
theorem d_m_check_39 : decode c_m_check 39 = .ok (.bipush 100, 2) := by decide +kernel
theorem d_m_check_41 : decode c_m_check 41 = .ok (.irem, 1) := by decide +kernel
theorem d_m_check_42 : decode c_m_check 42 = .ok (.bipush 37, 2) := by decide +kernel
theorem d_m_check_44 : decode c_m_check 44 = .ok (.if_icmp .ne 24, 3) := by decide +kernel
theorem d_m_check_47 : decode c_m_check 47 = .ok (.iload_n 2, 1) := by decide +kernel
theorem d_m_check_48 : decode c_m_check 48 = .ok (.bipush 8, 2) := by decide +kernel
theorem d_m_check_50 : decode c_m_check 50 = .ok (.iload_n 1, 1) := by decide +kernel
theorem d_m_check_51 : decode c_m_check 51 = .ok (.bipush 8, 2) := by decide +kernel
theorem d_m_check_53 : decode c_m_check 53 = .ok (.iconst 0, 1) := by decide +kernel
theorem d_m_check_54 : decode c_m_check 54 = .ok (.invokestatic 151, 3) := by decide +kernel
theorem d_m_check_57 : decode c_m_check 57 = .ok (.invokestatic 151, 3) := by decide +kernel
theorem d_m_check_60 : decode c_m_check 60 = .ok (.iconst 1, 1) := by decide +kernel
theorem d_m_check_61 : decode c_m_check 61 = .ok (.if_icmp .ne 7, 3) := by decide +kernel
theorem d_m_check_64 : decode c_m_check 64 = .ok (.iconst 1, 1) := by decide +kernel
theorem d_m_check_65 : decode c_m_check 65 = .ok (.goto 4, 3) := by decide +kernel
theorem d_m_check_68 : decode c_m_check 68 = .ok (.iconst 0, 1) := by decide +kernel
theorem d_m_check_69 : decode c_m_check 69 = .ok (.ireturn, 1) := by decide +kernel
