/-! decode rows -/
theorem d_m_about_0 : decode c_m_about 0 = .ok (.aload_n 0, 1) := by decide +kernel
theorem d_m_about_1 : decode c_m_about 1 = .ok (.iload_n 1, 1) := by decide +kernel
theorem d_m_about_2 : decode c_m_about 2 = .ok (.invokevirtual 148, 3) := by decide +kernel
theorem d_m_about_5 : decode c_m_about 5 = .ok (.istore_n 3, 1) := by decide +kernel
theorem d_m_about_6 : decode c_m_about 6 = .ok (.aload_n 0, 1) := by decide +kernel
theorem d_m_about_7 : decode c_m_about 7 = .ok (.iload_n 3, 1) := by decide +kernel
theorem d_m_about_8 : decode c_m_about 8 = .ok (.iconst (-1), 1) := by decide +kernel
theorem d_m_about_9 : decode c_m_about 9 = .ok (.if_icmp .eq 12, 3) := by decide +kernel
theorem d_m_about_12 : decode c_m_about 12 = .ok (.iload_n 2, 1) := by decide +kernel
theorem d_m_about_13 : decode c_m_about 13 = .ok (.iconst 0, 1) := by decide +kernel
theorem d_m_about_14 : decode c_m_about 14 = .ok (.iconst 3, 1) := by decide +kernel
theorem d_m_about_15 : decode c_m_about 15 = .ok (.invokestatic 63, 3) := by decide +kernel
theorem d_m_about_18 : decode c_m_about 18 = .ok (.ifCond .ne 7, 3) := by decide +kernel
theorem d_m_about_21 : decode c_m_about 21 = .ok (.iconst 1, 1) := by decide +kernel
theorem d_m_about_22 : decode c_m_about 22 = .ok (.goto 4, 3) := by decide +kernel
theorem d_m_about_25 : decode c_m_about 25 = .ok (.iconst 0, 1) := by decide +kernel
theorem d_m_about_26 : decode c_m_about 26 = .ok (.iconst 1, 1) := by decide +kernel
theorem d_m_about_27 : decode c_m_about 27 = .ok (.invokevirtual 59, 3) := by decide +kernel
theorem d_m_about_30 : decode c_m_about 30 = .ok (.ifCond .eq 5, 3) := by decide +kernel
theorem d_m_about_33 : decode c_m_about 33 = .ok (.iconst 0, 1) := by decide +kernel
theorem d_m_about_34 : decode c_m_about 34 = .ok (.ireturn, 1) := by decide +kernel
theorem d_m_about_35 : decode c_m_about 35 = .ok (.iload_n 2, 1) := by decide +kernel
theorem d_m_about_36 : decode c_m_about 36 = .ok (.tableswitch 81 0 2 #[28, 35, 56], 28) := by decide +kernel
theorem d_m_about_64 : decode c_m_about 64 = .ok (.aload_n 0, 1) := by decide +kernel
theorem d_m_about_65 : decode c_m_about 65 = .ok (.getfield 31, 3) := by decide +kernel
theorem d_m_about_68 : decode c_m_about 68 = .ok (.iload_n 3, 1) := by decide +kernel
theorem d_m_about_69 : decode c_m_about 69 = .ok (.iaload, 1) := by decide +kernel
theorem d_m_about_70 : decode c_m_about 70 = .ok (.ireturn, 1) := by decide +kernel
theorem d_m_about_71 : decode c_m_about 71 = .ok (.bipush 100, 2) := by decide +kernel
theorem d_m_about_73 : decode c_m_about 73 = .ok (.aload_n 0, 1) := by decide +kernel
theorem d_m_about_74 : decode c_m_about 74 = .ok (.getfield 28, 3) := by decide +kernel
theorem d_m_about_77 : decode c_m_about 77 = .ok (.iload_n 3, 1) := by decide +kernel
theorem d_m_about_78 : decode c_m_about 78 = .ok (.iaload, 1) := by decide +kernel
theorem d_m_about_79 : decode c_m_about 79 = .ok (.imul, 1) := by decide +kernel
theorem d_m_about_80 : decode c_m_about 80 = .ok (.aload_n 0, 1) := by decide +kernel
theorem d_m_about_81 : decode c_m_about 81 = .ok (.getfield 31, 3) := by decide +kernel
theorem d_m_about_84 : decode c_m_about 84 = .ok (.iload_n 3, 1) := by decide +kernel
theorem d_m_about_85 : decode c_m_about 85 = .ok (.iaload, 1) := by decide +kernel
theorem d_m_about_86 : decode c_m_about 86 = .ok (.sipush 10000, 3) := by decide +kernel
theorem d_m_about_89 : decode c_m_about 89 = .ok (.idiv, 1) := by decide +kernel
theorem d_m_about_90 : decode c_m_about 90 = .ok (.iadd, 1) := by decide +kernel
theorem d_m_about_91 : decode c_m_about 91 = .ok (.ireturn, 1) := by decide +kernel
theorem d_m_about_92 : decode c_m_about 92 = .ok (.aload_n 0, 1) := by decide +kernel
theorem d_m_about_93 : decode c_m_about 93 = .ok (.getfield 31, 3) := by decide +kernel
theorem d_m_about_96 : decode c_m_about 96 = .ok (.iload_n 3, 1) := by decide +kernel
theorem d_m_about_97 : decode c_m_about 97 = .ok (.iaload, 1) := by decide +kernel
theorem d_m_about_98 : decode c_m_about 98 = .ok (.sipush 10000, 3) := by decide +kernel
theorem d_m_about_101 : decode c_m_about 101 = .ok (.irem, 1) := by decide +kernel
theorem d_m_about_102 : decode c_m_about 102 = .ok (.sipush 10000, 3) := by decide +kernel
theorem d_m_about_105 : decode c_m_about 105 = .ok (.imul, 1) := by decide +kernel
theorem d_m_about_106 : decode c_m_about 106 = .ok (.sipush 3700, 3) := by decide +kernel
theorem d_m_about_109 : decode c_m_about 109 = .ok (.iadd, 1) := by decide +kernel
theorem d_m_about_110 : decode c_m_about 110 = .ok (.aload_n 0, 1) := by decide +kernel
theorem d_m_about_111 : decode c_m_about 111 = .ok (.iload_n 3, 1) := by decide +kernel
theorem d_m_about_112 : decode c_m_about 112 = .ok (.invokevirtual 156, 3) := by decide +kernel
theorem d_m_about_115 : decode c_m_about 115 = .ok (.iadd, 1) := by decide +kernel
theorem d_m_about_116 : decode c_m_about 116 = .ok (.ireturn, 1) := by decide +kernel
theorem d_m_about_117 : decode c_m_about 117 = .ok (.aload_n 0, 1) := by decide +kernel
theorem d_m_about_118 : decode c_m_about 118 = .ok (.getfield 34, 3) := by decide +kernel
theorem d_m_about_121 : decode c_m_about 121 = .ok (.iload_n 3, 1) := by decide +kernel
theorem d_m_about_122 : decode c_m_about 122 = .ok (.baload, 1) := by decide +kernel
theorem d_m_about_123 : decode c_m_about 123 = .ok (.ifCond .eq 7, 3) := by decide +kernel
theorem d_m_about_126 : decode c_m_about 126 = .ok (.iconst 1, 1) := by decide +kernel
theorem d_m_about_127 : decode c_m_about 127 = .ok (.goto 4, 3) := by decide +kernel
theorem d_m_about_130 : decode c_m_about 130 = .ok (.iconst 0, 1) := by decide +kernel
theorem d_m_about_131 : decode c_m_about 131 = .ok (.ireturn, 1) := by decide +kernel
theorem d_m_container_0 : decode c_m_container 0 = .ok (.aload_n 0, 1) := by decide +kernel
theorem d_m_container_1 : decode c_m_container 1 = .ok (.iload_n 1, 1) := by decide +kernel
theorem d_m_container_2 : decode c_m_container 2 = .ok (.invokevirtual 159, 3) := by decide +kernel
theorem d_m_container_5 : decode c_m_container 5 = .ok (.istore_n 3, 1) := by decide +kernel
theorem d_m_container_6 : decode c_m_container 6 = .ok (.aload_n 0, 1) := by decide +kernel
theorem d_m_container_7 : decode c_m_container 7 = .ok (.iload_n 3, 1) := by decide +kernel
theorem d_m_container_8 : decode c_m_container 8 = .ok (.iconst (-1), 1) := by decide +kernel
theorem d_m_container_9 : decode c_m_container 9 = .ok (.if_icmp .eq 13, 3) := by decide +kernel
theorem d_m_container_12 : decode c_m_container 12 = .ok (.iload_n 2, 1) := by decide +kernel
theorem d_m_container_13 : decode c_m_container 13 = .ok (.iconst 0, 1) := by decide +kernel
theorem d_m_container_14 : decode c_m_container 14 = .ok (.bipush 6, 2) := by decide +kernel
theorem d_m_container_16 : decode c_m_container 16 = .ok (.invokestatic 63, 3) := by decide +kernel
theorem d_m_container_19 : decode c_m_container 19 = .ok (.ifCond .ne 7, 3) := by decide +kernel
theorem d_m_container_22 : decode c_m_container 22 = .ok (.iconst 1, 1) := by decide +kernel
theorem d_m_container_23 : decode c_m_container 23 = .ok (.goto 4, 3) := by decide +kernel
theorem d_m_container_26 : decode c_m_container 26 = .ok (.iconst 0, 1) := by decide +kernel
theorem d_m_container_27 : decode c_m_container 27 = .ok (.iconst 1, 1) := by decide +kernel
theorem d_m_container_28 : decode c_m_container 28 = .ok (.invokevirtual 59, 3) := by decide +kernel
theorem d_m_container_31 : decode c_m_container 31 = .ok (.ifCond .eq 5, 3) := by decide +kernel
theorem d_m_container_34 : decode c_m_container 34 = .ok (.iconst 0, 1) := by decide +kernel
theorem d_m_container_35 : decode c_m_container 35 = .ok (.ireturn, 1) := by decide +kernel
theorem d_m_container_36 : decode c_m_container 36 = .ok (.iload_n 2, 1) := by decide +kernel
theorem d_m_container_37 : decode c_m_container 37 = .ok (.tableswitch 82 0 5 #[39, 46, 53, 60, 67, 74], 39) := by decide +kernel
theorem d_m_container_76 : decode c_m_container 76 = .ok (.aload_n 0, 1) := by decide +kernel
theorem d_m_container_77 : decode c_m_container 77 = .ok (.iload_n 3, 1) := by decide +kernel
theorem d_m_container_78 : decode c_m_container 78 = .ok (.iconst 2, 1) := by decide +kernel
theorem d_m_container_79 : decode c_m_container 79 = .ok (.invokevirtual 48, 3) := by decide +kernel
theorem d_m_container_82 : decode c_m_container 82 = .ok (.ireturn, 1) := by decide +kernel
theorem d_m_container_83 : decode c_m_container 83 = .ok (.aload_n 0, 1) := by decide +kernel
theorem d_m_container_84 : decode c_m_container 84 = .ok (.iload_n 3, 1) := by decide +kernel
theorem d_m_container_85 : decode c_m_container 85 = .ok (.iconst 1, 1) := by decide +kernel
theorem d_m_container_86 : decode c_m_container 86 = .ok (.invokevirtual 48, 3) := by decide +kernel
theorem d_m_container_89 : decode c_m_container 89 = .ok (.ireturn, 1) := by decide +kernel
theorem d_m_container_90 : decode c_m_container 90 = .ok (.aload_n 0, 1) := by decide +kernel
theorem d_m_container_91 : decode c_m_container 91 = .ok (.iload_n 3, 1) := by decide +kernel
theorem d_m_container_92 : decode c_m_container 92 = .ok (.iconst 3, 1) := by decide +kernel
theorem d_m_container_93 : decode c_m_container 93 = .ok (.invokevirtual 48, 3) := by decide +kernel
theorem d_m_container_96 : decode c_m_container 96 = .ok (.ireturn, 1) := by decide +kernel
theorem d_m_container_97 : decode c_m_container 97 = .ok (.aload_n 0, 1) := by decide +kernel
theorem d_m_container_98 : decode c_m_container 98 = .ok (.iload_n 3, 1) := by decide +kernel
theorem d_m_container_99 : decode c_m_container 99 = .ok (.iconst 4, 1) := by decide +kernel
theorem d_m_container_100 : decode c_m_container 100 = .ok (.invokevirtual 48, 3) := by decide +kernel
theorem d_m_container_103 : decode c_m_container 103 = .ok (.ireturn, 1) := by decide +kernel
theorem d_m_container_104 : decode c_m_container 104 = .ok (.aload_n 0, 1) := by decide +kernel
theorem d_m_container_105 : decode c_m_container 105 = .ok (.iload_n 3, 1) := by decide +kernel
theorem d_m_container_106 : decode c_m_container 106 = .ok (.iconst 5, 1) := by decide +kernel
theorem d_m_container_107 : decode c_m_container 107 = .ok (.invokevirtual 48, 3) := by decide +kernel
theorem d_m_container_110 : decode c_m_container 110 = .ok (.ireturn, 1) := by decide +kernel
theorem d_m_container_111 : decode c_m_container 111 = .ok (.aload_n 0, 1) := by decide +kernel
theorem d_m_container_112 : decode c_m_container 112 = .ok (.iload_n 3, 1) := by decide +kernel
theorem d_m_container_113 : decode c_m_container 113 = .ok (.bipush 7, 2) := by decide +kernel
theorem d_m_container_115 : decode c_m_container 115 = .ok (.invokevirtual 48, 3) := by decide +kernel
theorem d_m_container_118 : decode c_m_container 118 = .ok (.ireturn, 1) := by decide +kernel
theorem d_m_container_119 : decode c_m_container 119 = .ok (.aload_n 0, 1) := by decide +kernel
theorem d_m_container_120 : decode c_m_container 120 = .ok (.iload_n 3, 1) := by decide +kernel
theorem d_m_container_121 : decode c_m_container 121 = .ok (.bipush 8, 2) := by decide +kernel
theorem d_m_container_123 : decode c_m_container 123 = .ok (.invokevirtual 48, 3) := by decide +kernel
theorem d_m_container_126 : decode c_m_container 126 = .ok (.ireturn, 1) := by decide +kernel
theorem d_m_belt_0 : decode c_m_belt 0 = .ok (.aload_n 0, 1) := by decide +kernel
theorem d_m_belt_1 : decode c_m_belt 1 = .ok (.iconst 0, 1) := by decide +kernel
theorem d_m_belt_2 : decode c_m_belt 2 = .ok (.putfield 44, 3) := by decide +kernel
theorem d_m_belt_5 : decode c_m_belt 5 = .ok (.iload_n 1, 1) := by decide +kernel
theorem d_m_belt_6 : decode c_m_belt 6 = .ok (.ifCond .lt 20, 3) := by decide +kernel
theorem d_m_belt_9 : decode c_m_belt 9 = .ok (.iload_n 1, 1) := by decide +kernel
theorem d_m_belt_10 : decode c_m_belt 10 = .ok (.aload_n 0, 1) := by decide +kernel
theorem d_m_belt_11 : decode c_m_belt 11 = .ok (.getfield 52, 3) := by decide +kernel
theorem d_m_belt_14 : decode c_m_belt 14 = .ok (.if_icmp .ge 12, 3) := by decide +kernel
theorem d_m_belt_17 : decode c_m_belt 17 = .ok (.aload_n 0, 1) := by decide +kernel
theorem d_m_belt_18 : decode c_m_belt 18 = .ok (.iload_n 1, 1) := by decide +kernel
theorem d_m_belt_19 : decode c_m_belt 19 = .ok (.iconst 0, 1) := by decide +kernel
theorem d_m_belt_20 : decode c_m_belt 20 = .ok (.invokevirtual 48, 3) := by decide +kernel
theorem d_m_belt_23 : decode c_m_belt 23 = .ok (.goto 4, 3) := by decide +kernel
theorem d_m_belt_26 : decode c_m_belt 26 = .ok (.iconst (-1), 1) := by decide +kernel
theorem d_m_belt_27 : decode c_m_belt 27 = .ok (.ireturn, 1) := by decide +kernel
theorem d_m_bin_0 : decode c_m_bin 0 = .ok (.aload_n 0, 1) := by decide +kernel
theorem d_m_bin_1 : decode c_m_bin 1 = .ok (.iload_n 1, 1) := by decide +kernel
theorem d_m_bin_2 : decode c_m_bin 2 = .ok (.iconst 0, 1) := by decide +kernel
theorem d_m_bin_3 : decode c_m_bin 3 = .ok (.iconst 2, 1) := by decide +kernel
theorem d_m_bin_4 : decode c_m_bin 4 = .ok (.invokestatic 63, 3) := by decide +kernel
theorem d_m_bin_7 : decode c_m_bin 7 = .ok (.ifCond .eq 12, 3) := by decide +kernel
theorem d_m_bin_10 : decode c_m_bin 10 = .ok (.iload_n 2, 1) := by decide +kernel
theorem d_m_bin_11 : decode c_m_bin 11 = .ok (.iconst 0, 1) := by decide +kernel
theorem d_m_bin_12 : decode c_m_bin 12 = .ok (.iconst 1, 1) := by decide +kernel
theorem d_m_bin_13 : decode c_m_bin 13 = .ok (.invokestatic 63, 3) := by decide +kernel
theorem d_m_bin_16 : decode c_m_bin 16 = .ok (.ifCond .ne 7, 3) := by decide +kernel
theorem d_m_bin_19 : decode c_m_bin 19 = .ok (.iconst 1, 1) := by decide +kernel
theorem d_m_bin_20 : decode c_m_bin 20 = .ok (.goto 4, 3) := by decide +kernel
theorem d_m_bin_23 : decode c_m_bin 23 = .ok (.iconst 0, 1) := by decide +kernel
theorem d_m_bin_24 : decode c_m_bin 24 = .ok (.iconst 1, 1) := by decide +kernel
theorem d_m_bin_25 : decode c_m_bin 25 = .ok (.invokevirtual 59, 3) := by decide +kernel
theorem d_m_bin_28 : decode c_m_bin 28 = .ok (.ifCond .eq 5, 3) := by decide +kernel
theorem d_m_bin_31 : decode c_m_bin 31 = .ok (.iconst 0, 1) := by decide +kernel
theorem d_m_bin_32 : decode c_m_bin 32 = .ok (.ireturn, 1) := by decide +kernel
theorem d_m_bin_33 : decode c_m_bin 33 = .ok (.iload_n 2, 1) := by decide +kernel
theorem d_m_bin_34 : decode c_m_bin 34 = .ok (.ifCond .ne 12, 3) := by decide +kernel
theorem d_m_bin_37 : decode c_m_bin 37 = .ok (.aload_n 0, 1) := by decide +kernel
theorem d_m_bin_38 : decode c_m_bin 38 = .ok (.getfield 22, 3) := by decide +kernel
theorem d_m_bin_41 : decode c_m_bin 41 = .ok (.iload_n 1, 1) := by decide +kernel
theorem d_m_bin_42 : decode c_m_bin 42 = .ok (.iaload, 1) := by decide +kernel
theorem d_m_bin_43 : decode c_m_bin 43 = .ok (.goto 9, 3) := by decide +kernel
theorem d_m_bin_46 : decode c_m_bin 46 = .ok (.aload_n 0, 1) := by decide +kernel
theorem d_m_bin_47 : decode c_m_bin 47 = .ok (.getfield 25, 3) := by decide +kernel
theorem d_m_bin_50 : decode c_m_bin 50 = .ok (.iload_n 1, 1) := by decide +kernel
theorem d_m_bin_51 : decode c_m_bin 51 = .ok (.iaload, 1) := by decide +kernel
theorem d_m_bin_52 : decode c_m_bin 52 = .ok (.ireturn, 1) := by decide +kernel
theorem d_m_total_0 : decode c_m_total 0 = .ok (.aload_n 0, 1) := by decide +kernel
theorem d_m_total_1 : decode c_m_total 1 = .ok (.iload_n 1, 1) := by decide +kernel
theorem d_m_total_2 : decode c_m_total 2 = .ok (.iconst 0, 1) := by decide +kernel
theorem d_m_total_3 : decode c_m_total 3 = .ok (.bipush 20, 2) := by decide +kernel
theorem d_m_total_5 : decode c_m_total 5 = .ok (.invokestatic 63, 3) := by decide +kernel
theorem d_m_total_8 : decode c_m_total 8 = .ok (.ifCond .ne 7, 3) := by decide +kernel
theorem d_m_total_11 : decode c_m_total 11 = .ok (.iconst 1, 1) := by decide +kernel
theorem d_m_total_12 : decode c_m_total 12 = .ok (.goto 4, 3) := by decide +kernel
theorem d_m_total_15 : decode c_m_total 15 = .ok (.iconst 0, 1) := by decide +kernel
theorem d_m_total_16 : decode c_m_total 16 = .ok (.iconst 1, 1) := by decide +kernel
theorem d_m_total_17 : decode c_m_total 17 = .ok (.invokevirtual 59, 3) := by decide +kernel
theorem d_m_total_20 : decode c_m_total 20 = .ok (.ifCond .eq 5, 3) := by decide +kernel
theorem d_m_total_23 : decode c_m_total 23 = .ok (.iconst 0, 1) := by decide +kernel
theorem d_m_total_24 : decode c_m_total 24 = .ok (.ireturn, 1) := by decide +kernel
theorem d_m_total_25 : decode c_m_total 25 = .ok (.iload_n 1, 1) := by decide +kernel
theorem d_m_total_26 : decode c_m_total 26 = .ok (.ifCond .le 16, 3) := by decide +kernel
theorem d_m_total_29 : decode c_m_total 29 = .ok (.iload_n 1, 1) := by decide +kernel
theorem d_m_total_30 : decode c_m_total 30 = .ok (.bipush 10, 2) := by decide +kernel
theorem d_m_total_32 : decode c_m_total 32 = .ok (.if_icmp .ge 10, 3) := by decide +kernel
theorem d_m_total_35 : decode c_m_total 35 = .ok (.aload_n 0, 1) := by decide +kernel
theorem d_m_total_36 : decode c_m_total 36 = .ok (.getfield 41, 3) := by decide +kernel
theorem d_m_total_39 : decode c_m_total 39 = .ok (.iload_n 1, 1) := by decide +kernel
theorem d_m_total_40 : decode c_m_total 40 = .ok (.iaload, 1) := by decide +kernel
theorem d_m_total_41 : decode c_m_total 41 = .ok (.ireturn, 1) := by decide +kernel
theorem d_m_total_42 : decode c_m_total 42 = .ok (.iload_n 1, 1) := by decide +kernel
theorem d_m_total_43 : decode c_m_total 43 = .ok (.tableswitch 172 0 19 #[93, 172, 172, 172, 172, 172, 172, 172, 172, 172, 98, 103, 108, 113, 118, 123, 128, 141, 154, 167], 93) := by decide +kernel
theorem d_m_total_136 : decode c_m_total 136 = .ok (.aload_n 0, 1) := by decide +kernel
theorem d_m_total_137 : decode c_m_total 137 = .ok (.getfield 110, 3) := by decide +kernel
theorem d_m_total_140 : decode c_m_total 140 = .ok (.ireturn, 1) := by decide +kernel
theorem d_m_total_141 : decode c_m_total 141 = .ok (.aload_n 0, 1) := by decide +kernel
theorem d_m_total_142 : decode c_m_total 142 = .ok (.getfield 113, 3) := by decide +kernel
theorem d_m_total_145 : decode c_m_total 145 = .ok (.ireturn, 1) := by decide +kernel
theorem d_m_total_146 : decode c_m_total 146 = .ok (.aload_n 0, 1) := by decide +kernel
theorem d_m_total_147 : decode c_m_total 147 = .ok (.getfield 116, 3) := by decide +kernel
theorem d_m_total_150 : decode c_m_total 150 = .ok (.ireturn, 1) := by decide +kernel
theorem d_m_total_151 : decode c_m_total 151 = .ok (.aload_n 0, 1) := by decide +kernel
theorem d_m_total_152 : decode c_m_total 152 = .ok (.getfield 142, 3) := by decide +kernel
theorem d_m_total_155 : decode c_m_total 155 = .ok (.ireturn, 1) := by decide +kernel
theorem d_m_total_156 : decode c_m_total 156 = .ok (.aload_n 0, 1) := by decide +kernel
theorem d_m_total_157 : decode c_m_total 157 = .ok (.getfield 145, 3) := by decide +kernel
theorem d_m_total_160 : decode c_m_total 160 = .ok (.ireturn, 1) := by decide +kernel
theorem d_m_total_161 : decode c_m_total 161 = .ok (.aload_n 0, 1) := by decide +kernel
theorem d_m_total_162 : decode c_m_total 162 = .ok (.getfield 94, 3) := by decide +kernel
theorem d_m_total_165 : decode c_m_total 165 = .ok (.ireturn, 1) := by decide +kernel
theorem d_m_total_166 : decode c_m_total 166 = .ok (.aload_n 0, 1) := by decide +kernel
theorem d_m_total_167 : decode c_m_total 167 = .ok (.getfield 52, 3) := by decide +kernel
theorem d_m_total_170 : decode c_m_total 170 = .ok (.ireturn, 1) := by decide +kernel
theorem d_m_total_171 : decode c_m_total 171 = .ok (.aload_n 0, 1) := by decide +kernel
theorem d_m_total_172 : decode c_m_total 172 = .ok (.getfield 55, 3) := by decide +kernel
theorem d_m_total_175 : decode c_m_total 175 = .ok (.ifCond .eq 7, 3) := by decide +kernel
theorem d_m_total_178 : decode c_m_total 178 = .ok (.iconst 0, 1) := by decide +kernel
theorem d_m_total_179 : decode c_m_total 179 = .ok (.goto 4, 3) := by decide +kernel
theorem d_m_total_182 : decode c_m_total 182 = .ok (.iconst 1, 1) := by decide +kernel
theorem d_m_total_183 : decode c_m_total 183 = .ok (.ireturn, 1) := by decide +kernel
theorem d_m_total_184 : decode c_m_total 184 = .ok (.aload_n 0, 1) := by decide +kernel
theorem d_m_total_185 : decode c_m_total 185 = .ok (.invokevirtual 123, 3) := by decide +kernel
theorem d_m_total_188 : decode c_m_total 188 = .ok (.ifCond .eq 7, 3) := by decide +kernel
theorem d_m_total_191 : decode c_m_total 191 = .ok (.iconst 1, 1) := by decide +kernel
theorem d_m_total_192 : decode c_m_total 192 = .ok (.goto 4, 3) := by decide +kernel
theorem d_m_total_195 : decode c_m_total 195 = .ok (.iconst 0, 1) := by decide +kernel
theorem d_m_total_196 : decode c_m_total 196 = .ok (.ireturn, 1) := by decide +kernel
theorem d_m_total_197 : decode c_m_total 197 = .ok (.aload_n 0, 1) := by decide +kernel
theorem d_m_total_198 : decode c_m_total 198 = .ok (.invokevirtual 97, 3) := by decide +kernel
theorem d_m_total_201 : decode c_m_total 201 = .ok (.ifCond .eq 7, 3) := by decide +kernel
theorem d_m_total_204 : decode c_m_total 204 = .ok (.iconst 1, 1) := by decide +kernel
theorem d_m_total_205 : decode c_m_total 205 = .ok (.goto 4, 3) := by decide +kernel
theorem d_m_total_208 : decode c_m_total 208 = .ok (.iconst 0, 1) := by decide +kernel
theorem d_m_total_209 : decode c_m_total 209 = .ok (.ireturn, 1) := by decide +kernel
theorem d_m_total_210 : decode c_m_total 210 = .ok (.aload_n 0, 1) := by decide +kernel
theorem d_m_total_211 : decode c_m_total 211 = .ok (.getfield 88, 3) := by decide +kernel
theorem d_m_total_214 : decode c_m_total 214 = .ok (.ireturn, 1) := by decide +kernel
theorem d_m_total_215 : decode c_m_total 215 = .ok (.aload_n 0, 1) := by decide +kernel
theorem d_m_total_216 : decode c_m_total 216 = .ok (.getfield 85, 3) := by decide +kernel
theorem d_m_total_219 : decode c_m_total 219 = .ok (.ireturn, 1) := by decide +kernel
