/-! decode rows of the constructors -/
theorem d_b_init_0 : decode c_b_init 0 = .ok (.aload_n 0, 1) := by decide +kernel
theorem d_b_init_1 : decode c_b_init 1 = .ok (.invokespecial 3, 3) := by decide +kernel
theorem d_b_init_4 : decode c_b_init 4 = .ok (.aload_n 0, 1) := by decide +kernel
theorem d_b_init_5 : decode c_b_init 5 = .ok (.new 9, 3) := by decide +kernel
theorem d_b_init_8 : decode c_b_init 8 = .ok (.dup, 1) := by decide +kernel
theorem d_b_init_9 : decode c_b_init 9 = .ok (.invokespecial 11, 3) := by decide +kernel
theorem d_b_init_12 : decode c_b_init 12 = .ok (.putfield 12, 3) := by decide +kernel
theorem d_b_init_15 : decode c_b_init 15 = .ok (.aload_n 0, 1) := by decide +kernel
theorem d_b_init_16 : decode c_b_init 16 = .ok (.new 16, 3) := by decide +kernel
theorem d_b_init_19 : decode c_b_init 19 = .ok (.dup, 1) := by decide +kernel
theorem d_b_init_20 : decode c_b_init 20 = .ok (.invokespecial 18, 3) := by decide +kernel
theorem d_b_init_23 : decode c_b_init 23 = .ok (.putfield 19, 3) := by decide +kernel
theorem d_b_init_26 : decode c_b_init 26 = .ok (.aload_n 0, 1) := by decide +kernel
theorem d_b_init_27 : decode c_b_init 27 = .ok (.new 23, 3) := by decide +kernel
theorem d_b_init_30 : decode c_b_init 30 = .ok (.dup, 1) := by decide +kernel
theorem d_b_init_31 : decode c_b_init 31 = .ok (.invokespecial 25, 3) := by decide +kernel
theorem d_b_init_34 : decode c_b_init 34 = .ok (.putfield 26, 3) := by decide +kernel
theorem d_b_init_37 : decode c_b_init 37 = .ok (.aload_n 0, 1) := by decide +kernel
theorem d_b_init_38 : decode c_b_init 38 = .ok (.new 30, 3) := by decide +kernel
theorem d_b_init_41 : decode c_b_init 41 = .ok (.dup, 1) := by decide +kernel
theorem d_b_init_42 : decode c_b_init 42 = .ok (.invokespecial 32, 3) := by decide +kernel
theorem d_b_init_45 : decode c_b_init 45 = .ok (.putfield 33, 3) := by decide +kernel
theorem d_b_init_48 : decode c_b_init 48 = .ok (.aload_n 0, 1) := by decide +kernel
theorem d_b_init_49 : decode c_b_init 49 = .ok (.new 37, 3) := by decide +kernel
theorem d_b_init_52 : decode c_b_init 52 = .ok (.dup, 1) := by decide +kernel
theorem d_b_init_53 : decode c_b_init 53 = .ok (.invokespecial 39, 3) := by decide +kernel
theorem d_b_init_56 : decode c_b_init 56 = .ok (.putfield 40, 3) := by decide +kernel
theorem d_b_init_59 : decode c_b_init 59 = .ok (.aload_n 0, 1) := by decide +kernel
theorem d_b_init_60 : decode c_b_init 60 = .ok (.new 44, 3) := by decide +kernel
theorem d_b_init_63 : decode c_b_init 63 = .ok (.dup, 1) := by decide +kernel
theorem d_b_init_64 : decode c_b_init 64 = .ok (.invokespecial 46, 3) := by decide +kernel
theorem d_b_init_67 : decode c_b_init 67 = .ok (.putfield 47, 3) := by decide +kernel
theorem d_b_init_70 : decode c_b_init 70 = .ok (.aload_n 0, 1) := by decide +kernel
theorem d_b_init_71 : decode c_b_init 71 = .ok (.bipush 10, 2) := by decide +kernel
theorem d_b_init_73 : decode c_b_init 73 = .ok (.newarray .int, 2) := by decide +kernel
theorem d_b_init_75 : decode c_b_init 75 = .ok (.putfield 51, 3) := by decide +kernel
theorem d_b_init_78 : decode c_b_init 78 = .ok (.return_, 1) := by decide +kernel
theorem d_m_init_0 : decode c_m_init 0 = .ok (.aload_n 0, 1) := by decide +kernel
theorem d_m_init_1 : decode c_m_init 1 = .ok (.invokespecial 1, 3) := by decide +kernel
theorem d_m_init_4 : decode c_m_init 4 = .ok (.aload_n 0, 1) := by decide +kernel
theorem d_m_init_5 : decode c_m_init 5 = .ok (.bipush 64, 2) := by decide +kernel
theorem d_m_init_7 : decode c_m_init 7 = .ok (.newarray .int, 2) := by decide +kernel
theorem d_m_init_9 : decode c_m_init 9 = .ok (.putfield 7, 3) := by decide +kernel
theorem d_m_init_12 : decode c_m_init 12 = .ok (.aload_n 0, 1) := by decide +kernel
theorem d_m_init_13 : decode c_m_init 13 = .ok (.bipush 8, 2) := by decide +kernel
theorem d_m_init_15 : decode c_m_init 15 = .ok (.newarray .int, 2) := by decide +kernel
theorem d_m_init_17 : decode c_m_init 17 = .ok (.putfield 13, 3) := by decide +kernel
theorem d_m_init_20 : decode c_m_init 20 = .ok (.aload_n 0, 1) := by decide +kernel
theorem d_m_init_21 : decode c_m_init 21 = .ok (.sipush 240, 3) := by decide +kernel
theorem d_m_init_24 : decode c_m_init 24 = .ok (.newarray .int, 2) := by decide +kernel
theorem d_m_init_26 : decode c_m_init 26 = .ok (.putfield 16, 3) := by decide +kernel
theorem d_m_init_29 : decode c_m_init 29 = .ok (.aload_n 0, 1) := by decide +kernel
theorem d_m_init_30 : decode c_m_init 30 = .ok (.sipush 1200, 3) := by decide +kernel
theorem d_m_init_33 : decode c_m_init 33 = .ok (.newarray .int, 2) := by decide +kernel
theorem d_m_init_35 : decode c_m_init 35 = .ok (.putfield 19, 3) := by decide +kernel
theorem d_m_init_38 : decode c_m_init 38 = .ok (.aload_n 0, 1) := by decide +kernel
theorem d_m_init_39 : decode c_m_init 39 = .ok (.iconst 3, 1) := by decide +kernel
theorem d_m_init_40 : decode c_m_init 40 = .ok (.newarray .int, 2) := by decide +kernel
theorem d_m_init_42 : decode c_m_init 42 = .ok (.putfield 22, 3) := by decide +kernel
theorem d_m_init_45 : decode c_m_init 45 = .ok (.aload_n 0, 1) := by decide +kernel
theorem d_m_init_46 : decode c_m_init 46 = .ok (.iconst 3, 1) := by decide +kernel
theorem d_m_init_47 : decode c_m_init 47 = .ok (.newarray .int, 2) := by decide +kernel
theorem d_m_init_49 : decode c_m_init 49 = .ok (.putfield 25, 3) := by decide +kernel
theorem d_m_init_52 : decode c_m_init 52 = .ok (.aload_n 0, 1) := by decide +kernel
theorem d_m_init_53 : decode c_m_init 53 = .ok (.bipush 60, 2) := by decide +kernel
theorem d_m_init_55 : decode c_m_init 55 = .ok (.newarray .int, 2) := by decide +kernel
theorem d_m_init_57 : decode c_m_init 57 = .ok (.putfield 28, 3) := by decide +kernel
theorem d_m_init_60 : decode c_m_init 60 = .ok (.aload_n 0, 1) := by decide +kernel
theorem d_m_init_61 : decode c_m_init 61 = .ok (.bipush 60, 2) := by decide +kernel
theorem d_m_init_63 : decode c_m_init 63 = .ok (.newarray .int, 2) := by decide +kernel
theorem d_m_init_65 : decode c_m_init 65 = .ok (.putfield 31, 3) := by decide +kernel
theorem d_m_init_68 : decode c_m_init 68 = .ok (.aload_n 0, 1) := by decide +kernel
theorem d_m_init_69 : decode c_m_init 69 = .ok (.bipush 60, 2) := by decide +kernel
theorem d_m_init_71 : decode c_m_init 71 = .ok (.newarray .boolean, 2) := by decide +kernel
theorem d_m_init_73 : decode c_m_init 73 = .ok (.putfield 34, 3) := by decide +kernel
theorem d_m_init_76 : decode c_m_init 76 = .ok (.aload_n 0, 1) := by decide +kernel
theorem d_m_init_77 : decode c_m_init 77 = .ok (.bipush 24, 2) := by decide +kernel
theorem d_m_init_79 : decode c_m_init 79 = .ok (.newarray .int, 2) := by decide +kernel
theorem d_m_init_81 : decode c_m_init 81 = .ok (.putfield 38, 3) := by decide +kernel
theorem d_m_init_84 : decode c_m_init 84 = .ok (.aload_n 0, 1) := by decide +kernel
theorem d_m_init_85 : decode c_m_init 85 = .ok (.bipush 10, 2) := by decide +kernel
theorem d_m_init_87 : decode c_m_init 87 = .ok (.newarray .int, 2) := by decide +kernel
theorem d_m_init_89 : decode c_m_init 89 = .ok (.putfield 41, 3) := by decide +kernel
theorem d_m_init_92 : decode c_m_init 92 = .ok (.iconst 0, 1) := by decide +kernel
theorem d_m_init_93 : decode c_m_init 93 = .ok (.istore_n 1, 1) := by decide +kernel
theorem d_m_init_94 : decode c_m_init 94 = .ok (.iload_n 1, 1) := by decide +kernel
theorem d_m_init_95 : decode c_m_init 95 = .ok (.iconst 3, 1) := by decide +kernel
theorem d_m_init_96 : decode c_m_init 96 = .ok (.if_icmp .ge 17, 3) := by decide +kernel
theorem d_m_init_99 : decode c_m_init 99 = .ok (.aload_n 0, 1) := by decide +kernel
theorem d_m_init_100 : decode c_m_init 100 = .ok (.getfield 25, 3) := by decide +kernel
theorem d_m_init_103 : decode c_m_init 103 = .ok (.iload_n 1, 1) := by decide +kernel
theorem d_m_init_104 : decode c_m_init 104 = .ok (.bipush 30, 2) := by decide +kernel
theorem d_m_init_106 : decode c_m_init 106 = .ok (.iastore, 1) := by decide +kernel
theorem d_m_init_107 : decode c_m_init 107 = .ok (.iinc 1 1, 3) := by decide +kernel
theorem d_m_init_110 : decode c_m_init 110 = .ok (.goto (-16), 3) := by decide +kernel
theorem d_m_init_113 : decode c_m_init 113 = .ok (.return_, 1) := by decide +kernel
theorem d_be_init_0 : decode c_be_init 0 = .ok (.aload_n 0, 1) := by decide +kernel
theorem d_be_init_1 : decode c_be_init 1 = .ok (.invokespecial 3, 3) := by decide +kernel
theorem d_be_init_4 : decode c_be_init 4 = .ok (.aload_n 0, 1) := by decide +kernel
theorem d_be_init_5 : decode c_be_init 5 = .ok (.bipush 16, 2) := by decide +kernel
theorem d_be_init_7 : decode c_be_init 7 = .ok (.anewarray 9, 3) := by decide +kernel
theorem d_be_init_10 : decode c_be_init 10 = .ok (.putfield 11, 3) := by decide +kernel
theorem d_be_init_13 : decode c_be_init 13 = .ok (.iconst 0, 1) := by decide +kernel
theorem d_be_init_14 : decode c_be_init 14 = .ok (.istore_n 1, 1) := by decide +kernel
theorem d_be_init_15 : decode c_be_init 15 = .ok (.iload_n 1, 1) := by decide +kernel
theorem d_be_init_16 : decode c_be_init 16 = .ok (.aload_n 0, 1) := by decide +kernel
theorem d_be_init_17 : decode c_be_init 17 = .ok (.getfield 11, 3) := by decide +kernel
theorem d_be_init_20 : decode c_be_init 20 = .ok (.arraylength, 1) := by decide +kernel
theorem d_be_init_21 : decode c_be_init 21 = .ok (.if_icmp .ge 22, 3) := by decide +kernel
theorem d_be_init_24 : decode c_be_init 24 = .ok (.aload_n 0, 1) := by decide +kernel
theorem d_be_init_25 : decode c_be_init 25 = .ok (.getfield 11, 3) := by decide +kernel
theorem d_be_init_28 : decode c_be_init 28 = .ok (.iload_n 1, 1) := by decide +kernel
theorem d_be_init_29 : decode c_be_init 29 = .ok (.new 9, 3) := by decide +kernel
theorem d_be_init_32 : decode c_be_init 32 = .ok (.dup, 1) := by decide +kernel
theorem d_be_init_33 : decode c_be_init 33 = .ok (.invokespecial 17, 3) := by decide +kernel
theorem d_be_init_36 : decode c_be_init 36 = .ok (.aastore, 1) := by decide +kernel
theorem d_be_init_37 : decode c_be_init 37 = .ok (.iinc 1 1, 3) := by decide +kernel
theorem d_be_init_40 : decode c_be_init 40 = .ok (.goto (-25), 3) := by decide +kernel
theorem d_be_init_43 : decode c_be_init 43 = .ok (.return_, 1) := by decide +kernel
theorem d_bi_init_0 : decode c_bi_init 0 = .ok (.aload_n 0, 1) := by decide +kernel
theorem d_bi_init_1 : decode c_bi_init 1 = .ok (.invokespecial 3, 3) := by decide +kernel
theorem d_bi_init_4 : decode c_bi_init 4 = .ok (.aload_n 0, 1) := by decide +kernel
theorem d_bi_init_5 : decode c_bi_init 5 = .ok (.iconst 3, 1) := by decide +kernel
theorem d_bi_init_6 : decode c_bi_init 6 = .ok (.newarray .int, 2) := by decide +kernel
theorem d_bi_init_8 : decode c_bi_init 8 = .ok (.putfield 9, 3) := by decide +kernel
theorem d_bi_init_11 : decode c_bi_init 11 = .ok (.aload_n 0, 1) := by decide +kernel
theorem d_bi_init_12 : decode c_bi_init 12 = .ok (.iconst 3, 1) := by decide +kernel
theorem d_bi_init_13 : decode c_bi_init 13 = .ok (.newarray .int, 2) := by decide +kernel
theorem d_bi_init_15 : decode c_bi_init 15 = .ok (.putfield 15, 3) := by decide +kernel
theorem d_bi_init_18 : decode c_bi_init 18 = .ok (.iconst 0, 1) := by decide +kernel
theorem d_bi_init_19 : decode c_bi_init 19 = .ok (.istore_n 1, 1) := by decide +kernel
theorem d_bi_init_20 : decode c_bi_init 20 = .ok (.iload_n 1, 1) := by decide +kernel
theorem d_bi_init_21 : decode c_bi_init 21 = .ok (.iconst 3, 1) := by decide +kernel
theorem d_bi_init_22 : decode c_bi_init 22 = .ok (.if_icmp .ge 17, 3) := by decide +kernel
theorem d_bi_init_25 : decode c_bi_init 25 = .ok (.aload_n 0, 1) := by decide +kernel
theorem d_bi_init_26 : decode c_bi_init 26 = .ok (.getfield 15, 3) := by decide +kernel
theorem d_bi_init_29 : decode c_bi_init 29 = .ok (.iload_n 1, 1) := by decide +kernel
theorem d_bi_init_30 : decode c_bi_init 30 = .ok (.bipush 30, 2) := by decide +kernel
theorem d_bi_init_32 : decode c_bi_init 32 = .ok (.iastore, 1) := by decide +kernel
theorem d_bi_init_33 : decode c_bi_init 33 = .ok (.iinc 1 1, 3) := by decide +kernel
theorem d_bi_init_36 : decode c_bi_init 36 = .ok (.goto (-16), 3) := by decide +kernel
theorem d_bi_init_39 : decode c_bi_init 39 = .ok (.return_, 1) := by decide +kernel
theorem d_ca_init_0 : decode c_ca_init 0 = .ok (.aload_n 0, 1) := by decide +kernel
theorem d_ca_init_1 : decode c_ca_init 1 = .ok (.invokespecial 3, 3) := by decide +kernel
theorem d_ca_init_4 : decode c_ca_init 4 = .ok (.aload_n 0, 1) := by decide +kernel
theorem d_ca_init_5 : decode c_ca_init 5 = .ok (.bipush 40, 2) := by decide +kernel
theorem d_ca_init_7 : decode c_ca_init 7 = .ok (.newarray .int, 2) := by decide +kernel
theorem d_ca_init_9 : decode c_ca_init 9 = .ok (.putfield 9, 3) := by decide +kernel
theorem d_ca_init_12 : decode c_ca_init 12 = .ok (.aload_n 0, 1) := by decide +kernel
theorem d_ca_init_13 : decode c_ca_init 13 = .ok (.bipush 40, 2) := by decide +kernel
theorem d_ca_init_15 : decode c_ca_init 15 = .ok (.newarray .int, 2) := by decide +kernel
theorem d_ca_init_17 : decode c_ca_init 17 = .ok (.putfield 15, 3) := by decide +kernel
theorem d_ca_init_20 : decode c_ca_init 20 = .ok (.aload_n 0, 1) := by decide +kernel
theorem d_ca_init_21 : decode c_ca_init 21 = .ok (.bipush 40, 2) := by decide +kernel
theorem d_ca_init_23 : decode c_ca_init 23 = .ok (.newarray .int, 2) := by decide +kernel
theorem d_ca_init_25 : decode c_ca_init 25 = .ok (.putfield 18, 3) := by decide +kernel
theorem d_ca_init_28 : decode c_ca_init 28 = .ok (.aload_n 0, 1) := by decide +kernel
theorem d_ca_init_29 : decode c_ca_init 29 = .ok (.bipush 40, 2) := by decide +kernel
theorem d_ca_init_31 : decode c_ca_init 31 = .ok (.newarray .int, 2) := by decide +kernel
theorem d_ca_init_33 : decode c_ca_init 33 = .ok (.putfield 21, 3) := by decide +kernel
theorem d_ca_init_36 : decode c_ca_init 36 = .ok (.aload_n 0, 1) := by decide +kernel
theorem d_ca_init_37 : decode c_ca_init 37 = .ok (.bipush 40, 2) := by decide +kernel
theorem d_ca_init_39 : decode c_ca_init 39 = .ok (.newarray .int, 2) := by decide +kernel
theorem d_ca_init_41 : decode c_ca_init 41 = .ok (.putfield 24, 3) := by decide +kernel
theorem d_ca_init_44 : decode c_ca_init 44 = .ok (.aload_n 0, 1) := by decide +kernel
theorem d_ca_init_45 : decode c_ca_init 45 = .ok (.bipush 40, 2) := by decide +kernel
theorem d_ca_init_47 : decode c_ca_init 47 = .ok (.newarray .int, 2) := by decide +kernel
theorem d_ca_init_49 : decode c_ca_init 49 = .ok (.putfield 27, 3) := by decide +kernel
theorem d_ca_init_52 : decode c_ca_init 52 = .ok (.aload_n 0, 1) := by decide +kernel
theorem d_ca_init_53 : decode c_ca_init 53 = .ok (.bipush 8, 2) := by decide +kernel
theorem d_ca_init_55 : decode c_ca_init 55 = .ok (.bipush 8, 2) := by decide +kernel
theorem d_ca_init_57 : decode c_ca_init 57 = .ok (.multianewarray 30 2, 4) := by decide +kernel
theorem d_ca_init_61 : decode c_ca_init 61 = .ok (.putfield 32, 3) := by decide +kernel
theorem d_ca_init_64 : decode c_ca_init 64 = .ok (.aload_n 0, 1) := by decide +kernel
theorem d_ca_init_65 : decode c_ca_init 65 = .ok (.bipush 8, 2) := by decide +kernel
theorem d_ca_init_67 : decode c_ca_init 67 = .ok (.newarray .int, 2) := by decide +kernel
theorem d_ca_init_69 : decode c_ca_init 69 = .ok (.putfield 35, 3) := by decide +kernel
theorem d_ca_init_72 : decode c_ca_init 72 = .ok (.return_, 1) := by decide +kernel
theorem d_co_init_0 : decode c_co_init 0 = .ok (.aload_n 0, 1) := by decide +kernel
theorem d_co_init_1 : decode c_co_init 1 = .ok (.invokespecial 3, 3) := by decide +kernel
theorem d_co_init_4 : decode c_co_init 4 = .ok (.aload_n 0, 1) := by decide +kernel
theorem d_co_init_5 : decode c_co_init 5 = .ok (.new 9, 3) := by decide +kernel
theorem d_co_init_8 : decode c_co_init 8 = .ok (.dup, 1) := by decide +kernel
theorem d_co_init_9 : decode c_co_init 9 = .ok (.iconst 3, 1) := by decide +kernel
theorem d_co_init_10 : decode c_co_init 10 = .ok (.invokespecial 11, 3) := by decide +kernel
theorem d_co_init_13 : decode c_co_init 13 = .ok (.putfield 14, 3) := by decide +kernel
theorem d_co_init_16 : decode c_co_init 16 = .ok (.aload_n 0, 1) := by decide +kernel
theorem d_co_init_17 : decode c_co_init 17 = .ok (.new 9, 3) := by decide +kernel
theorem d_co_init_20 : decode c_co_init 20 = .ok (.dup, 1) := by decide +kernel
theorem d_co_init_21 : decode c_co_init 21 = .ok (.bipush 8, 2) := by decide +kernel
theorem d_co_init_23 : decode c_co_init 23 = .ok (.invokespecial 11, 3) := by decide +kernel
theorem d_co_init_26 : decode c_co_init 26 = .ok (.putfield 20, 3) := by decide +kernel
theorem d_co_init_29 : decode c_co_init 29 = .ok (.return_, 1) := by decide +kernel
theorem d_jo_init_0 : decode c_jo_init 0 = .ok (.aload_n 0, 1) := by decide +kernel
theorem d_jo_init_1 : decode c_jo_init 1 = .ok (.invokespecial 1, 3) := by decide +kernel
theorem d_jo_init_4 : decode c_jo_init 4 = .ok (.aload_n 0, 1) := by decide +kernel
theorem d_jo_init_5 : decode c_jo_init 5 = .ok (.iconst 1, 1) := by decide +kernel
theorem d_jo_init_6 : decode c_jo_init 6 = .ok (.putfield 7, 3) := by decide +kernel
theorem d_jo_init_9 : decode c_jo_init 9 = .ok (.return_, 1) := by decide +kernel
theorem d_la_init_0 : decode c_la_init 0 = .ok (.aload_n 0, 1) := by decide +kernel
theorem d_la_init_1 : decode c_la_init 1 = .ok (.invokespecial 3, 3) := by decide +kernel
theorem d_la_init_4 : decode c_la_init 4 = .ok (.aload_n 0, 1) := by decide +kernel
theorem d_la_init_5 : decode c_la_init 5 = .ok (.bipush 8, 2) := by decide +kernel
theorem d_la_init_7 : decode c_la_init 7 = .ok (.newarray .int, 2) := by decide +kernel
theorem d_la_init_9 : decode c_la_init 9 = .ok (.putfield 9, 3) := by decide +kernel
theorem d_la_init_12 : decode c_la_init 12 = .ok (.return_, 1) := by decide +kernel
theorem d_ro_init_0 : decode c_ro_init 0 = .ok (.aload_n 0, 1) := by decide +kernel
theorem d_ro_init_1 : decode c_ro_init 1 = .ok (.invokespecial 1, 3) := by decide +kernel
theorem d_ro_init_4 : decode c_ro_init 4 = .ok (.aload_n 0, 1) := by decide +kernel
theorem d_ro_init_5 : decode c_ro_init 5 = .ok (.iload_n 1, 1) := by decide +kernel
theorem d_ro_init_6 : decode c_ro_init 6 = .ok (.newarray .int, 2) := by decide +kernel
theorem d_ro_init_8 : decode c_ro_init 8 = .ok (.putfield 7, 3) := by decide +kernel
theorem d_ro_init_11 : decode c_ro_init 11 = .ok (.return_, 1) := by decide +kernel
theorem d_vo_init_0 : decode c_vo_init 0 = .ok (.aload_n 0, 1) := by decide +kernel
theorem d_vo_init_1 : decode c_vo_init 1 = .ok (.invokespecial 3, 3) := by decide +kernel
theorem d_vo_init_4 : decode c_vo_init 4 = .ok (.aload_n 0, 1) := by decide +kernel
theorem d_vo_init_5 : decode c_vo_init 5 = .ok (.bipush 60, 2) := by decide +kernel
theorem d_vo_init_7 : decode c_vo_init 7 = .ok (.newarray .int, 2) := by decide +kernel
theorem d_vo_init_9 : decode c_vo_init 9 = .ok (.putfield 9, 3) := by decide +kernel
theorem d_vo_init_12 : decode c_vo_init 12 = .ok (.aload_n 0, 1) := by decide +kernel
theorem d_vo_init_13 : decode c_vo_init 13 = .ok (.bipush 60, 2) := by decide +kernel
theorem d_vo_init_15 : decode c_vo_init 15 = .ok (.newarray .int, 2) := by decide +kernel
theorem d_vo_init_17 : decode c_vo_init 17 = .ok (.putfield 15, 3) := by decide +kernel
theorem d_vo_init_20 : decode c_vo_init 20 = .ok (.aload_n 0, 1) := by decide +kernel
theorem d_vo_init_21 : decode c_vo_init 21 = .ok (.bipush 60, 2) := by decide +kernel
theorem d_vo_init_23 : decode c_vo_init 23 = .ok (.newarray .boolean, 2) := by decide +kernel
theorem d_vo_init_25 : decode c_vo_init 25 = .ok (.putfield 18, 3) := by decide +kernel
theorem d_vo_init_28 : decode c_vo_init 28 = .ok (.return_, 1) := by decide +kernel
