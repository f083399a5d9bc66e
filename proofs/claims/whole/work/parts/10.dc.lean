/-! decode rows -/
theorem d_b_requireOn_0 : decode c_b_requireOn 0 = .ok (.aload_n 0, 1) := by decide +kernel
theorem d_b_requireOn_1 : decode c_b_requireOn 1 = .ok (.getfield 40, 3) := by decide +kernel
theorem d_b_requireOn_4 : decode c_b_requireOn 4 = .ok (.getfield 116, 3) := by decide +kernel
theorem d_b_requireOn_7 : decode c_b_requireOn 7 = .ok (.ifCond .ne 11, 3) := by decide +kernel
theorem d_b_requireOn_10 : decode c_b_requireOn 10 = .ok (.new 248, 3) := by decide +kernel
theorem d_b_requireOn_13 : decode c_b_requireOn 13 = .ok (.dup, 1) := by decide +kernel
theorem d_b_requireOn_14 : decode c_b_requireOn 14 = .ok (.invokespecial 250, 3) := by decide +kernel
theorem d_b_requireOn_17 : decode c_b_requireOn 17 = .ok (.athrow, 1) := by decide +kernel
theorem d_b_requireOn_18 : decode c_b_requireOn 18 = .ok (.return_, 1) := by decide +kernel
theorem d_b_isIndex_0 : decode c_b_isIndex 0 = .ok (.iload_n 0, 1) := by decide +kernel
theorem d_b_isIndex_1 : decode c_b_isIndex 1 = .ok (.ifCond .lt 12, 3) := by decide +kernel
theorem d_b_isIndex_4 : decode c_b_isIndex 4 = .ok (.iload_n 0, 1) := by decide +kernel
theorem d_b_isIndex_5 : decode c_b_isIndex 5 = .ok (.iload_n 1, 1) := by decide +kernel
theorem d_b_isIndex_6 : decode c_b_isIndex 6 = .ok (.if_icmp .ge 7, 3) := by decide +kernel
theorem d_b_isIndex_9 : decode c_b_isIndex 9 = .ok (.iconst 1, 1) := by decide +kernel
theorem d_b_isIndex_10 : decode c_b_isIndex 10 = .ok (.goto 4, 3) := by decide +kernel
theorem d_b_isIndex_13 : decode c_b_isIndex 13 = .ok (.iconst 0, 1) := by decide +kernel
theorem d_b_isIndex_14 : decode c_b_isIndex 14 = .ok (.ireturn, 1) := by decide +kernel
theorem d_b_require_0 : decode c_b_require 0 = .ok (.iload_n 0, 1) := by decide +kernel
theorem d_b_require_1 : decode c_b_require 1 = .ok (.ifCond .ne 11, 3) := by decide +kernel
theorem d_b_require_4 : decode c_b_require 4 = .ok (.new 210, 3) := by decide +kernel
theorem d_b_require_7 : decode c_b_require 7 = .ok (.dup, 1) := by decide +kernel
theorem d_b_require_8 : decode c_b_require 8 = .ok (.invokespecial 212, 3) := by decide +kernel
theorem d_b_require_11 : decode c_b_require 11 = .ok (.athrow, 1) := by decide +kernel
theorem d_b_require_12 : decode c_b_require 12 = .ok (.return_, 1) := by decide +kernel
theorem d_b_isWithin_0 : decode c_b_isWithin 0 = .ok (.iload_n 0, 1) := by decide +kernel
theorem d_b_isWithin_1 : decode c_b_isWithin 1 = .ok (.iload_n 1, 1) := by decide +kernel
theorem d_b_isWithin_2 : decode c_b_isWithin 2 = .ok (.if_icmp .lt 12, 3) := by decide +kernel
theorem d_b_isWithin_5 : decode c_b_isWithin 5 = .ok (.iload_n 0, 1) := by decide +kernel
theorem d_b_isWithin_6 : decode c_b_isWithin 6 = .ok (.iload_n 2, 1) := by decide +kernel
theorem d_b_isWithin_7 : decode c_b_isWithin 7 = .ok (.if_icmp .gt 7, 3) := by decide +kernel
theorem d_b_isWithin_10 : decode c_b_isWithin 10 = .ok (.iconst 1, 1) := by decide +kernel
theorem d_b_isWithin_11 : decode c_b_isWithin 11 = .ok (.goto 4, 3) := by decide +kernel
theorem d_b_isWithin_14 : decode c_b_isWithin 14 = .ok (.iconst 0, 1) := by decide +kernel
theorem d_b_isWithin_15 : decode c_b_isWithin 15 = .ok (.ireturn, 1) := by decide +kernel
theorem d_ca_setContour_0 : decode c_ca_setContour 0 = .ok (.iconst 0, 1) := by decide +kernel
theorem d_ca_setContour_1 : decode c_ca_setContour 1 = .ok (.istore 5, 2) := by decide +kernel
theorem d_ca_setContour_3 : decode c_ca_setContour 3 = .ok (.iload 5, 2) := by decide +kernel
theorem d_ca_setContour_5 : decode c_ca_setContour 5 = .ok (.bipush 8, 2) := by decide +kernel
theorem d_ca_setContour_7 : decode c_ca_setContour 7 = .ok (.if_icmp .ge 48, 3) := by decide +kernel
theorem d_ca_setContour_10 : decode c_ca_setContour 10 = .ok (.iload 5, 2) := by decide +kernel
theorem d_ca_setContour_12 : decode c_ca_setContour 12 = .ok (.iconst 4, 1) := by decide +kernel
theorem d_ca_setContour_13 : decode c_ca_setContour 13 = .ok (.if_icmp .ge 7, 3) := by decide +kernel
theorem d_ca_setContour_16 : decode c_ca_setContour 16 = .ok (.iload_n 2, 1) := by decide +kernel
theorem d_ca_setContour_17 : decode c_ca_setContour 17 = .ok (.goto 4, 3) := by decide +kernel
theorem d_ca_setContour_20 : decode c_ca_setContour 20 = .ok (.iload_n 3, 1) := by decide +kernel
theorem d_ca_setContour_21 : decode c_ca_setContour 21 = .ok (.istore 6, 2) := by decide +kernel
theorem d_ca_setContour_23 : decode c_ca_setContour 23 = .ok (.aload_n 0, 1) := by decide +kernel
theorem d_ca_setContour_24 : decode c_ca_setContour 24 = .ok (.getfield 32, 3) := by decide +kernel
theorem d_ca_setContour_27 : decode c_ca_setContour 27 = .ok (.iload_n 1, 1) := by decide +kernel
theorem d_ca_setContour_28 : decode c_ca_setContour 28 = .ok (.aaload, 1) := by decide +kernel
theorem d_ca_setContour_29 : decode c_ca_setContour 29 = .ok (.iload 5, 2) := by decide +kernel
theorem d_ca_setContour_31 : decode c_ca_setContour 31 = .ok (.iload 6, 2) := by decide +kernel
theorem d_ca_setContour_33 : decode c_ca_setContour 33 = .ok (.bipush 24, 2) := by decide +kernel
theorem d_ca_setContour_35 : decode c_ca_setContour 35 = .ok (.iload 5, 2) := by decide +kernel
theorem d_ca_setContour_37 : decode c_ca_setContour 37 = .ok (.iconst 4, 1) := by decide +kernel
theorem d_ca_setContour_38 : decode c_ca_setContour 38 = .ok (.irem, 1) := by decide +kernel
theorem d_ca_setContour_39 : decode c_ca_setContour 39 = .ok (.bipush 8, 2) := by decide +kernel
theorem d_ca_setContour_41 : decode c_ca_setContour 41 = .ok (.imul, 1) := by decide +kernel
theorem d_ca_setContour_42 : decode c_ca_setContour 42 = .ok (.isub, 1) := by decide +kernel
theorem d_ca_setContour_43 : decode c_ca_setContour 43 = .ok (.iushr, 1) := by decide +kernel
theorem d_ca_setContour_44 : decode c_ca_setContour 44 = .ok (.sipush 255, 3) := by decide +kernel
theorem d_ca_setContour_47 : decode c_ca_setContour 47 = .ok (.iand, 1) := by decide +kernel
theorem d_ca_setContour_48 : decode c_ca_setContour 48 = .ok (.iastore, 1) := by decide +kernel
theorem d_ca_setContour_49 : decode c_ca_setContour 49 = .ok (.iinc 5 1, 3) := by decide +kernel
theorem d_ca_setContour_52 : decode c_ca_setContour 52 = .ok (.goto (-49), 3) := by decide +kernel
theorem d_ca_setContour_55 : decode c_ca_setContour 55 = .ok (.aload_n 0, 1) := by decide +kernel
theorem d_ca_setContour_56 : decode c_ca_setContour 56 = .ok (.getfield 35, 3) := by decide +kernel
theorem d_ca_setContour_59 : decode c_ca_setContour 59 = .ok (.iload_n 1, 1) := by decide +kernel
theorem d_ca_setContour_60 : decode c_ca_setContour 60 = .ok (.iload 4, 2) := by decide +kernel
theorem d_ca_setContour_62 : decode c_ca_setContour 62 = .ok (.iastore, 1) := by decide +kernel
theorem d_ca_setContour_63 : decode c_ca_setContour 63 = .ok (.return_, 1) := by decide +kernel
theorem d_b_contour_0 : decode c_b_contour 0 = .ok (.aload_n 0, 1) := by decide +kernel
theorem d_b_contour_1 : decode c_b_contour 1 = .ok (.invokevirtual 55, 3) := by decide +kernel
theorem d_b_contour_4 : decode c_b_contour 4 = .ok (.iload_n 1, 1) := by decide +kernel
theorem d_b_contour_5 : decode c_b_contour 5 = .ok (.bipush 8, 2) := by decide +kernel
theorem d_b_contour_7 : decode c_b_contour 7 = .ok (.invokestatic 58, 3) := by decide +kernel
theorem d_b_contour_10 : decode c_b_contour 10 = .ok (.invokestatic 62, 3) := by decide +kernel
theorem d_b_contour_13 : decode c_b_contour 13 = .ok (.iload 4, 2) := by decide +kernel
theorem d_b_contour_15 : decode c_b_contour 15 = .ok (.iconst 0, 1) := by decide +kernel
theorem d_b_contour_16 : decode c_b_contour 16 = .ok (.sipush 2040, 3) := by decide +kernel
theorem d_b_contour_19 : decode c_b_contour 19 = .ok (.invokestatic 66, 3) := by decide +kernel
theorem d_b_contour_22 : decode c_b_contour 22 = .ok (.invokestatic 62, 3) := by decide +kernel
theorem d_b_contour_25 : decode c_b_contour 25 = .ok (.aload_n 0, 1) := by decide +kernel
theorem d_b_contour_26 : decode c_b_contour 26 = .ok (.getfield 12, 3) := by decide +kernel
theorem d_b_contour_29 : decode c_b_contour 29 = .ok (.iload_n 1, 1) := by decide +kernel
theorem d_b_contour_30 : decode c_b_contour 30 = .ok (.iload_n 2, 1) := by decide +kernel
theorem d_b_contour_31 : decode c_b_contour 31 = .ok (.iload_n 3, 1) := by decide +kernel
theorem d_b_contour_32 : decode c_b_contour 32 = .ok (.iload 4, 2) := by decide +kernel
theorem d_b_contour_34 : decode c_b_contour 34 = .ok (.invokevirtual 70, 3) := by decide +kernel
theorem d_b_contour_37 : decode c_b_contour 37 = .ok (.return_, 1) := by decide +kernel
theorem d_b_requireEmptyBelt_0 : decode c_b_requireEmptyBelt 0 = .ok (.aload_n 0, 1) := by decide +kernel
theorem d_b_requireEmptyBelt_1 : decode c_b_requireEmptyBelt 1 = .ok (.getfield 19, 3) := by decide +kernel
theorem d_b_requireEmptyBelt_4 : decode c_b_requireEmptyBelt 4 = .ok (.getfield 127, 3) := by decide +kernel
theorem d_b_requireEmptyBelt_7 : decode c_b_requireEmptyBelt 7 = .ok (.ifCond .le 11, 3) := by decide +kernel
theorem d_b_requireEmptyBelt_10 : decode c_b_requireEmptyBelt 10 = .ok (.new 248, 3) := by decide +kernel
theorem d_b_requireEmptyBelt_13 : decode c_b_requireEmptyBelt 13 = .ok (.dup, 1) := by decide +kernel
theorem d_b_requireEmptyBelt_14 : decode c_b_requireEmptyBelt 14 = .ok (.invokespecial 250, 3) := by decide +kernel
theorem d_b_requireEmptyBelt_17 : decode c_b_requireEmptyBelt 17 = .ok (.athrow, 1) := by decide +kernel
theorem d_b_requireEmptyBelt_18 : decode c_b_requireEmptyBelt 18 = .ok (.return_, 1) := by decide +kernel
theorem d_ca_kindWith_0 : decode c_ca_kindWith 0 = .ok (.iconst 0, 1) := by decide +kernel
theorem d_ca_kindWith_1 : decode c_ca_kindWith 1 = .ok (.istore_n 2, 1) := by decide +kernel
theorem d_ca_kindWith_2 : decode c_ca_kindWith 2 = .ok (.iload_n 2, 1) := by decide +kernel
theorem d_ca_kindWith_3 : decode c_ca_kindWith 3 = .ok (.bipush 40, 2) := by decide +kernel
theorem d_ca_kindWith_5 : decode c_ca_kindWith 5 = .ok (.if_icmp .ge 21, 3) := by decide +kernel
theorem d_ca_kindWith_8 : decode c_ca_kindWith 8 = .ok (.aload_n 0, 1) := by decide +kernel
theorem d_ca_kindWith_9 : decode c_ca_kindWith 9 = .ok (.getfield 9, 3) := by decide +kernel
theorem d_ca_kindWith_12 : decode c_ca_kindWith 12 = .ok (.iload_n 2, 1) := by decide +kernel
theorem d_ca_kindWith_13 : decode c_ca_kindWith 13 = .ok (.iaload, 1) := by decide +kernel
theorem d_ca_kindWith_14 : decode c_ca_kindWith 14 = .ok (.iload_n 1, 1) := by decide +kernel
theorem d_ca_kindWith_15 : decode c_ca_kindWith 15 = .ok (.if_icmp .ne 5, 3) := by decide +kernel
theorem d_ca_kindWith_18 : decode c_ca_kindWith 18 = .ok (.iload_n 2, 1) := by decide +kernel
theorem d_ca_kindWith_19 : decode c_ca_kindWith 19 = .ok (.ireturn, 1) := by decide +kernel
theorem d_ca_kindWith_20 : decode c_ca_kindWith 20 = .ok (.iinc 2 1, 3) := by decide +kernel
theorem d_ca_kindWith_23 : decode c_ca_kindWith 23 = .ok (.goto (-21), 3) := by decide +kernel
theorem d_ca_kindWith_26 : decode c_ca_kindWith 26 = .ok (.iconst (-1), 1) := by decide +kernel
theorem d_ca_kindWith_27 : decode c_ca_kindWith 27 = .ok (.ireturn, 1) := by decide +kernel
theorem d_ca_dropCode_0 : decode c_ca_dropCode 0 = .ok (.iload_n 1, 1) := by decide +kernel
theorem d_ca_dropCode_1 : decode c_ca_dropCode 1 = .ok (.iconst (-1), 1) := by decide +kernel
theorem d_ca_dropCode_2 : decode c_ca_dropCode 2 = .ok (.if_icmp .eq 10, 3) := by decide +kernel
theorem d_ca_dropCode_5 : decode c_ca_dropCode 5 = .ok (.aload_n 0, 1) := by decide +kernel
theorem d_ca_dropCode_6 : decode c_ca_dropCode 6 = .ok (.getfield 9, 3) := by decide +kernel
theorem d_ca_dropCode_9 : decode c_ca_dropCode 9 = .ok (.iload_n 1, 1) := by decide +kernel
theorem d_ca_dropCode_10 : decode c_ca_dropCode 10 = .ok (.iconst 0, 1) := by decide +kernel
theorem d_ca_dropCode_11 : decode c_ca_dropCode 11 = .ok (.iastore, 1) := by decide +kernel
theorem d_ca_dropCode_12 : decode c_ca_dropCode 12 = .ok (.return_, 1) := by decide +kernel
theorem d_ca_setKind_0 : decode c_ca_setKind 0 = .ok (.aload_n 0, 1) := by decide +kernel
theorem d_ca_setKind_1 : decode c_ca_setKind 1 = .ok (.getfield 9, 3) := by decide +kernel
theorem d_ca_setKind_4 : decode c_ca_setKind 4 = .ok (.iload_n 1, 1) := by decide +kernel
theorem d_ca_setKind_5 : decode c_ca_setKind 5 = .ok (.iload_n 2, 1) := by decide +kernel
theorem d_ca_setKind_6 : decode c_ca_setKind 6 = .ok (.iastore, 1) := by decide +kernel
theorem d_ca_setKind_7 : decode c_ca_setKind 7 = .ok (.aload_n 0, 1) := by decide +kernel
theorem d_ca_setKind_8 : decode c_ca_setKind 8 = .ok (.getfield 15, 3) := by decide +kernel
theorem d_ca_setKind_11 : decode c_ca_setKind 11 = .ok (.iload_n 1, 1) := by decide +kernel
theorem d_ca_setKind_12 : decode c_ca_setKind 12 = .ok (.iload_n 3, 1) := by decide +kernel
theorem d_ca_setKind_13 : decode c_ca_setKind 13 = .ok (.iastore, 1) := by decide +kernel
theorem d_ca_setKind_14 : decode c_ca_setKind 14 = .ok (.aload_n 0, 1) := by decide +kernel
theorem d_ca_setKind_15 : decode c_ca_setKind 15 = .ok (.getfield 18, 3) := by decide +kernel
theorem d_ca_setKind_18 : decode c_ca_setKind 18 = .ok (.iload_n 1, 1) := by decide +kernel
theorem d_ca_setKind_19 : decode c_ca_setKind 19 = .ok (.iload 4, 2) := by decide +kernel
theorem d_ca_setKind_21 : decode c_ca_setKind 21 = .ok (.iastore, 1) := by decide +kernel
theorem d_ca_setKind_22 : decode c_ca_setKind 22 = .ok (.aload_n 0, 1) := by decide +kernel
theorem d_ca_setKind_23 : decode c_ca_setKind 23 = .ok (.getfield 21, 3) := by decide +kernel
theorem d_ca_setKind_26 : decode c_ca_setKind 26 = .ok (.iload_n 1, 1) := by decide +kernel
theorem d_ca_setKind_27 : decode c_ca_setKind 27 = .ok (.iload 5, 2) := by decide +kernel
theorem d_ca_setKind_29 : decode c_ca_setKind 29 = .ok (.iastore, 1) := by decide +kernel
theorem d_ca_setKind_30 : decode c_ca_setKind 30 = .ok (.aload_n 0, 1) := by decide +kernel
theorem d_ca_setKind_31 : decode c_ca_setKind 31 = .ok (.getfield 24, 3) := by decide +kernel
theorem d_ca_setKind_34 : decode c_ca_setKind 34 = .ok (.iload_n 1, 1) := by decide +kernel
theorem d_ca_setKind_35 : decode c_ca_setKind 35 = .ok (.iload 6, 2) := by decide +kernel
theorem d_ca_setKind_37 : decode c_ca_setKind 37 = .ok (.iastore, 1) := by decide +kernel
theorem d_ca_setKind_38 : decode c_ca_setKind 38 = .ok (.aload_n 0, 1) := by decide +kernel
theorem d_ca_setKind_39 : decode c_ca_setKind 39 = .ok (.getfield 27, 3) := by decide +kernel
theorem d_ca_setKind_42 : decode c_ca_setKind 42 = .ok (.iload_n 1, 1) := by decide +kernel
theorem d_ca_setKind_43 : decode c_ca_setKind 43 = .ok (.iload 7, 2) := by decide +kernel
theorem d_ca_setKind_45 : decode c_ca_setKind 45 = .ok (.iastore, 1) := by decide +kernel
theorem d_ca_setKind_46 : decode c_ca_setKind 46 = .ok (.return_, 1) := by decide +kernel
theorem d_b_kind_0 : decode c_b_kind 0 = .ok (.aload_n 0, 1) := by decide +kernel
theorem d_b_kind_1 : decode c_b_kind 1 = .ok (.invokevirtual 55, 3) := by decide +kernel
theorem d_b_kind_4 : decode c_b_kind 4 = .ok (.aload_n 0, 1) := by decide +kernel
theorem d_b_kind_5 : decode c_b_kind 5 = .ok (.invokevirtual 74, 3) := by decide +kernel
theorem d_b_kind_8 : decode c_b_kind 8 = .ok (.iload_n 1, 1) := by decide +kernel
theorem d_b_kind_9 : decode c_b_kind 9 = .ok (.bipush 40, 2) := by decide +kernel
theorem d_b_kind_11 : decode c_b_kind 11 = .ok (.invokestatic 58, 3) := by decide +kernel
theorem d_b_kind_14 : decode c_b_kind 14 = .ok (.invokestatic 62, 3) := by decide +kernel
theorem d_b_kind_17 : decode c_b_kind 17 = .ok (.iload_n 2, 1) := by decide +kernel
theorem d_b_kind_18 : decode c_b_kind 18 = .ok (.iconst 1, 1) := by decide +kernel
theorem d_b_kind_19 : decode c_b_kind 19 = .ok (.ldc 77, 2) := by decide +kernel
theorem d_b_kind_21 : decode c_b_kind 21 = .ok (.invokestatic 66, 3) := by decide +kernel
theorem d_b_kind_24 : decode c_b_kind 24 = .ok (.invokestatic 62, 3) := by decide +kernel
theorem d_b_kind_27 : decode c_b_kind 27 = .ok (.iload_n 3, 1) := by decide +kernel
theorem d_b_kind_28 : decode c_b_kind 28 = .ok (.iconst 1, 1) := by decide +kernel
theorem d_b_kind_29 : decode c_b_kind 29 = .ok (.sipush 500, 3) := by decide +kernel
theorem d_b_kind_32 : decode c_b_kind 32 = .ok (.invokestatic 66, 3) := by decide +kernel
theorem d_b_kind_35 : decode c_b_kind 35 = .ok (.invokestatic 62, 3) := by decide +kernel
theorem d_b_kind_38 : decode c_b_kind 38 = .ok (.iload 4, 2) := by decide +kernel
theorem d_b_kind_40 : decode c_b_kind 40 = .ok (.iconst 3, 1) := by decide +kernel
theorem d_b_kind_41 : decode c_b_kind 41 = .ok (.invokestatic 58, 3) := by decide +kernel
theorem d_b_kind_44 : decode c_b_kind 44 = .ok (.invokestatic 62, 3) := by decide +kernel
theorem d_b_kind_47 : decode c_b_kind 47 = .ok (.iload 6, 2) := by decide +kernel
theorem d_b_kind_49 : decode c_b_kind 49 = .ok (.iconst 0, 1) := by decide +kernel
theorem d_b_kind_50 : decode c_b_kind 50 = .ok (.sipush 5000, 3) := by decide +kernel
theorem d_b_kind_53 : decode c_b_kind 53 = .ok (.invokestatic 66, 3) := by decide +kernel
theorem d_b_kind_56 : decode c_b_kind 56 = .ok (.invokestatic 62, 3) := by decide +kernel
theorem d_b_kind_59 : decode c_b_kind 59 = .ok (.iload 5, 2) := by decide +kernel
theorem d_b_kind_61 : decode c_b_kind 61 = .ok (.iconst 0, 1) := by decide +kernel
theorem d_b_kind_62 : decode c_b_kind 62 = .ok (.iload 6, 2) := by decide +kernel
theorem d_b_kind_64 : decode c_b_kind 64 = .ok (.invokestatic 66, 3) := by decide +kernel
theorem d_b_kind_67 : decode c_b_kind 67 = .ok (.invokestatic 62, 3) := by decide +kernel
theorem d_b_kind_70 : decode c_b_kind 70 = .ok (.iload 7, 2) := by decide +kernel
theorem d_b_kind_72 : decode c_b_kind 72 = .ok (.bipush 8, 2) := by decide +kernel
theorem d_b_kind_74 : decode c_b_kind 74 = .ok (.invokestatic 58, 3) := by decide +kernel
theorem d_b_kind_77 : decode c_b_kind 77 = .ok (.invokestatic 62, 3) := by decide +kernel
theorem d_b_kind_80 : decode c_b_kind 80 = .ok (.aload_n 0, 1) := by decide +kernel
theorem d_b_kind_81 : decode c_b_kind 81 = .ok (.getfield 12, 3) := by decide +kernel
theorem d_b_kind_84 : decode c_b_kind 84 = .ok (.iload_n 2, 1) := by decide +kernel
theorem d_b_kind_85 : decode c_b_kind 85 = .ok (.invokevirtual 78, 3) := by decide +kernel
theorem d_b_kind_88 : decode c_b_kind 88 = .ok (.istore 8, 2) := by decide +kernel
theorem d_b_kind_90 : decode c_b_kind 90 = .ok (.aload_n 0, 1) := by decide +kernel
theorem d_b_kind_91 : decode c_b_kind 91 = .ok (.getfield 12, 3) := by decide +kernel
theorem d_b_kind_94 : decode c_b_kind 94 = .ok (.iload 8, 2) := by decide +kernel
theorem d_b_kind_96 : decode c_b_kind 96 = .ok (.invokevirtual 82, 3) := by decide +kernel
theorem d_b_kind_99 : decode c_b_kind 99 = .ok (.aload_n 0, 1) := by decide +kernel
theorem d_b_kind_100 : decode c_b_kind 100 = .ok (.getfield 12, 3) := by decide +kernel
theorem d_b_kind_103 : decode c_b_kind 103 = .ok (.iload_n 1, 1) := by decide +kernel
theorem d_b_kind_104 : decode c_b_kind 104 = .ok (.iload_n 2, 1) := by decide +kernel
theorem d_b_kind_105 : decode c_b_kind 105 = .ok (.iload_n 3, 1) := by decide +kernel
theorem d_b_kind_106 : decode c_b_kind 106 = .ok (.iload 4, 2) := by decide +kernel
theorem d_b_kind_108 : decode c_b_kind 108 = .ok (.iload 5, 2) := by decide +kernel
theorem d_b_kind_110 : decode c_b_kind 110 = .ok (.iload 6, 2) := by decide +kernel
theorem d_b_kind_112 : decode c_b_kind 112 = .ok (.iload 7, 2) := by decide +kernel
theorem d_b_kind_114 : decode c_b_kind 114 = .ok (.invokevirtual 86, 3) := by decide +kernel
theorem d_b_kind_117 : decode c_b_kind 117 = .ok (.iload 8, 2) := by decide +kernel
theorem d_b_kind_119 : decode c_b_kind 119 = .ok (.ireturn, 1) := by decide +kernel
theorem d_co_rear_0 : decode c_co_rear 0 = .ok (.aload_n 0, 1) := by decide +kernel
theorem d_co_rear_1 : decode c_co_rear 1 = .ok (.getfield 30, 3) := by decide +kernel
theorem d_co_rear_4 : decode c_co_rear 4 = .ok (.aload_n 0, 1) := by decide +kernel
theorem d_co_rear_5 : decode c_co_rear 5 = .ok (.getfield 27, 3) := by decide +kernel
theorem d_co_rear_8 : decode c_co_rear 8 = .ok (.isub, 1) := by decide +kernel
theorem d_co_rear_9 : decode c_co_rear 9 = .ok (.ireturn, 1) := by decide +kernel
theorem d_co_forget_0 : decode c_co_forget 0 = .ok (.aload_n 0, 1) := by decide +kernel
theorem d_co_forget_1 : decode c_co_forget 1 = .ok (.getfield 14, 3) := by decide +kernel
theorem d_co_forget_4 : decode c_co_forget 4 = .ok (.iconst 0, 1) := by decide +kernel
theorem d_co_forget_5 : decode c_co_forget 5 = .ok (.putfield 40, 3) := by decide +kernel
theorem d_co_forget_8 : decode c_co_forget 8 = .ok (.aload_n 0, 1) := by decide +kernel
theorem d_co_forget_9 : decode c_co_forget 9 = .ok (.getfield 20, 3) := by decide +kernel
theorem d_co_forget_12 : decode c_co_forget 12 = .ok (.iconst 0, 1) := by decide +kernel
theorem d_co_forget_13 : decode c_co_forget 13 = .ok (.putfield 40, 3) := by decide +kernel
theorem d_co_forget_16 : decode c_co_forget 16 = .ok (.aload_n 0, 1) := by decide +kernel
theorem d_co_forget_17 : decode c_co_forget 17 = .ok (.iconst (-1), 1) := by decide +kernel
theorem d_co_forget_18 : decode c_co_forget 18 = .ok (.putfield 43, 3) := by decide +kernel
theorem d_co_forget_21 : decode c_co_forget 21 = .ok (.aload_n 0, 1) := by decide +kernel
theorem d_co_forget_22 : decode c_co_forget 22 = .ok (.iconst 0, 1) := by decide +kernel
theorem d_co_forget_23 : decode c_co_forget 23 = .ok (.putfield 46, 3) := by decide +kernel
theorem d_co_forget_26 : decode c_co_forget 26 = .ok (.aload_n 0, 1) := by decide +kernel
theorem d_co_forget_27 : decode c_co_forget 27 = .ok (.iconst (-1), 1) := by decide +kernel
theorem d_co_forget_28 : decode c_co_forget 28 = .ok (.putfield 49, 3) := by decide +kernel
theorem d_co_forget_31 : decode c_co_forget 31 = .ok (.return_, 1) := by decide +kernel
theorem d_co_begin_0 : decode c_co_begin 0 = .ok (.aload_n 0, 1) := by decide +kernel
theorem d_co_begin_1 : decode c_co_begin 1 = .ok (.iload_n 1, 1) := by decide +kernel
theorem d_co_begin_2 : decode c_co_begin 2 = .ok (.putfield 23, 3) := by decide +kernel
theorem d_co_begin_5 : decode c_co_begin 5 = .ok (.aload_n 0, 1) := by decide +kernel
theorem d_co_begin_6 : decode c_co_begin 6 = .ok (.iload_n 2, 1) := by decide +kernel
theorem d_co_begin_7 : decode c_co_begin 7 = .ok (.putfield 27, 3) := by decide +kernel
theorem d_co_begin_10 : decode c_co_begin 10 = .ok (.aload_n 0, 1) := by decide +kernel
theorem d_co_begin_11 : decode c_co_begin 11 = .ok (.iconst 0, 1) := by decide +kernel
theorem d_co_begin_12 : decode c_co_begin 12 = .ok (.putfield 30, 3) := by decide +kernel
theorem d_co_begin_15 : decode c_co_begin 15 = .ok (.aload_n 0, 1) := by decide +kernel
theorem d_co_begin_16 : decode c_co_begin 16 = .ok (.iconst 0, 1) := by decide +kernel
theorem d_co_begin_17 : decode c_co_begin 17 = .ok (.putfield 33, 3) := by decide +kernel
theorem d_co_begin_20 : decode c_co_begin 20 = .ok (.aload_n 0, 1) := by decide +kernel
theorem d_co_begin_21 : decode c_co_begin 21 = .ok (.invokevirtual 37, 3) := by decide +kernel
theorem d_co_begin_24 : decode c_co_begin 24 = .ok (.return_, 1) := by decide +kernel
theorem d_be_putIn_0 : decode c_be_putIn 0 = .ok (.aload_n 0, 1) := by decide +kernel
theorem d_be_putIn_1 : decode c_be_putIn 1 = .ok (.getfield 18, 3) := by decide +kernel
theorem d_be_putIn_4 : decode c_be_putIn 4 = .ok (.aload_n 0, 1) := by decide +kernel
theorem d_be_putIn_5 : decode c_be_putIn 5 = .ok (.getfield 11, 3) := by decide +kernel
theorem d_be_putIn_8 : decode c_be_putIn 8 = .ok (.arraylength, 1) := by decide +kernel
theorem d_be_putIn_9 : decode c_be_putIn 9 = .ok (.if_icmp .lt 5, 3) := by decide +kernel
theorem d_be_putIn_12 : decode c_be_putIn 12 = .ok (.iconst 0, 1) := by decide +kernel
theorem d_be_putIn_13 : decode c_be_putIn 13 = .ok (.ireturn, 1) := by decide +kernel
theorem d_be_putIn_14 : decode c_be_putIn 14 = .ok (.aload_n 0, 1) := by decide +kernel
theorem d_be_putIn_15 : decode c_be_putIn 15 = .ok (.getfield 18, 3) := by decide +kernel
theorem d_be_putIn_18 : decode c_be_putIn 18 = .ok (.ifCond .le 23, 3) := by decide +kernel
theorem d_be_putIn_21 : decode c_be_putIn 21 = .ok (.aload_n 0, 1) := by decide +kernel
theorem d_be_putIn_22 : decode c_be_putIn 22 = .ok (.getfield 11, 3) := by decide +kernel
theorem d_be_putIn_25 : decode c_be_putIn 25 = .ok (.aload_n 0, 1) := by decide +kernel
theorem d_be_putIn_26 : decode c_be_putIn 26 = .ok (.getfield 18, 3) := by decide +kernel
theorem d_be_putIn_29 : decode c_be_putIn 29 = .ok (.iconst 1, 1) := by decide +kernel
theorem d_be_putIn_30 : decode c_be_putIn 30 = .ok (.isub, 1) := by decide +kernel
theorem d_be_putIn_31 : decode c_be_putIn 31 = .ok (.aaload, 1) := by decide +kernel
theorem d_be_putIn_32 : decode c_be_putIn 32 = .ok (.invokevirtual 22, 3) := by decide +kernel
theorem d_be_putIn_35 : decode c_be_putIn 35 = .ok (.iconst 4, 1) := by decide +kernel
theorem d_be_putIn_36 : decode c_be_putIn 36 = .ok (.if_icmp .ge 5, 3) := by decide +kernel
theorem d_be_putIn_39 : decode c_be_putIn 39 = .ok (.iconst 0, 1) := by decide +kernel
theorem d_be_putIn_40 : decode c_be_putIn 40 = .ok (.ireturn, 1) := by decide +kernel
theorem d_be_putIn_41 : decode c_be_putIn 41 = .ok (.aload_n 0, 1) := by decide +kernel
theorem d_be_putIn_42 : decode c_be_putIn 42 = .ok (.dup, 1) := by decide +kernel
theorem d_be_putIn_43 : decode c_be_putIn 43 = .ok (.getfield 26, 3) := by decide +kernel
theorem d_be_putIn_46 : decode c_be_putIn 46 = .ok (.iconst 1, 1) := by decide +kernel
theorem d_be_putIn_47 : decode c_be_putIn 47 = .ok (.iadd, 1) := by decide +kernel
theorem d_be_putIn_48 : decode c_be_putIn 48 = .ok (.putfield 26, 3) := by decide +kernel
theorem d_be_putIn_51 : decode c_be_putIn 51 = .ok (.aload_n 0, 1) := by decide +kernel
theorem d_be_putIn_52 : decode c_be_putIn 52 = .ok (.getfield 11, 3) := by decide +kernel
theorem d_be_putIn_55 : decode c_be_putIn 55 = .ok (.aload_n 0, 1) := by decide +kernel
theorem d_be_putIn_56 : decode c_be_putIn 56 = .ok (.getfield 18, 3) := by decide +kernel
theorem d_be_putIn_59 : decode c_be_putIn 59 = .ok (.aaload, 1) := by decide +kernel
theorem d_be_putIn_60 : decode c_be_putIn 60 = .ok (.aload_n 0, 1) := by decide +kernel
theorem d_be_putIn_61 : decode c_be_putIn 61 = .ok (.getfield 26, 3) := by decide +kernel
theorem d_be_putIn_64 : decode c_be_putIn 64 = .ok (.iload_n 1, 1) := by decide +kernel
theorem d_be_putIn_65 : decode c_be_putIn 65 = .ok (.invokevirtual 29, 3) := by decide +kernel
theorem d_be_putIn_68 : decode c_be_putIn 68 = .ok (.aload_n 0, 1) := by decide +kernel
theorem d_be_putIn_69 : decode c_be_putIn 69 = .ok (.dup, 1) := by decide +kernel
theorem d_be_putIn_70 : decode c_be_putIn 70 = .ok (.getfield 18, 3) := by decide +kernel
theorem d_be_putIn_73 : decode c_be_putIn 73 = .ok (.iconst 1, 1) := by decide +kernel
theorem d_be_putIn_74 : decode c_be_putIn 74 = .ok (.iadd, 1) := by decide +kernel
theorem d_be_putIn_75 : decode c_be_putIn 75 = .ok (.putfield 18, 3) := by decide +kernel
theorem d_be_putIn_78 : decode c_be_putIn 78 = .ok (.aload_n 0, 1) := by decide +kernel
theorem d_be_putIn_79 : decode c_be_putIn 79 = .ok (.getfield 26, 3) := by decide +kernel
theorem d_be_putIn_82 : decode c_be_putIn 82 = .ok (.ireturn, 1) := by decide +kernel
theorem d_b_enter_0 : decode c_b_enter 0 = .ok (.aload_n 0, 1) := by decide +kernel
theorem d_b_enter_1 : decode c_b_enter 1 = .ok (.invokevirtual 55, 3) := by decide +kernel
theorem d_b_enter_4 : decode c_b_enter 4 = .ok (.iload_n 1, 1) := by decide +kernel
theorem d_b_enter_5 : decode c_b_enter 5 = .ok (.iconst 5, 1) := by decide +kernel
theorem d_b_enter_6 : decode c_b_enter 6 = .ok (.bipush 40, 2) := by decide +kernel
theorem d_b_enter_8 : decode c_b_enter 8 = .ok (.invokestatic 66, 3) := by decide +kernel
theorem d_b_enter_11 : decode c_b_enter 11 = .ok (.invokestatic 62, 3) := by decide +kernel
theorem d_b_enter_14 : decode c_b_enter 14 = .ok (.aload_n 0, 1) := by decide +kernel
theorem d_b_enter_15 : decode c_b_enter 15 = .ok (.getfield 19, 3) := by decide +kernel
theorem d_b_enter_18 : decode c_b_enter 18 = .ok (.iload_n 1, 1) := by decide +kernel
theorem d_b_enter_19 : decode c_b_enter 19 = .ok (.invokevirtual 90, 3) := by decide +kernel
theorem d_b_enter_22 : decode c_b_enter 22 = .ok (.ireturn, 1) := by decide +kernel
theorem d_co_isOver_0 : decode c_co_isOver 0 = .ok (.aload_n 0, 1) := by decide +kernel
theorem d_co_isOver_1 : decode c_co_isOver 1 = .ok (.invokevirtual 52, 3) := by decide +kernel
theorem d_co_isOver_4 : decode c_co_isOver 4 = .ok (.iload_n 1, 1) := by decide +kernel
theorem d_co_isOver_5 : decode c_co_isOver 5 = .ok (.if_icmp .ge 15, 3) := by decide +kernel
theorem d_co_isOver_8 : decode c_co_isOver 8 = .ok (.aload_n 0, 1) := by decide +kernel
theorem d_co_isOver_9 : decode c_co_isOver 9 = .ok (.getfield 30, 3) := by decide +kernel
theorem d_co_isOver_12 : decode c_co_isOver 12 = .ok (.iload_n 1, 1) := by decide +kernel
theorem d_co_isOver_13 : decode c_co_isOver 13 = .ok (.if_icmp .lt 7, 3) := by decide +kernel
theorem d_co_isOver_16 : decode c_co_isOver 16 = .ok (.iconst 1, 1) := by decide +kernel
theorem d_co_isOver_17 : decode c_co_isOver 17 = .ok (.goto 4, 3) := by decide +kernel
theorem d_co_isOver_20 : decode c_co_isOver 20 = .ok (.iconst 0, 1) := by decide +kernel
theorem d_co_isOver_21 : decode c_co_isOver 21 = .ok (.ireturn, 1) := by decide +kernel
theorem d_be_over_0 : decode c_be_over 0 = .ok (.iconst 0, 1) := by decide +kernel
theorem d_be_over_1 : decode c_be_over 1 = .ok (.istore_n 2, 1) := by decide +kernel
theorem d_be_over_2 : decode c_be_over 2 = .ok (.iload_n 2, 1) := by decide +kernel
theorem d_be_over_3 : decode c_be_over 3 = .ok (.aload_n 0, 1) := by decide +kernel
theorem d_be_over_4 : decode c_be_over 4 = .ok (.getfield 18, 3) := by decide +kernel
theorem d_be_over_7 : decode c_be_over 7 = .ok (.if_icmp .ge 29, 3) := by decide +kernel
theorem d_be_over_10 : decode c_be_over 10 = .ok (.aload_n 0, 1) := by decide +kernel
theorem d_be_over_11 : decode c_be_over 11 = .ok (.getfield 11, 3) := by decide +kernel
theorem d_be_over_14 : decode c_be_over 14 = .ok (.iload_n 2, 1) := by decide +kernel
theorem d_be_over_15 : decode c_be_over 15 = .ok (.aaload, 1) := by decide +kernel
theorem d_be_over_16 : decode c_be_over 16 = .ok (.iload_n 1, 1) := by decide +kernel
theorem d_be_over_17 : decode c_be_over 17 = .ok (.invokevirtual 33, 3) := by decide +kernel
theorem d_be_over_20 : decode c_be_over 20 = .ok (.ifCond .eq 10, 3) := by decide +kernel
theorem d_be_over_23 : decode c_be_over 23 = .ok (.aload_n 0, 1) := by decide +kernel
theorem d_be_over_24 : decode c_be_over 24 = .ok (.getfield 11, 3) := by decide +kernel
theorem d_be_over_27 : decode c_be_over 27 = .ok (.iload_n 2, 1) := by decide +kernel
theorem d_be_over_28 : decode c_be_over 28 = .ok (.aaload, 1) := by decide +kernel
theorem d_be_over_29 : decode c_be_over 29 = .ok (.areturn, 1) := by decide +kernel
theorem d_be_over_30 : decode c_be_over 30 = .ok (.iinc 2 1, 3) := by decide +kernel
theorem d_be_over_33 : decode c_be_over 33 = .ok (.goto (-31), 3) := by decide +kernel
theorem d_be_over_36 : decode c_be_over 36 = .ok (.aconst_null, 1) := by decide +kernel
theorem d_be_over_37 : decode c_be_over 37 = .ok (.areturn, 1) := by decide +kernel
theorem d_ro_isFull_0 : decode c_ro_isFull 0 = .ok (.aload_n 0, 1) := by decide +kernel
theorem d_ro_isFull_1 : decode c_ro_isFull 1 = .ok (.getfield 13, 3) := by decide +kernel
theorem d_ro_isFull_4 : decode c_ro_isFull 4 = .ok (.aload_n 0, 1) := by decide +kernel
theorem d_ro_isFull_5 : decode c_ro_isFull 5 = .ok (.getfield 7, 3) := by decide +kernel
theorem d_ro_isFull_8 : decode c_ro_isFull 8 = .ok (.arraylength, 1) := by decide +kernel
theorem d_ro_isFull_9 : decode c_ro_isFull 9 = .ok (.if_icmp .lt 7, 3) := by decide +kernel
theorem d_ro_isFull_12 : decode c_ro_isFull 12 = .ok (.iconst 1, 1) := by decide +kernel
theorem d_ro_isFull_13 : decode c_ro_isFull 13 = .ok (.goto 4, 3) := by decide +kernel
theorem d_ro_isFull_16 : decode c_ro_isFull 16 = .ok (.iconst 0, 1) := by decide +kernel
theorem d_ro_isFull_17 : decode c_ro_isFull 17 = .ok (.ireturn, 1) := by decide +kernel
theorem d_ro_take_0 : decode c_ro_take 0 = .ok (.aload_n 0, 1) := by decide +kernel
theorem d_ro_take_1 : decode c_ro_take 1 = .ok (.invokevirtual 17, 3) := by decide +kernel
theorem d_ro_take_4 : decode c_ro_take 4 = .ok (.ifCond .eq 5, 3) := by decide +kernel
theorem d_ro_take_7 : decode c_ro_take 7 = .ok (.iconst 0, 1) := by decide +kernel
theorem d_ro_take_8 : decode c_ro_take 8 = .ok (.ireturn, 1) := by decide +kernel
theorem d_ro_take_9 : decode c_ro_take 9 = .ok (.aload_n 0, 1) := by decide +kernel
theorem d_ro_take_10 : decode c_ro_take 10 = .ok (.getfield 7, 3) := by decide +kernel
theorem d_ro_take_13 : decode c_ro_take 13 = .ok (.aload_n 0, 1) := by decide +kernel
theorem d_ro_take_14 : decode c_ro_take 14 = .ok (.getfield 13, 3) := by decide +kernel
theorem d_ro_take_17 : decode c_ro_take 17 = .ok (.iload_n 1, 1) := by decide +kernel
theorem d_ro_take_18 : decode c_ro_take 18 = .ok (.iastore, 1) := by decide +kernel
theorem d_ro_take_19 : decode c_ro_take 19 = .ok (.aload_n 0, 1) := by decide +kernel
theorem d_ro_take_20 : decode c_ro_take 20 = .ok (.dup, 1) := by decide +kernel
theorem d_ro_take_21 : decode c_ro_take 21 = .ok (.getfield 13, 3) := by decide +kernel
theorem d_ro_take_24 : decode c_ro_take 24 = .ok (.iconst 1, 1) := by decide +kernel
theorem d_ro_take_25 : decode c_ro_take 25 = .ok (.iadd, 1) := by decide +kernel
theorem d_ro_take_26 : decode c_ro_take 26 = .ok (.putfield 13, 3) := by decide +kernel
theorem d_ro_take_29 : decode c_ro_take 29 = .ok (.iconst 1, 1) := by decide +kernel
theorem d_ro_take_30 : decode c_ro_take 30 = .ok (.ireturn, 1) := by decide +kernel
theorem d_b_code_0 : decode c_b_code 0 = .ok (.aload_n 0, 1) := by decide +kernel
theorem d_b_code_1 : decode c_b_code 1 = .ok (.invokevirtual 55, 3) := by decide +kernel
theorem d_b_code_4 : decode c_b_code 4 = .ok (.iload_n 1, 1) := by decide +kernel
theorem d_b_code_5 : decode c_b_code 5 = .ok (.iconst 1, 1) := by decide +kernel
theorem d_b_code_6 : decode c_b_code 6 = .ok (.ldc 77, 2) := by decide +kernel
theorem d_b_code_8 : decode c_b_code 8 = .ok (.invokestatic 66, 3) := by decide +kernel
theorem d_b_code_11 : decode c_b_code 11 = .ok (.invokestatic 62, 3) := by decide +kernel
theorem d_b_code_14 : decode c_b_code 14 = .ok (.aload_n 0, 1) := by decide +kernel
theorem d_b_code_15 : decode c_b_code 15 = .ok (.getfield 19, 3) := by decide +kernel
theorem d_b_code_18 : decode c_b_code 18 = .ok (.bipush 15, 2) := by decide +kernel
theorem d_b_code_20 : decode c_b_code 20 = .ok (.invokevirtual 93, 3) := by decide +kernel
theorem d_b_code_23 : decode c_b_code 23 = .ok (.astore_n 2, 1) := by decide +kernel
theorem d_b_code_24 : decode c_b_code 24 = .ok (.aload_n 2, 1) := by decide +kernel
theorem d_b_code_25 : decode c_b_code 25 = .ok (.ifnull 18, 3) := by decide +kernel
theorem d_b_code_28 : decode c_b_code 28 = .ok (.aload_n 2, 1) := by decide +kernel
theorem d_b_code_29 : decode c_b_code 29 = .ok (.getfield 97, 3) := by decide +kernel
theorem d_b_code_32 : decode c_b_code 32 = .ok (.iload_n 1, 1) := by decide +kernel
theorem d_b_code_33 : decode c_b_code 33 = .ok (.invokevirtual 103, 3) := by decide +kernel
theorem d_b_code_36 : decode c_b_code 36 = .ok (.ifCond .eq 7, 3) := by decide +kernel
theorem d_b_code_39 : decode c_b_code 39 = .ok (.iconst 1, 1) := by decide +kernel
theorem d_b_code_40 : decode c_b_code 40 = .ok (.goto 4, 3) := by decide +kernel
theorem d_b_code_43 : decode c_b_code 43 = .ok (.iconst 0, 1) := by decide +kernel
theorem d_b_code_44 : decode c_b_code 44 = .ok (.ireturn, 1) := by decide +kernel
theorem d_b_width_0 : decode c_b_width 0 = .ok (.aload_n 0, 1) := by decide +kernel
theorem d_b_width_1 : decode c_b_width 1 = .ok (.invokevirtual 55, 3) := by decide +kernel
theorem d_b_width_4 : decode c_b_width 4 = .ok (.iload_n 1, 1) := by decide +kernel
theorem d_b_width_5 : decode c_b_width 5 = .ok (.iconst 0, 1) := by decide +kernel
theorem d_b_width_6 : decode c_b_width 6 = .ok (.sipush 255, 3) := by decide +kernel
theorem d_b_width_9 : decode c_b_width 9 = .ok (.invokestatic 66, 3) := by decide +kernel
theorem d_b_width_12 : decode c_b_width 12 = .ok (.invokestatic 62, 3) := by decide +kernel
theorem d_b_width_15 : decode c_b_width 15 = .ok (.aload_n 0, 1) := by decide +kernel
theorem d_b_width_16 : decode c_b_width 16 = .ok (.getfield 19, 3) := by decide +kernel
theorem d_b_width_19 : decode c_b_width 19 = .ok (.bipush 30, 2) := by decide +kernel
theorem d_b_width_21 : decode c_b_width 21 = .ok (.invokevirtual 93, 3) := by decide +kernel
theorem d_b_width_24 : decode c_b_width 24 = .ok (.astore_n 2, 1) := by decide +kernel
theorem d_b_width_25 : decode c_b_width 25 = .ok (.aload_n 2, 1) := by decide +kernel
theorem d_b_width_26 : decode c_b_width 26 = .ok (.ifnull 18, 3) := by decide +kernel
theorem d_b_width_29 : decode c_b_width 29 = .ok (.aload_n 2, 1) := by decide +kernel
theorem d_b_width_30 : decode c_b_width 30 = .ok (.getfield 109, 3) := by decide +kernel
theorem d_b_width_33 : decode c_b_width 33 = .ok (.iload_n 1, 1) := by decide +kernel
theorem d_b_width_34 : decode c_b_width 34 = .ok (.invokevirtual 103, 3) := by decide +kernel
theorem d_b_width_37 : decode c_b_width 37 = .ok (.ifCond .eq 7, 3) := by decide +kernel
theorem d_b_width_40 : decode c_b_width 40 = .ok (.iconst 1, 1) := by decide +kernel
theorem d_b_width_41 : decode c_b_width 41 = .ok (.goto 4, 3) := by decide +kernel
theorem d_b_width_44 : decode c_b_width 44 = .ok (.iconst 0, 1) := by decide +kernel
theorem d_b_width_45 : decode c_b_width 45 = .ok (.ireturn, 1) := by decide +kernel
theorem d_b_weigh_0 : decode c_b_weigh 0 = .ok (.aload_n 0, 1) := by decide +kernel
theorem d_b_weigh_1 : decode c_b_weigh 1 = .ok (.invokevirtual 55, 3) := by decide +kernel
theorem d_b_weigh_4 : decode c_b_weigh 4 = .ok (.iload_n 1, 1) := by decide +kernel
theorem d_b_weigh_5 : decode c_b_weigh 5 = .ok (.iconst 0, 1) := by decide +kernel
theorem d_b_weigh_6 : decode c_b_weigh 6 = .ok (.sipush 5000, 3) := by decide +kernel
theorem d_b_weigh_9 : decode c_b_weigh 9 = .ok (.invokestatic 66, 3) := by decide +kernel
theorem d_b_weigh_12 : decode c_b_weigh 12 = .ok (.invokestatic 62, 3) := by decide +kernel
theorem d_b_weigh_15 : decode c_b_weigh 15 = .ok (.aload_n 0, 1) := by decide +kernel
theorem d_b_weigh_16 : decode c_b_weigh 16 = .ok (.getfield 19, 3) := by decide +kernel
theorem d_b_weigh_19 : decode c_b_weigh 19 = .ok (.bipush 45, 2) := by decide +kernel
theorem d_b_weigh_21 : decode c_b_weigh 21 = .ok (.invokevirtual 93, 3) := by decide +kernel
theorem d_b_weigh_24 : decode c_b_weigh 24 = .ok (.astore_n 2, 1) := by decide +kernel
theorem d_b_weigh_25 : decode c_b_weigh 25 = .ok (.aload_n 2, 1) := by decide +kernel
theorem d_b_weigh_26 : decode c_b_weigh 26 = .ok (.ifnonnull 5, 3) := by decide +kernel
theorem d_b_weigh_29 : decode c_b_weigh 29 = .ok (.iconst 0, 1) := by decide +kernel
theorem d_b_weigh_30 : decode c_b_weigh 30 = .ok (.ireturn, 1) := by decide +kernel
theorem d_b_weigh_31 : decode c_b_weigh 31 = .ok (.aload_n 2, 1) := by decide +kernel
theorem d_b_weigh_32 : decode c_b_weigh 32 = .ok (.iload_n 1, 1) := by decide +kernel
theorem d_b_weigh_33 : decode c_b_weigh 33 = .ok (.putfield 112, 3) := by decide +kernel
theorem d_b_weigh_36 : decode c_b_weigh 36 = .ok (.iconst 1, 1) := by decide +kernel
theorem d_b_weigh_37 : decode c_b_weigh 37 = .ok (.ireturn, 1) := by decide +kernel
theorem d_be_isBlocked_0 : decode c_be_isBlocked 0 = .ok (.iconst 0, 1) := by decide +kernel
theorem d_be_isBlocked_1 : decode c_be_isBlocked 1 = .ok (.istore_n 1, 1) := by decide +kernel
theorem d_be_isBlocked_2 : decode c_be_isBlocked 2 = .ok (.iload_n 1, 1) := by decide +kernel
theorem d_be_isBlocked_3 : decode c_be_isBlocked 3 = .ok (.aload_n 0, 1) := by decide +kernel
theorem d_be_isBlocked_4 : decode c_be_isBlocked 4 = .ok (.getfield 18, 3) := by decide +kernel
theorem d_be_isBlocked_7 : decode c_be_isBlocked 7 = .ok (.if_icmp .ge 39, 3) := by decide +kernel
theorem d_be_isBlocked_10 : decode c_be_isBlocked 10 = .ok (.aload_n 0, 1) := by decide +kernel
theorem d_be_isBlocked_11 : decode c_be_isBlocked 11 = .ok (.getfield 11, 3) := by decide +kernel
theorem d_be_isBlocked_14 : decode c_be_isBlocked 14 = .ok (.iload_n 1, 1) := by decide +kernel
theorem d_be_isBlocked_15 : decode c_be_isBlocked 15 = .ok (.aaload, 1) := by decide +kernel
theorem d_be_isBlocked_16 : decode c_be_isBlocked 16 = .ok (.getfield 40, 3) := by decide +kernel
theorem d_be_isBlocked_19 : decode c_be_isBlocked 19 = .ok (.bipush 104, 2) := by decide +kernel
theorem d_be_isBlocked_21 : decode c_be_isBlocked 21 = .ok (.if_icmp .ne 19, 3) := by decide +kernel
theorem d_be_isBlocked_24 : decode c_be_isBlocked 24 = .ok (.aload_n 0, 1) := by decide +kernel
theorem d_be_isBlocked_25 : decode c_be_isBlocked 25 = .ok (.getfield 11, 3) := by decide +kernel
theorem d_be_isBlocked_28 : decode c_be_isBlocked 28 = .ok (.iload_n 1, 1) := by decide +kernel
theorem d_be_isBlocked_29 : decode c_be_isBlocked 29 = .ok (.aaload, 1) := by decide +kernel
theorem d_be_isBlocked_30 : decode c_be_isBlocked 30 = .ok (.getfield 43, 3) := by decide +kernel
theorem d_be_isBlocked_33 : decode c_be_isBlocked 33 = .ok (.bipush 10, 2) := by decide +kernel
theorem d_be_isBlocked_35 : decode c_be_isBlocked 35 = .ok (.if_icmp .eq 5, 3) := by decide +kernel
theorem d_be_isBlocked_38 : decode c_be_isBlocked 38 = .ok (.iconst 1, 1) := by decide +kernel
theorem d_be_isBlocked_39 : decode c_be_isBlocked 39 = .ok (.ireturn, 1) := by decide +kernel
theorem d_be_isBlocked_40 : decode c_be_isBlocked 40 = .ok (.iinc 1 1, 3) := by decide +kernel
theorem d_be_isBlocked_43 : decode c_be_isBlocked 43 = .ok (.goto (-41), 3) := by decide +kernel
theorem d_be_isBlocked_46 : decode c_be_isBlocked 46 = .ok (.iconst 0, 1) := by decide +kernel
theorem d_be_isBlocked_47 : decode c_be_isBlocked 47 = .ok (.ireturn, 1) := by decide +kernel
theorem d_be_moveUp_0 : decode c_be_moveUp 0 = .ok (.iconst 0, 1) := by decide +kernel
theorem d_be_moveUp_1 : decode c_be_moveUp 1 = .ok (.istore_n 1, 1) := by decide +kernel
theorem d_be_moveUp_2 : decode c_be_moveUp 2 = .ok (.iload_n 1, 1) := by decide +kernel
theorem d_be_moveUp_3 : decode c_be_moveUp 3 = .ok (.aload_n 0, 1) := by decide +kernel
theorem d_be_moveUp_4 : decode c_be_moveUp 4 = .ok (.getfield 18, 3) := by decide +kernel
theorem d_be_moveUp_7 : decode c_be_moveUp 7 = .ok (.if_icmp .ge 24, 3) := by decide +kernel
theorem d_be_moveUp_10 : decode c_be_moveUp 10 = .ok (.aload_n 0, 1) := by decide +kernel
theorem d_be_moveUp_11 : decode c_be_moveUp 11 = .ok (.getfield 11, 3) := by decide +kernel
theorem d_be_moveUp_14 : decode c_be_moveUp 14 = .ok (.iload_n 1, 1) := by decide +kernel
theorem d_be_moveUp_15 : decode c_be_moveUp 15 = .ok (.aaload, 1) := by decide +kernel
theorem d_be_moveUp_16 : decode c_be_moveUp 16 = .ok (.dup, 1) := by decide +kernel
theorem d_be_moveUp_17 : decode c_be_moveUp 17 = .ok (.getfield 40, 3) := by decide +kernel
theorem d_be_moveUp_20 : decode c_be_moveUp 20 = .ok (.iconst 1, 1) := by decide +kernel
theorem d_be_moveUp_21 : decode c_be_moveUp 21 = .ok (.iadd, 1) := by decide +kernel
theorem d_be_moveUp_22 : decode c_be_moveUp 22 = .ok (.putfield 40, 3) := by decide +kernel
theorem d_be_moveUp_25 : decode c_be_moveUp 25 = .ok (.iinc 1 1, 3) := by decide +kernel
theorem d_be_moveUp_28 : decode c_be_moveUp 28 = .ok (.goto (-26), 3) := by decide +kernel
theorem d_be_moveUp_31 : decode c_be_moveUp 31 = .ok (.return_, 1) := by decide +kernel
theorem d_ca_kindOf_0 : decode c_ca_kindOf 0 = .ok (.aload_n 1, 1) := by decide +kernel
theorem d_ca_kindOf_1 : decode c_ca_kindOf 1 = .ok (.getfield 38, 3) := by decide +kernel
theorem d_ca_kindOf_4 : decode c_ca_kindOf 4 = .ok (.getfield 43, 3) := by decide +kernel
theorem d_ca_kindOf_7 : decode c_ca_kindOf 7 = .ok (.ifCond .ne 7, 3) := by decide +kernel
theorem d_ca_kindOf_10 : decode c_ca_kindOf 10 = .ok (.iconst (-1), 1) := by decide +kernel
theorem d_ca_kindOf_11 : decode c_ca_kindOf 11 = .ok (.goto 16, 3) := by decide +kernel
theorem d_ca_kindOf_14 : decode c_ca_kindOf 14 = .ok (.aload_n 0, 1) := by decide +kernel
theorem d_ca_kindOf_15 : decode c_ca_kindOf 15 = .ok (.aload_n 1, 1) := by decide +kernel
theorem d_ca_kindOf_16 : decode c_ca_kindOf 16 = .ok (.getfield 38, 3) := by decide +kernel
theorem d_ca_kindOf_19 : decode c_ca_kindOf 19 = .ok (.getfield 49, 3) := by decide +kernel
theorem d_ca_kindOf_22 : decode c_ca_kindOf 22 = .ok (.iconst 0, 1) := by decide +kernel
theorem d_ca_kindOf_23 : decode c_ca_kindOf 23 = .ok (.iaload, 1) := by decide +kernel
theorem d_ca_kindOf_24 : decode c_ca_kindOf 24 = .ok (.invokevirtual 52, 3) := by decide +kernel
theorem d_ca_kindOf_27 : decode c_ca_kindOf 27 = .ok (.ireturn, 1) := by decide +kernel
theorem d_ro_isUniform_0 : decode c_ro_isUniform 0 = .ok (.iconst 1, 1) := by decide +kernel
theorem d_ro_isUniform_1 : decode c_ro_isUniform 1 = .ok (.istore_n 1, 1) := by decide +kernel
theorem d_ro_isUniform_2 : decode c_ro_isUniform 2 = .ok (.iload_n 1, 1) := by decide +kernel
theorem d_ro_isUniform_3 : decode c_ro_isUniform 3 = .ok (.aload_n 0, 1) := by decide +kernel
theorem d_ro_isUniform_4 : decode c_ro_isUniform 4 = .ok (.getfield 13, 3) := by decide +kernel
theorem d_ro_isUniform_7 : decode c_ro_isUniform 7 = .ok (.if_icmp .ge 26, 3) := by decide +kernel
theorem d_ro_isUniform_10 : decode c_ro_isUniform 10 = .ok (.aload_n 0, 1) := by decide +kernel
theorem d_ro_isUniform_11 : decode c_ro_isUniform 11 = .ok (.getfield 7, 3) := by decide +kernel
theorem d_ro_isUniform_14 : decode c_ro_isUniform 14 = .ok (.iload_n 1, 1) := by decide +kernel
theorem d_ro_isUniform_15 : decode c_ro_isUniform 15 = .ok (.iaload, 1) := by decide +kernel
theorem d_ro_isUniform_16 : decode c_ro_isUniform 16 = .ok (.aload_n 0, 1) := by decide +kernel
theorem d_ro_isUniform_17 : decode c_ro_isUniform 17 = .ok (.getfield 7, 3) := by decide +kernel
theorem d_ro_isUniform_20 : decode c_ro_isUniform 20 = .ok (.iconst 0, 1) := by decide +kernel
theorem d_ro_isUniform_21 : decode c_ro_isUniform 21 = .ok (.iaload, 1) := by decide +kernel
theorem d_ro_isUniform_22 : decode c_ro_isUniform 22 = .ok (.if_icmp .eq 5, 3) := by decide +kernel
theorem d_ro_isUniform_25 : decode c_ro_isUniform 25 = .ok (.iconst 0, 1) := by decide +kernel
theorem d_ro_isUniform_26 : decode c_ro_isUniform 26 = .ok (.ireturn, 1) := by decide +kernel
theorem d_ro_isUniform_27 : decode c_ro_isUniform 27 = .ok (.iinc 1 1, 3) := by decide +kernel
theorem d_ro_isUniform_30 : decode c_ro_isUniform 30 = .ok (.goto (-28), 3) := by decide +kernel
theorem d_ro_isUniform_33 : decode c_ro_isUniform 33 = .ok (.iconst 1, 1) := by decide +kernel
theorem d_ro_isUniform_34 : decode c_ro_isUniform 34 = .ok (.ireturn, 1) := by decide +kernel
theorem d_ca_allowsWeight_0 : decode c_ca_allowsWeight 0 = .ok (.iload_n 2, 1) := by decide +kernel
theorem d_ca_allowsWeight_1 : decode c_ca_allowsWeight 1 = .ok (.iconst (-1), 1) := by decide +kernel
theorem d_ca_allowsWeight_2 : decode c_ca_allowsWeight 2 = .ok (.if_icmp .eq 26, 3) := by decide +kernel
theorem d_ca_allowsWeight_5 : decode c_ca_allowsWeight 5 = .ok (.iload_n 2, 1) := by decide +kernel
theorem d_ca_allowsWeight_6 : decode c_ca_allowsWeight 6 = .ok (.aload_n 0, 1) := by decide +kernel
theorem d_ca_allowsWeight_7 : decode c_ca_allowsWeight 7 = .ok (.getfield 21, 3) := by decide +kernel
theorem d_ca_allowsWeight_10 : decode c_ca_allowsWeight 10 = .ok (.iload_n 1, 1) := by decide +kernel
theorem d_ca_allowsWeight_11 : decode c_ca_allowsWeight 11 = .ok (.iaload, 1) := by decide +kernel
theorem d_ca_allowsWeight_12 : decode c_ca_allowsWeight 12 = .ok (.aload_n 0, 1) := by decide +kernel
theorem d_ca_allowsWeight_13 : decode c_ca_allowsWeight 13 = .ok (.getfield 24, 3) := by decide +kernel
theorem d_ca_allowsWeight_16 : decode c_ca_allowsWeight 16 = .ok (.iload_n 1, 1) := by decide +kernel
theorem d_ca_allowsWeight_17 : decode c_ca_allowsWeight 17 = .ok (.iaload, 1) := by decide +kernel
theorem d_ca_allowsWeight_18 : decode c_ca_allowsWeight 18 = .ok (.invokestatic 56, 3) := by decide +kernel
theorem d_ca_allowsWeight_21 : decode c_ca_allowsWeight 21 = .ok (.ifCond .eq 7, 3) := by decide +kernel
theorem d_ca_allowsWeight_24 : decode c_ca_allowsWeight 24 = .ok (.iconst 1, 1) := by decide +kernel
theorem d_ca_allowsWeight_25 : decode c_ca_allowsWeight 25 = .ok (.goto 4, 3) := by decide +kernel
theorem d_ca_allowsWeight_28 : decode c_ca_allowsWeight 28 = .ok (.iconst 0, 1) := by decide +kernel
theorem d_ca_allowsWeight_29 : decode c_ca_allowsWeight 29 = .ok (.ireturn, 1) := by decide +kernel
theorem d_ca_allowsWidths_0 : decode c_ca_allowsWidths 0 = .ok (.aload_n 2, 1) := by decide +kernel
theorem d_ca_allowsWidths_1 : decode c_ca_allowsWidths 1 = .ok (.invokevirtual 60, 3) := by decide +kernel
theorem d_ca_allowsWidths_4 : decode c_ca_allowsWidths 4 = .ok (.ifCond .ne 5, 3) := by decide +kernel
theorem d_ca_allowsWidths_7 : decode c_ca_allowsWidths 7 = .ok (.iconst 0, 1) := by decide +kernel
theorem d_ca_allowsWidths_8 : decode c_ca_allowsWidths 8 = .ok (.ireturn, 1) := by decide +kernel
theorem d_ca_allowsWidths_9 : decode c_ca_allowsWidths 9 = .ok (.aload_n 0, 1) := by decide +kernel
theorem d_ca_allowsWidths_10 : decode c_ca_allowsWidths 10 = .ok (.getfield 27, 3) := by decide +kernel
theorem d_ca_allowsWidths_13 : decode c_ca_allowsWidths 13 = .ok (.iload_n 1, 1) := by decide +kernel
theorem d_ca_allowsWidths_14 : decode c_ca_allowsWidths 14 = .ok (.iaload, 1) := by decide +kernel
theorem d_ca_allowsWidths_15 : decode c_ca_allowsWidths 15 = .ok (.istore_n 3, 1) := by decide +kernel
theorem d_ca_allowsWidths_16 : decode c_ca_allowsWidths 16 = .ok (.iconst 0, 1) := by decide +kernel
theorem d_ca_allowsWidths_17 : decode c_ca_allowsWidths 17 = .ok (.istore 4, 2) := by decide +kernel
theorem d_ca_allowsWidths_19 : decode c_ca_allowsWidths 19 = .ok (.iconst 0, 1) := by decide +kernel
theorem d_ca_allowsWidths_20 : decode c_ca_allowsWidths 20 = .ok (.istore 5, 2) := by decide +kernel
theorem d_ca_allowsWidths_22 : decode c_ca_allowsWidths 22 = .ok (.iload 5, 2) := by decide +kernel
theorem d_ca_allowsWidths_24 : decode c_ca_allowsWidths 24 = .ok (.bipush 8, 2) := by decide +kernel
theorem d_ca_allowsWidths_26 : decode c_ca_allowsWidths 26 = .ok (.if_icmp .ge 34, 3) := by decide +kernel
theorem d_ca_allowsWidths_29 : decode c_ca_allowsWidths 29 = .ok (.iload 4, 2) := by decide +kernel
theorem d_ca_allowsWidths_31 : decode c_ca_allowsWidths 31 = .ok (.aload_n 2, 1) := by decide +kernel
theorem d_ca_allowsWidths_32 : decode c_ca_allowsWidths 32 = .ok (.getfield 49, 3) := by decide +kernel
theorem d_ca_allowsWidths_35 : decode c_ca_allowsWidths 35 = .ok (.iload 5, 2) := by decide +kernel
theorem d_ca_allowsWidths_37 : decode c_ca_allowsWidths 37 = .ok (.iaload, 1) := by decide +kernel
theorem d_ca_allowsWidths_38 : decode c_ca_allowsWidths 38 = .ok (.aload_n 0, 1) := by decide +kernel
theorem d_ca_allowsWidths_39 : decode c_ca_allowsWidths 39 = .ok (.getfield 32, 3) := by decide +kernel
theorem d_ca_allowsWidths_42 : decode c_ca_allowsWidths 42 = .ok (.iload_n 3, 1) := by decide +kernel
theorem d_ca_allowsWidths_43 : decode c_ca_allowsWidths 43 = .ok (.aaload, 1) := by decide +kernel
theorem d_ca_allowsWidths_44 : decode c_ca_allowsWidths 44 = .ok (.iload 5, 2) := by decide +kernel
theorem d_ca_allowsWidths_46 : decode c_ca_allowsWidths 46 = .ok (.iaload, 1) := by decide +kernel
theorem d_ca_allowsWidths_47 : decode c_ca_allowsWidths 47 = .ok (.isub, 1) := by decide +kernel
theorem d_ca_allowsWidths_48 : decode c_ca_allowsWidths 48 = .ok (.invokestatic 64, 3) := by decide +kernel
theorem d_ca_allowsWidths_51 : decode c_ca_allowsWidths 51 = .ok (.iadd, 1) := by decide +kernel
theorem d_ca_allowsWidths_52 : decode c_ca_allowsWidths 52 = .ok (.istore 4, 2) := by decide +kernel
theorem d_ca_allowsWidths_54 : decode c_ca_allowsWidths 54 = .ok (.iinc 5 1, 3) := by decide +kernel
theorem d_ca_allowsWidths_57 : decode c_ca_allowsWidths 57 = .ok (.goto (-35), 3) := by decide +kernel
theorem d_ca_allowsWidths_60 : decode c_ca_allowsWidths 60 = .ok (.iload 4, 2) := by decide +kernel
theorem d_ca_allowsWidths_62 : decode c_ca_allowsWidths 62 = .ok (.aload_n 0, 1) := by decide +kernel
theorem d_ca_allowsWidths_63 : decode c_ca_allowsWidths 63 = .ok (.getfield 35, 3) := by decide +kernel
theorem d_ca_allowsWidths_66 : decode c_ca_allowsWidths 66 = .ok (.iload_n 3, 1) := by decide +kernel
theorem d_ca_allowsWidths_67 : decode c_ca_allowsWidths 67 = .ok (.iaload, 1) := by decide +kernel
theorem d_ca_allowsWidths_68 : decode c_ca_allowsWidths 68 = .ok (.if_icmp .gt 7, 3) := by decide +kernel
theorem d_ca_allowsWidths_71 : decode c_ca_allowsWidths 71 = .ok (.iconst 1, 1) := by decide +kernel
theorem d_ca_allowsWidths_72 : decode c_ca_allowsWidths 72 = .ok (.goto 4, 3) := by decide +kernel
theorem d_ca_allowsWidths_75 : decode c_ca_allowsWidths 75 = .ok (.iconst 0, 1) := by decide +kernel
theorem d_ca_allowsWidths_76 : decode c_ca_allowsWidths 76 = .ok (.ireturn, 1) := by decide +kernel
theorem d_b_judgementByReadings_0 : decode c_b_judgementByReadings 0 = .ok (.aload_n 1, 1) := by decide +kernel
theorem d_b_judgementByReadings_1 : decode c_b_judgementByReadings 1 = .ok (.getfield 97, 3) := by decide +kernel
theorem d_b_judgementByReadings_4 : decode c_b_judgementByReadings 4 = .ok (.getfield 231, 3) := by decide +kernel
theorem d_b_judgementByReadings_7 : decode c_b_judgementByReadings 7 = .ok (.ifCond .ne 5, 3) := by decide +kernel
theorem d_b_judgementByReadings_10 : decode c_b_judgementByReadings 10 = .ok (.iconst 1, 1) := by decide +kernel
theorem d_b_judgementByReadings_11 : decode c_b_judgementByReadings 11 = .ok (.ireturn, 1) := by decide +kernel
theorem d_b_judgementByReadings_12 : decode c_b_judgementByReadings 12 = .ok (.aload_n 1, 1) := by decide +kernel
theorem d_b_judgementByReadings_13 : decode c_b_judgementByReadings 13 = .ok (.getfield 97, 3) := by decide +kernel
theorem d_b_judgementByReadings_16 : decode c_b_judgementByReadings 16 = .ok (.invokevirtual 285, 3) := by decide +kernel
theorem d_b_judgementByReadings_19 : decode c_b_judgementByReadings 19 = .ok (.ifCond .ne 5, 3) := by decide +kernel
theorem d_b_judgementByReadings_22 : decode c_b_judgementByReadings 22 = .ok (.iconst 2, 1) := by decide +kernel
theorem d_b_judgementByReadings_23 : decode c_b_judgementByReadings 23 = .ok (.ireturn, 1) := by decide +kernel
theorem d_b_judgementByReadings_24 : decode c_b_judgementByReadings 24 = .ok (.iload_n 2, 1) := by decide +kernel
theorem d_b_judgementByReadings_25 : decode c_b_judgementByReadings 25 = .ok (.iconst (-1), 1) := by decide +kernel
theorem d_b_judgementByReadings_26 : decode c_b_judgementByReadings 26 = .ok (.if_icmp .ne 5, 3) := by decide +kernel
theorem d_b_judgementByReadings_29 : decode c_b_judgementByReadings 29 = .ok (.iconst 3, 1) := by decide +kernel
theorem d_b_judgementByReadings_30 : decode c_b_judgementByReadings 30 = .ok (.ireturn, 1) := by decide +kernel
theorem d_b_judgementByReadings_31 : decode c_b_judgementByReadings 31 = .ok (.aload_n 0, 1) := by decide +kernel
theorem d_b_judgementByReadings_32 : decode c_b_judgementByReadings 32 = .ok (.getfield 12, 3) := by decide +kernel
theorem d_b_judgementByReadings_35 : decode c_b_judgementByReadings 35 = .ok (.iload_n 2, 1) := by decide +kernel
theorem d_b_judgementByReadings_36 : decode c_b_judgementByReadings 36 = .ok (.aload_n 1, 1) := by decide +kernel
theorem d_b_judgementByReadings_37 : decode c_b_judgementByReadings 37 = .ok (.getfield 112, 3) := by decide +kernel
theorem d_b_judgementByReadings_40 : decode c_b_judgementByReadings 40 = .ok (.invokevirtual 288, 3) := by decide +kernel
theorem d_b_judgementByReadings_43 : decode c_b_judgementByReadings 43 = .ok (.ifCond .ne 5, 3) := by decide +kernel
theorem d_b_judgementByReadings_46 : decode c_b_judgementByReadings 46 = .ok (.iconst 4, 1) := by decide +kernel
theorem d_b_judgementByReadings_47 : decode c_b_judgementByReadings 47 = .ok (.ireturn, 1) := by decide +kernel
theorem d_b_judgementByReadings_48 : decode c_b_judgementByReadings 48 = .ok (.aload_n 0, 1) := by decide +kernel
theorem d_b_judgementByReadings_49 : decode c_b_judgementByReadings 49 = .ok (.getfield 12, 3) := by decide +kernel
theorem d_b_judgementByReadings_52 : decode c_b_judgementByReadings 52 = .ok (.iload_n 2, 1) := by decide +kernel
theorem d_b_judgementByReadings_53 : decode c_b_judgementByReadings 53 = .ok (.aload_n 1, 1) := by decide +kernel
theorem d_b_judgementByReadings_54 : decode c_b_judgementByReadings 54 = .ok (.getfield 109, 3) := by decide +kernel
theorem d_b_judgementByReadings_57 : decode c_b_judgementByReadings 57 = .ok (.invokevirtual 291, 3) := by decide +kernel
theorem d_b_judgementByReadings_60 : decode c_b_judgementByReadings 60 = .ok (.ifCond .ne 5, 3) := by decide +kernel
theorem d_b_judgementByReadings_63 : decode c_b_judgementByReadings 63 = .ok (.iconst 5, 1) := by decide +kernel
theorem d_b_judgementByReadings_64 : decode c_b_judgementByReadings 64 = .ok (.ireturn, 1) := by decide +kernel
theorem d_b_judgementByReadings_65 : decode c_b_judgementByReadings 65 = .ok (.bipush 10, 2) := by decide +kernel
theorem d_b_judgementByReadings_67 : decode c_b_judgementByReadings 67 = .ok (.ireturn, 1) := by decide +kernel
theorem d_b_acceptedFor_0 : decode c_b_acceptedFor 0 = .ok (.iconst 0, 1) := by decide +kernel
theorem d_b_acceptedFor_1 : decode c_b_acceptedFor 1 = .ok (.istore_n 2, 1) := by decide +kernel
theorem d_b_acceptedFor_2 : decode c_b_acceptedFor 2 = .ok (.iconst 0, 1) := by decide +kernel
theorem d_b_acceptedFor_3 : decode c_b_acceptedFor 3 = .ok (.istore_n 3, 1) := by decide +kernel
theorem d_b_acceptedFor_4 : decode c_b_acceptedFor 4 = .ok (.iload_n 3, 1) := by decide +kernel
theorem d_b_acceptedFor_5 : decode c_b_acceptedFor 5 = .ok (.aload_n 0, 1) := by decide +kernel
theorem d_b_acceptedFor_6 : decode c_b_acceptedFor 6 = .ok (.getfield 19, 3) := by decide +kernel
theorem d_b_acceptedFor_9 : decode c_b_acceptedFor 9 = .ok (.getfield 127, 3) := by decide +kernel
theorem d_b_acceptedFor_12 : decode c_b_acceptedFor 12 = .ok (.if_icmp .ge 46, 3) := by decide +kernel
theorem d_b_acceptedFor_15 : decode c_b_acceptedFor 15 = .ok (.aload_n 0, 1) := by decide +kernel
theorem d_b_acceptedFor_16 : decode c_b_acceptedFor 16 = .ok (.getfield 19, 3) := by decide +kernel
theorem d_b_acceptedFor_19 : decode c_b_acceptedFor 19 = .ok (.getfield 232, 3) := by decide +kernel
theorem d_b_acceptedFor_22 : decode c_b_acceptedFor 22 = .ok (.iload_n 3, 1) := by decide +kernel
theorem d_b_acceptedFor_23 : decode c_b_acceptedFor 23 = .ok (.aaload, 1) := by decide +kernel
theorem d_b_acceptedFor_24 : decode c_b_acceptedFor 24 = .ok (.getfield 225, 3) := by decide +kernel
theorem d_b_acceptedFor_27 : decode c_b_acceptedFor 27 = .ok (.istore 4, 2) := by decide +kernel
theorem d_b_acceptedFor_29 : decode c_b_acceptedFor 29 = .ok (.iload 4, 2) := by decide +kernel
theorem d_b_acceptedFor_31 : decode c_b_acceptedFor 31 = .ok (.iconst (-1), 1) := by decide +kernel
theorem d_b_acceptedFor_32 : decode c_b_acceptedFor 32 = .ok (.if_icmp .eq 20, 3) := by decide +kernel
theorem d_b_acceptedFor_35 : decode c_b_acceptedFor 35 = .ok (.aload_n 0, 1) := by decide +kernel
theorem d_b_acceptedFor_36 : decode c_b_acceptedFor 36 = .ok (.getfield 12, 3) := by decide +kernel
theorem d_b_acceptedFor_39 : decode c_b_acceptedFor 39 = .ok (.getfield 295, 3) := by decide +kernel
theorem d_b_acceptedFor_42 : decode c_b_acceptedFor 42 = .ok (.iload 4, 2) := by decide +kernel
theorem d_b_acceptedFor_44 : decode c_b_acceptedFor 44 = .ok (.iaload, 1) := by decide +kernel
theorem d_b_acceptedFor_45 : decode c_b_acceptedFor 45 = .ok (.iload_n 1, 1) := by decide +kernel
theorem d_b_acceptedFor_46 : decode c_b_acceptedFor 46 = .ok (.if_icmp .ne 6, 3) := by decide +kernel
theorem d_b_acceptedFor_49 : decode c_b_acceptedFor 49 = .ok (.iinc 2 1, 3) := by decide +kernel
theorem d_b_acceptedFor_52 : decode c_b_acceptedFor 52 = .ok (.iinc 3 1, 3) := by decide +kernel
theorem d_b_acceptedFor_55 : decode c_b_acceptedFor 55 = .ok (.goto (-51), 3) := by decide +kernel
theorem d_b_acceptedFor_58 : decode c_b_acceptedFor 58 = .ok (.iload_n 2, 1) := by decide +kernel
theorem d_b_acceptedFor_59 : decode c_b_acceptedFor 59 = .ok (.ireturn, 1) := by decide +kernel
theorem d_vo_isFull_0 : decode c_vo_isFull 0 = .ok (.aload_n 0, 1) := by decide +kernel
theorem d_vo_isFull_1 : decode c_vo_isFull 1 = .ok (.getfield 22, 3) := by decide +kernel
theorem d_vo_isFull_4 : decode c_vo_isFull 4 = .ok (.bipush 60, 2) := by decide +kernel
theorem d_vo_isFull_6 : decode c_vo_isFull 6 = .ok (.if_icmp .lt 7, 3) := by decide +kernel
theorem d_vo_isFull_9 : decode c_vo_isFull 9 = .ok (.iconst 1, 1) := by decide +kernel
theorem d_vo_isFull_10 : decode c_vo_isFull 10 = .ok (.goto 4, 3) := by decide +kernel
theorem d_vo_isFull_13 : decode c_vo_isFull 13 = .ok (.iconst 0, 1) := by decide +kernel
theorem d_vo_isFull_14 : decode c_vo_isFull 14 = .ok (.ireturn, 1) := by decide +kernel
theorem d_b_isSuspicious_0 : decode c_b_isSuspicious 0 = .ok (.aload_n 0, 1) := by decide +kernel
theorem d_b_isSuspicious_1 : decode c_b_isSuspicious 1 = .ok (.getfield 133, 3) := by decide +kernel
theorem d_b_isSuspicious_4 : decode c_b_isSuspicious 4 = .ok (.bipush 50, 2) := by decide +kernel
theorem d_b_isSuspicious_6 : decode c_b_isSuspicious 6 = .ok (.if_icmp .le 7, 3) := by decide +kernel
theorem d_b_isSuspicious_9 : decode c_b_isSuspicious 9 = .ok (.iconst 1, 1) := by decide +kernel
theorem d_b_isSuspicious_10 : decode c_b_isSuspicious 10 = .ok (.goto 4, 3) := by decide +kernel
theorem d_b_isSuspicious_13 : decode c_b_isSuspicious 13 = .ok (.iconst 0, 1) := by decide +kernel
theorem d_b_isSuspicious_14 : decode c_b_isSuspicious 14 = .ok (.ireturn, 1) := by decide +kernel
theorem d_la_isLike_0 : decode c_la_isLike 0 = .ok (.iconst 0, 1) := by decide +kernel
theorem d_la_isLike_1 : decode c_la_isLike 1 = .ok (.istore_n 2, 1) := by decide +kernel
theorem d_la_isLike_2 : decode c_la_isLike 2 = .ok (.iload_n 2, 1) := by decide +kernel
theorem d_la_isLike_3 : decode c_la_isLike 3 = .ok (.bipush 8, 2) := by decide +kernel
theorem d_la_isLike_5 : decode c_la_isLike 5 = .ok (.if_icmp .ge 26, 3) := by decide +kernel
theorem d_la_isLike_8 : decode c_la_isLike 8 = .ok (.aload_n 1, 1) := by decide +kernel
theorem d_la_isLike_9 : decode c_la_isLike 9 = .ok (.getfield 23, 3) := by decide +kernel
theorem d_la_isLike_12 : decode c_la_isLike 12 = .ok (.iload_n 2, 1) := by decide +kernel
theorem d_la_isLike_13 : decode c_la_isLike 13 = .ok (.iaload, 1) := by decide +kernel
theorem d_la_isLike_14 : decode c_la_isLike 14 = .ok (.aload_n 0, 1) := by decide +kernel
theorem d_la_isLike_15 : decode c_la_isLike 15 = .ok (.getfield 9, 3) := by decide +kernel
theorem d_la_isLike_18 : decode c_la_isLike 18 = .ok (.iload_n 2, 1) := by decide +kernel
theorem d_la_isLike_19 : decode c_la_isLike 19 = .ok (.iaload, 1) := by decide +kernel
theorem d_la_isLike_20 : decode c_la_isLike 20 = .ok (.if_icmp .eq 5, 3) := by decide +kernel
theorem d_la_isLike_23 : decode c_la_isLike 23 = .ok (.iconst 0, 1) := by decide +kernel
theorem d_la_isLike_24 : decode c_la_isLike 24 = .ok (.ireturn, 1) := by decide +kernel
theorem d_la_isLike_25 : decode c_la_isLike 25 = .ok (.iinc 2 1, 3) := by decide +kernel
theorem d_la_isLike_28 : decode c_la_isLike 28 = .ok (.goto (-26), 3) := by decide +kernel
theorem d_la_isLike_31 : decode c_la_isLike 31 = .ok (.iconst 1, 1) := by decide +kernel
theorem d_la_isLike_32 : decode c_la_isLike 32 = .ok (.ireturn, 1) := by decide +kernel
theorem d_la_areAllLike_0 : decode c_la_areAllLike 0 = .ok (.aload_n 0, 1) := by decide +kernel
theorem d_la_areAllLike_1 : decode c_la_areAllLike 1 = .ok (.getfield 15, 3) := by decide +kernel
theorem d_la_areAllLike_4 : decode c_la_areAllLike 4 = .ok (.iconst 3, 1) := by decide +kernel
theorem d_la_areAllLike_5 : decode c_la_areAllLike 5 = .ok (.if_icmp .lt 15, 3) := by decide +kernel
theorem d_la_areAllLike_8 : decode c_la_areAllLike 8 = .ok (.aload_n 0, 1) := by decide +kernel
theorem d_la_areAllLike_9 : decode c_la_areAllLike 9 = .ok (.aload_n 1, 1) := by decide +kernel
theorem d_la_areAllLike_10 : decode c_la_areAllLike 10 = .ok (.invokevirtual 19, 3) := by decide +kernel
theorem d_la_areAllLike_13 : decode c_la_areAllLike 13 = .ok (.ifCond .eq 7, 3) := by decide +kernel
theorem d_la_areAllLike_16 : decode c_la_areAllLike 16 = .ok (.iconst 1, 1) := by decide +kernel
theorem d_la_areAllLike_17 : decode c_la_areAllLike 17 = .ok (.goto 4, 3) := by decide +kernel
theorem d_la_areAllLike_20 : decode c_la_areAllLike 20 = .ok (.iconst 0, 1) := by decide +kernel
theorem d_la_areAllLike_21 : decode c_la_areAllLike 21 = .ok (.ireturn, 1) := by decide +kernel
theorem d_b_judgementByState_0 : decode c_b_judgementByState 0 = .ok (.aload_n 0, 1) := by decide +kernel
theorem d_b_judgementByState_1 : decode c_b_judgementByState 1 = .ok (.getfield 12, 3) := by decide +kernel
theorem d_b_judgementByState_4 : decode c_b_judgementByState 4 = .ok (.getfield 295, 3) := by decide +kernel
theorem d_b_judgementByState_7 : decode c_b_judgementByState 7 = .ok (.iload_n 2, 1) := by decide +kernel
theorem d_b_judgementByState_8 : decode c_b_judgementByState 8 = .ok (.iaload, 1) := by decide +kernel
theorem d_b_judgementByState_9 : decode c_b_judgementByState 9 = .ok (.istore_n 3, 1) := by decide +kernel
theorem d_b_judgementByState_10 : decode c_b_judgementByState 10 = .ok (.aload_n 0, 1) := by decide +kernel
theorem d_b_judgementByState_11 : decode c_b_judgementByState 11 = .ok (.getfield 26, 3) := by decide +kernel
theorem d_b_judgementByState_14 : decode c_b_judgementByState 14 = .ok (.getfield 164, 3) := by decide +kernel
theorem d_b_judgementByState_17 : decode c_b_judgementByState 17 = .ok (.iload_n 3, 1) := by decide +kernel
theorem d_b_judgementByState_18 : decode c_b_judgementByState 18 = .ok (.iaload, 1) := by decide +kernel
theorem d_b_judgementByState_19 : decode c_b_judgementByState 19 = .ok (.aload_n 0, 1) := by decide +kernel
theorem d_b_judgementByState_20 : decode c_b_judgementByState 20 = .ok (.iload_n 3, 1) := by decide +kernel
theorem d_b_judgementByState_21 : decode c_b_judgementByState 21 = .ok (.invokevirtual 297, 3) := by decide +kernel
theorem d_b_judgementByState_24 : decode c_b_judgementByState 24 = .ok (.iadd, 1) := by decide +kernel
theorem d_b_judgementByState_25 : decode c_b_judgementByState 25 = .ok (.aload_n 0, 1) := by decide +kernel
theorem d_b_judgementByState_26 : decode c_b_judgementByState 26 = .ok (.getfield 26, 3) := by decide +kernel
theorem d_b_judgementByState_29 : decode c_b_judgementByState 29 = .ok (.getfield 167, 3) := by decide +kernel
theorem d_b_judgementByState_32 : decode c_b_judgementByState 32 = .ok (.iload_n 3, 1) := by decide +kernel
theorem d_b_judgementByState_33 : decode c_b_judgementByState 33 = .ok (.iaload, 1) := by decide +kernel
theorem d_b_judgementByState_34 : decode c_b_judgementByState 34 = .ok (.if_icmp .lt 6, 3) := by decide +kernel
theorem d_b_judgementByState_37 : decode c_b_judgementByState 37 = .ok (.bipush 6, 2) := by decide +kernel
theorem d_b_judgementByState_39 : decode c_b_judgementByState 39 = .ok (.ireturn, 1) := by decide +kernel
theorem d_b_judgementByState_40 : decode c_b_judgementByState 40 = .ok (.aload_n 0, 1) := by decide +kernel
theorem d_b_judgementByState_41 : decode c_b_judgementByState 41 = .ok (.getfield 33, 3) := by decide +kernel
theorem d_b_judgementByState_44 : decode c_b_judgementByState 44 = .ok (.invokevirtual 139, 3) := by decide +kernel
theorem d_b_judgementByState_47 : decode c_b_judgementByState 47 = .ok (.ifCond .eq 6, 3) := by decide +kernel
theorem d_b_judgementByState_50 : decode c_b_judgementByState 50 = .ok (.bipush 7, 2) := by decide +kernel
theorem d_b_judgementByState_52 : decode c_b_judgementByState 52 = .ok (.ireturn, 1) := by decide +kernel
theorem d_b_judgementByState_53 : decode c_b_judgementByState 53 = .ok (.aload_n 0, 1) := by decide +kernel
theorem d_b_judgementByState_54 : decode c_b_judgementByState 54 = .ok (.invokevirtual 170, 3) := by decide +kernel
theorem d_b_judgementByState_57 : decode c_b_judgementByState 57 = .ok (.ifCond .eq 6, 3) := by decide +kernel
theorem d_b_judgementByState_60 : decode c_b_judgementByState 60 = .ok (.bipush 8, 2) := by decide +kernel
theorem d_b_judgementByState_62 : decode c_b_judgementByState 62 = .ok (.ireturn, 1) := by decide +kernel
theorem d_b_judgementByState_63 : decode c_b_judgementByState 63 = .ok (.aload_n 0, 1) := by decide +kernel
theorem d_b_judgementByState_64 : decode c_b_judgementByState 64 = .ok (.getfield 47, 3) := by decide +kernel
theorem d_b_judgementByState_67 : decode c_b_judgementByState 67 = .ok (.aload_n 1, 1) := by decide +kernel
theorem d_b_judgementByState_68 : decode c_b_judgementByState 68 = .ok (.getfield 109, 3) := by decide +kernel
theorem d_b_judgementByState_71 : decode c_b_judgementByState 71 = .ok (.invokevirtual 300, 3) := by decide +kernel
theorem d_b_judgementByState_74 : decode c_b_judgementByState 74 = .ok (.ifCond .eq 6, 3) := by decide +kernel
theorem d_b_judgementByState_77 : decode c_b_judgementByState 77 = .ok (.bipush 9, 2) := by decide +kernel
theorem d_b_judgementByState_79 : decode c_b_judgementByState 79 = .ok (.ireturn, 1) := by decide +kernel
theorem d_b_judgementByState_80 : decode c_b_judgementByState 80 = .ok (.bipush 10, 2) := by decide +kernel
theorem d_b_judgementByState_82 : decode c_b_judgementByState 82 = .ok (.ireturn, 1) := by decide +kernel
theorem d_jo_write_0 : decode c_jo_write 0 = .ok (.aload_n 0, 1) := by decide +kernel
theorem d_jo_write_1 : decode c_jo_write 1 = .ok (.getfield 13, 3) := by decide +kernel
theorem d_jo_write_4 : decode c_jo_write 4 = .ok (.iconst 1, 1) := by decide +kernel
theorem d_jo_write_5 : decode c_jo_write 5 = .ok (.if_icmp .ne 15, 3) := by decide +kernel
theorem d_jo_write_8 : decode c_jo_write 8 = .ok (.aload_n 0, 1) := by decide +kernel
theorem d_jo_write_9 : decode c_jo_write 9 = .ok (.iconst 0, 1) := by decide +kernel
theorem d_jo_write_10 : decode c_jo_write 10 = .ok (.putfield 13, 3) := by decide +kernel
theorem d_jo_write_13 : decode c_jo_write 13 = .ok (.aload_n 0, 1) := by decide +kernel
theorem d_jo_write_14 : decode c_jo_write 14 = .ok (.iconst 0, 1) := by decide +kernel
theorem d_jo_write_15 : decode c_jo_write 15 = .ok (.putfield 7, 3) := by decide +kernel
theorem d_jo_write_18 : decode c_jo_write 18 = .ok (.iconst 0, 1) := by decide +kernel
theorem d_jo_write_19 : decode c_jo_write 19 = .ok (.ireturn, 1) := by decide +kernel
theorem d_jo_write_20 : decode c_jo_write 20 = .ok (.aload_n 0, 1) := by decide +kernel
theorem d_jo_write_21 : decode c_jo_write 21 = .ok (.getfield 13, 3) := by decide +kernel
theorem d_jo_write_24 : decode c_jo_write 24 = .ok (.iconst 1, 1) := by decide +kernel
theorem d_jo_write_25 : decode c_jo_write 25 = .ok (.if_icmp .le 13, 3) := by decide +kernel
theorem d_jo_write_28 : decode c_jo_write 28 = .ok (.aload_n 0, 1) := by decide +kernel
theorem d_jo_write_29 : decode c_jo_write 29 = .ok (.dup, 1) := by decide +kernel
theorem d_jo_write_30 : decode c_jo_write 30 = .ok (.getfield 13, 3) := by decide +kernel
theorem d_jo_write_33 : decode c_jo_write 33 = .ok (.iconst 1, 1) := by decide +kernel
theorem d_jo_write_34 : decode c_jo_write 34 = .ok (.isub, 1) := by decide +kernel
theorem d_jo_write_35 : decode c_jo_write 35 = .ok (.putfield 13, 3) := by decide +kernel
theorem d_jo_write_38 : decode c_jo_write 38 = .ok (.aload_n 0, 1) := by decide +kernel
theorem d_jo_write_39 : decode c_jo_write 39 = .ok (.dup, 1) := by decide +kernel
theorem d_jo_write_40 : decode c_jo_write 40 = .ok (.getfield 17, 3) := by decide +kernel
theorem d_jo_write_43 : decode c_jo_write 43 = .ok (.iconst 1, 1) := by decide +kernel
theorem d_jo_write_44 : decode c_jo_write 44 = .ok (.iadd, 1) := by decide +kernel
theorem d_jo_write_45 : decode c_jo_write 45 = .ok (.putfield 17, 3) := by decide +kernel
theorem d_jo_write_48 : decode c_jo_write 48 = .ok (.iconst 1, 1) := by decide +kernel
theorem d_jo_write_49 : decode c_jo_write 49 = .ok (.ireturn, 1) := by decide +kernel
theorem d_la_note_0 : decode c_la_note 0 = .ok (.aload_n 0, 1) := by decide +kernel
theorem d_la_note_1 : decode c_la_note 1 = .ok (.getfield 15, 3) := by decide +kernel
theorem d_la_note_4 : decode c_la_note 4 = .ok (.ifCond .le 22, 3) := by decide +kernel
theorem d_la_note_7 : decode c_la_note 7 = .ok (.aload_n 0, 1) := by decide +kernel
theorem d_la_note_8 : decode c_la_note 8 = .ok (.aload_n 1, 1) := by decide +kernel
theorem d_la_note_9 : decode c_la_note 9 = .ok (.invokevirtual 19, 3) := by decide +kernel
theorem d_la_note_12 : decode c_la_note 12 = .ok (.ifCond .eq 14, 3) := by decide +kernel
theorem d_la_note_15 : decode c_la_note 15 = .ok (.aload_n 0, 1) := by decide +kernel
theorem d_la_note_16 : decode c_la_note 16 = .ok (.dup, 1) := by decide +kernel
theorem d_la_note_17 : decode c_la_note 17 = .ok (.getfield 15, 3) := by decide +kernel
theorem d_la_note_20 : decode c_la_note 20 = .ok (.iconst 1, 1) := by decide +kernel
theorem d_la_note_21 : decode c_la_note 21 = .ok (.iadd, 1) := by decide +kernel
theorem d_la_note_22 : decode c_la_note 22 = .ok (.putfield 15, 3) := by decide +kernel
theorem d_la_note_25 : decode c_la_note 25 = .ok (.return_, 1) := by decide +kernel
theorem d_la_note_26 : decode c_la_note 26 = .ok (.aload_n 1, 1) := by decide +kernel
theorem d_la_note_27 : decode c_la_note 27 = .ok (.getfield 23, 3) := by decide +kernel
theorem d_la_note_30 : decode c_la_note 30 = .ok (.iconst 0, 1) := by decide +kernel
theorem d_la_note_31 : decode c_la_note 31 = .ok (.aload_n 0, 1) := by decide +kernel
theorem d_la_note_32 : decode c_la_note 32 = .ok (.getfield 9, 3) := by decide +kernel
theorem d_la_note_35 : decode c_la_note 35 = .ok (.iconst 0, 1) := by decide +kernel
theorem d_la_note_36 : decode c_la_note 36 = .ok (.bipush 8, 2) := by decide +kernel
theorem d_la_note_38 : decode c_la_note 38 = .ok (.invokestatic 28, 3) := by decide +kernel
theorem d_la_note_41 : decode c_la_note 41 = .ok (.aload_n 0, 1) := by decide +kernel
theorem d_la_note_42 : decode c_la_note 42 = .ok (.iconst 1, 1) := by decide +kernel
theorem d_la_note_43 : decode c_la_note 43 = .ok (.putfield 15, 3) := by decide +kernel
theorem d_la_note_46 : decode c_la_note 46 = .ok (.return_, 1) := by decide +kernel
theorem d_b_judge_0 : decode c_b_judge 0 = .ok (.aload_n 0, 1) := by decide +kernel
theorem d_b_judge_1 : decode c_b_judge 1 = .ok (.getfield 12, 3) := by decide +kernel
theorem d_b_judge_4 : decode c_b_judge 4 = .ok (.aload_n 1, 1) := by decide +kernel
theorem d_b_judge_5 : decode c_b_judge 5 = .ok (.invokevirtual 270, 3) := by decide +kernel
theorem d_b_judge_8 : decode c_b_judge 8 = .ok (.istore_n 2, 1) := by decide +kernel
theorem d_b_judge_9 : decode c_b_judge 9 = .ok (.aload_n 0, 1) := by decide +kernel
theorem d_b_judge_10 : decode c_b_judge 10 = .ok (.aload_n 1, 1) := by decide +kernel
theorem d_b_judge_11 : decode c_b_judge 11 = .ok (.iload_n 2, 1) := by decide +kernel
theorem d_b_judge_12 : decode c_b_judge 12 = .ok (.invokevirtual 274, 3) := by decide +kernel
theorem d_b_judge_15 : decode c_b_judge 15 = .ok (.istore_n 3, 1) := by decide +kernel
theorem d_b_judge_16 : decode c_b_judge 16 = .ok (.iload_n 3, 1) := by decide +kernel
theorem d_b_judge_17 : decode c_b_judge 17 = .ok (.bipush 10, 2) := by decide +kernel
theorem d_b_judge_19 : decode c_b_judge 19 = .ok (.if_icmp .ne 10, 3) := by decide +kernel
theorem d_b_judge_22 : decode c_b_judge 22 = .ok (.aload_n 0, 1) := by decide +kernel
theorem d_b_judge_23 : decode c_b_judge 23 = .ok (.aload_n 1, 1) := by decide +kernel
theorem d_b_judge_24 : decode c_b_judge 24 = .ok (.iload_n 2, 1) := by decide +kernel
theorem d_b_judge_25 : decode c_b_judge 25 = .ok (.invokevirtual 278, 3) := by decide +kernel
theorem d_b_judge_28 : decode c_b_judge 28 = .ok (.istore_n 3, 1) := by decide +kernel
theorem d_b_judge_29 : decode c_b_judge 29 = .ok (.iload_n 3, 1) := by decide +kernel
theorem d_b_judge_30 : decode c_b_judge 30 = .ok (.bipush 10, 2) := by decide +kernel
theorem d_b_judge_32 : decode c_b_judge 32 = .ok (.if_icmp .eq 21, 3) := by decide +kernel
theorem d_b_judge_35 : decode c_b_judge 35 = .ok (.aload_n 1, 1) := by decide +kernel
theorem d_b_judge_36 : decode c_b_judge 36 = .ok (.iload_n 3, 1) := by decide +kernel
theorem d_b_judge_37 : decode c_b_judge 37 = .ok (.putfield 222, 3) := by decide +kernel
theorem d_b_judge_40 : decode c_b_judge 40 = .ok (.aload_n 0, 1) := by decide +kernel
theorem d_b_judge_41 : decode c_b_judge 41 = .ok (.getfield 51, 3) := by decide +kernel
theorem d_b_judge_44 : decode c_b_judge 44 = .ok (.iload_n 3, 1) := by decide +kernel
theorem d_b_judge_45 : decode c_b_judge 45 = .ok (.dup2, 1) := by decide +kernel
theorem d_b_judge_46 : decode c_b_judge 46 = .ok (.iaload, 1) := by decide +kernel
theorem d_b_judge_47 : decode c_b_judge 47 = .ok (.iconst 1, 1) := by decide +kernel
theorem d_b_judge_48 : decode c_b_judge 48 = .ok (.iadd, 1) := by decide +kernel
theorem d_b_judge_49 : decode c_b_judge 49 = .ok (.iastore, 1) := by decide +kernel
theorem d_b_judge_50 : decode c_b_judge 50 = .ok (.goto 35, 3) := by decide +kernel
theorem d_b_judge_53 : decode c_b_judge 53 = .ok (.aload_n 0, 1) := by decide +kernel
theorem d_b_judge_54 : decode c_b_judge 54 = .ok (.getfield 40, 3) := by decide +kernel
theorem d_b_judge_57 : decode c_b_judge 57 = .ok (.invokevirtual 142, 3) := by decide +kernel
theorem d_b_judge_60 : decode c_b_judge 60 = .ok (.ifCond .eq 25, 3) := by decide +kernel
theorem d_b_judge_63 : decode c_b_judge 63 = .ok (.aload_n 1, 1) := by decide +kernel
theorem d_b_judge_64 : decode c_b_judge 64 = .ok (.bipush 10, 2) := by decide +kernel
theorem d_b_judge_66 : decode c_b_judge 66 = .ok (.putfield 222, 3) := by decide +kernel
theorem d_b_judge_69 : decode c_b_judge 69 = .ok (.aload_n 1, 1) := by decide +kernel
theorem d_b_judge_70 : decode c_b_judge 70 = .ok (.iload_n 2, 1) := by decide +kernel
theorem d_b_judge_71 : decode c_b_judge 71 = .ok (.putfield 225, 3) := by decide +kernel
theorem d_b_judge_74 : decode c_b_judge 74 = .ok (.aload_n 0, 1) := by decide +kernel
theorem d_b_judge_75 : decode c_b_judge 75 = .ok (.getfield 47, 3) := by decide +kernel
theorem d_b_judge_78 : decode c_b_judge 78 = .ok (.aload_n 1, 1) := by decide +kernel
theorem d_b_judge_79 : decode c_b_judge 79 = .ok (.getfield 109, 3) := by decide +kernel
theorem d_b_judge_82 : decode c_b_judge 82 = .ok (.invokevirtual 281, 3) := by decide +kernel
theorem d_b_judge_85 : decode c_b_judge 85 = .ok (.return_, 1) := by decide +kernel
theorem d_b_pay_0 : decode c_b_pay 0 = .ok (.aload_n 1, 1) := by decide +kernel
theorem d_b_pay_1 : decode c_b_pay 1 = .ok (.getfield 225, 3) := by decide +kernel
theorem d_b_pay_4 : decode c_b_pay 4 = .ok (.iconst (-1), 1) := by decide +kernel
theorem d_b_pay_5 : decode c_b_pay 5 = .ok (.if_icmp .eq 13, 3) := by decide +kernel
theorem d_b_pay_8 : decode c_b_pay 8 = .ok (.aload_n 0, 1) := by decide +kernel
theorem d_b_pay_9 : decode c_b_pay 9 = .ok (.getfield 40, 3) := by decide +kernel
theorem d_b_pay_12 : decode c_b_pay 12 = .ok (.invokevirtual 142, 3) := by decide +kernel
theorem d_b_pay_15 : decode c_b_pay 15 = .ok (.ifCond .ne 4, 3) := by decide +kernel
theorem d_b_pay_18 : decode c_b_pay 18 = .ok (.return_, 1) := by decide +kernel
theorem d_b_pay_19 : decode c_b_pay 19 = .ok (.aload_n 0, 1) := by decide +kernel
theorem d_b_pay_20 : decode c_b_pay 20 = .ok (.getfield 12, 3) := by decide +kernel
theorem d_b_pay_23 : decode c_b_pay 23 = .ok (.getfield 304, 3) := by decide +kernel
theorem d_b_pay_26 : decode c_b_pay 26 = .ok (.aload_n 1, 1) := by decide +kernel
theorem d_b_pay_27 : decode c_b_pay 27 = .ok (.getfield 225, 3) := by decide +kernel
theorem d_b_pay_30 : decode c_b_pay 30 = .ok (.iaload, 1) := by decide +kernel
theorem d_b_pay_31 : decode c_b_pay 31 = .ok (.istore_n 2, 1) := by decide +kernel
theorem d_b_pay_32 : decode c_b_pay 32 = .ok (.aload_n 1, 1) := by decide +kernel
theorem d_b_pay_33 : decode c_b_pay 33 = .ok (.iconst 1, 1) := by decide +kernel
theorem d_b_pay_34 : decode c_b_pay 34 = .ok (.putfield 228, 3) := by decide +kernel
theorem d_b_pay_37 : decode c_b_pay 37 = .ok (.aload_n 0, 1) := by decide +kernel
theorem d_b_pay_38 : decode c_b_pay 38 = .ok (.dup, 1) := by decide +kernel
theorem d_b_pay_39 : decode c_b_pay 39 = .ok (.getfield 136, 3) := by decide +kernel
theorem d_b_pay_42 : decode c_b_pay 42 = .ok (.iload_n 2, 1) := by decide +kernel
theorem d_b_pay_43 : decode c_b_pay 43 = .ok (.iadd, 1) := by decide +kernel
theorem d_b_pay_44 : decode c_b_pay 44 = .ok (.putfield 136, 3) := by decide +kernel
theorem d_b_pay_47 : decode c_b_pay 47 = .ok (.aload_n 0, 1) := by decide +kernel
theorem d_b_pay_48 : decode c_b_pay 48 = .ok (.dup, 1) := by decide +kernel
theorem d_b_pay_49 : decode c_b_pay 49 = .ok (.getfield 242, 3) := by decide +kernel
theorem d_b_pay_52 : decode c_b_pay 52 = .ok (.iload_n 2, 1) := by decide +kernel
theorem d_b_pay_53 : decode c_b_pay 53 = .ok (.iadd, 1) := by decide +kernel
theorem d_b_pay_54 : decode c_b_pay 54 = .ok (.putfield 242, 3) := by decide +kernel
theorem d_b_pay_57 : decode c_b_pay 57 = .ok (.aload_n 0, 1) := by decide +kernel
theorem d_b_pay_58 : decode c_b_pay 58 = .ok (.dup, 1) := by decide +kernel
theorem d_b_pay_59 : decode c_b_pay 59 = .ok (.getfield 239, 3) := by decide +kernel
theorem d_b_pay_62 : decode c_b_pay 62 = .ok (.iconst 1, 1) := by decide +kernel
theorem d_b_pay_63 : decode c_b_pay 63 = .ok (.iadd, 1) := by decide +kernel
theorem d_b_pay_64 : decode c_b_pay 64 = .ok (.putfield 239, 3) := by decide +kernel
theorem d_b_pay_67 : decode c_b_pay 67 = .ok (.return_, 1) := by decide +kernel
