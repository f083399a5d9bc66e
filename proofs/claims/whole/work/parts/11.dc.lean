/-! decode rows -/
theorem d_be_takeOff_0 : decode c_be_takeOff 0 = .ok (.aload_n 0, 1) := by decide +kernel
theorem d_be_takeOff_1 : decode c_be_takeOff 1 = .ok (.getfield 11, 3) := by decide +kernel
theorem d_be_takeOff_4 : decode c_be_takeOff 4 = .ok (.iload_n 1, 1) := by decide +kernel
theorem d_be_takeOff_5 : decode c_be_takeOff 5 = .ok (.aaload, 1) := by decide +kernel
theorem d_be_takeOff_6 : decode c_be_takeOff 6 = .ok (.astore_n 2, 1) := by decide +kernel
theorem d_be_takeOff_7 : decode c_be_takeOff 7 = .ok (.aload_n 0, 1) := by decide +kernel
theorem d_be_takeOff_8 : decode c_be_takeOff 8 = .ok (.dup, 1) := by decide +kernel
theorem d_be_takeOff_9 : decode c_be_takeOff 9 = .ok (.getfield 18, 3) := by decide +kernel
theorem d_be_takeOff_12 : decode c_be_takeOff 12 = .ok (.iconst 1, 1) := by decide +kernel
theorem d_be_takeOff_13 : decode c_be_takeOff 13 = .ok (.isub, 1) := by decide +kernel
theorem d_be_takeOff_14 : decode c_be_takeOff 14 = .ok (.putfield 18, 3) := by decide +kernel
theorem d_be_takeOff_17 : decode c_be_takeOff 17 = .ok (.iload_n 1, 1) := by decide +kernel
theorem d_be_takeOff_18 : decode c_be_takeOff 18 = .ok (.istore_n 3, 1) := by decide +kernel
theorem d_be_takeOff_19 : decode c_be_takeOff 19 = .ok (.iload_n 3, 1) := by decide +kernel
theorem d_be_takeOff_20 : decode c_be_takeOff 20 = .ok (.aload_n 0, 1) := by decide +kernel
theorem d_be_takeOff_21 : decode c_be_takeOff 21 = .ok (.getfield 18, 3) := by decide +kernel
theorem d_be_takeOff_24 : decode c_be_takeOff 24 = .ok (.if_icmp .ge 23, 3) := by decide +kernel
theorem d_be_takeOff_27 : decode c_be_takeOff 27 = .ok (.aload_n 0, 1) := by decide +kernel
theorem d_be_takeOff_28 : decode c_be_takeOff 28 = .ok (.getfield 11, 3) := by decide +kernel
theorem d_be_takeOff_31 : decode c_be_takeOff 31 = .ok (.iload_n 3, 1) := by decide +kernel
theorem d_be_takeOff_32 : decode c_be_takeOff 32 = .ok (.aload_n 0, 1) := by decide +kernel
theorem d_be_takeOff_33 : decode c_be_takeOff 33 = .ok (.getfield 11, 3) := by decide +kernel
theorem d_be_takeOff_36 : decode c_be_takeOff 36 = .ok (.iload_n 3, 1) := by decide +kernel
theorem d_be_takeOff_37 : decode c_be_takeOff 37 = .ok (.iconst 1, 1) := by decide +kernel
theorem d_be_takeOff_38 : decode c_be_takeOff 38 = .ok (.iadd, 1) := by decide +kernel
theorem d_be_takeOff_39 : decode c_be_takeOff 39 = .ok (.aaload, 1) := by decide +kernel
theorem d_be_takeOff_40 : decode c_be_takeOff 40 = .ok (.aastore, 1) := by decide +kernel
theorem d_be_takeOff_41 : decode c_be_takeOff 41 = .ok (.iinc 3 1, 3) := by decide +kernel
theorem d_be_takeOff_44 : decode c_be_takeOff 44 = .ok (.goto (-25), 3) := by decide +kernel
theorem d_be_takeOff_47 : decode c_be_takeOff 47 = .ok (.aload_n 0, 1) := by decide +kernel
theorem d_be_takeOff_48 : decode c_be_takeOff 48 = .ok (.getfield 11, 3) := by decide +kernel
theorem d_be_takeOff_51 : decode c_be_takeOff 51 = .ok (.aload_n 0, 1) := by decide +kernel
theorem d_be_takeOff_52 : decode c_be_takeOff 52 = .ok (.getfield 18, 3) := by decide +kernel
theorem d_be_takeOff_55 : decode c_be_takeOff 55 = .ok (.aload_n 2, 1) := by decide +kernel
theorem d_be_takeOff_56 : decode c_be_takeOff 56 = .ok (.aastore, 1) := by decide +kernel
theorem d_be_takeOff_57 : decode c_be_takeOff 57 = .ok (.return_, 1) := by decide +kernel
theorem d_b_intoBin_0 : decode c_b_intoBin 0 = .ok (.aload_n 0, 1) := by decide +kernel
theorem d_b_intoBin_1 : decode c_b_intoBin 1 = .ok (.getfield 19, 3) := by decide +kernel
theorem d_b_intoBin_4 : decode c_b_intoBin 4 = .ok (.getfield 232, 3) := by decide +kernel
theorem d_b_intoBin_7 : decode c_b_intoBin 7 = .ok (.iload_n 1, 1) := by decide +kernel
theorem d_b_intoBin_8 : decode c_b_intoBin 8 = .ok (.aaload, 1) := by decide +kernel
theorem d_b_intoBin_9 : decode c_b_intoBin 9 = .ok (.getfield 225, 3) := by decide +kernel
theorem d_b_intoBin_12 : decode c_b_intoBin 12 = .ok (.istore_n 2, 1) := by decide +kernel
theorem d_b_intoBin_13 : decode c_b_intoBin 13 = .ok (.iload_n 2, 1) := by decide +kernel
theorem d_b_intoBin_14 : decode c_b_intoBin 14 = .ok (.iconst (-1), 1) := by decide +kernel
theorem d_b_intoBin_15 : decode c_b_intoBin 15 = .ok (.if_icmp .eq 13, 3) := by decide +kernel
theorem d_b_intoBin_18 : decode c_b_intoBin 18 = .ok (.aload_n 0, 1) := by decide +kernel
theorem d_b_intoBin_19 : decode c_b_intoBin 19 = .ok (.getfield 40, 3) := by decide +kernel
theorem d_b_intoBin_22 : decode c_b_intoBin 22 = .ok (.invokevirtual 142, 3) := by decide +kernel
theorem d_b_intoBin_25 : decode c_b_intoBin 25 = .ok (.ifCond .ne 5, 3) := by decide +kernel
theorem d_b_intoBin_28 : decode c_b_intoBin 28 = .ok (.iconst 0, 1) := by decide +kernel
theorem d_b_intoBin_29 : decode c_b_intoBin 29 = .ok (.ireturn, 1) := by decide +kernel
theorem d_b_intoBin_30 : decode c_b_intoBin 30 = .ok (.aload_n 0, 1) := by decide +kernel
theorem d_b_intoBin_31 : decode c_b_intoBin 31 = .ok (.getfield 26, 3) := by decide +kernel
theorem d_b_intoBin_34 : decode c_b_intoBin 34 = .ok (.getfield 164, 3) := by decide +kernel
theorem d_b_intoBin_37 : decode c_b_intoBin 37 = .ok (.aload_n 0, 1) := by decide +kernel
theorem d_b_intoBin_38 : decode c_b_intoBin 38 = .ok (.getfield 12, 3) := by decide +kernel
theorem d_b_intoBin_41 : decode c_b_intoBin 41 = .ok (.getfield 295, 3) := by decide +kernel
theorem d_b_intoBin_44 : decode c_b_intoBin 44 = .ok (.iload_n 2, 1) := by decide +kernel
theorem d_b_intoBin_45 : decode c_b_intoBin 45 = .ok (.iaload, 1) := by decide +kernel
theorem d_b_intoBin_46 : decode c_b_intoBin 46 = .ok (.dup2, 1) := by decide +kernel
theorem d_b_intoBin_47 : decode c_b_intoBin 47 = .ok (.iaload, 1) := by decide +kernel
theorem d_b_intoBin_48 : decode c_b_intoBin 48 = .ok (.iconst 1, 1) := by decide +kernel
theorem d_b_intoBin_49 : decode c_b_intoBin 49 = .ok (.iadd, 1) := by decide +kernel
theorem d_b_intoBin_50 : decode c_b_intoBin 50 = .ok (.iastore, 1) := by decide +kernel
theorem d_b_intoBin_51 : decode c_b_intoBin 51 = .ok (.aload_n 0, 1) := by decide +kernel
theorem d_b_intoBin_52 : decode c_b_intoBin 52 = .ok (.getfield 19, 3) := by decide +kernel
theorem d_b_intoBin_55 : decode c_b_intoBin 55 = .ok (.iload_n 1, 1) := by decide +kernel
theorem d_b_intoBin_56 : decode c_b_intoBin 56 = .ok (.invokevirtual 307, 3) := by decide +kernel
theorem d_b_intoBin_59 : decode c_b_intoBin 59 = .ok (.aload_n 0, 1) := by decide +kernel
theorem d_b_intoBin_60 : decode c_b_intoBin 60 = .ok (.iconst 0, 1) := by decide +kernel
theorem d_b_intoBin_61 : decode c_b_intoBin 61 = .ok (.putfield 133, 3) := by decide +kernel
theorem d_b_intoBin_64 : decode c_b_intoBin 64 = .ok (.iconst 1, 1) := by decide +kernel
theorem d_b_intoBin_65 : decode c_b_intoBin 65 = .ok (.ireturn, 1) := by decide +kernel
theorem d_b_leavesOnArrival_0 : decode c_b_leavesOnArrival 0 = .ok (.aload_n 0, 1) := by decide +kernel
theorem d_b_leavesOnArrival_1 : decode c_b_leavesOnArrival 1 = .ok (.getfield 19, 3) := by decide +kernel
theorem d_b_leavesOnArrival_4 : decode c_b_leavesOnArrival 4 = .ok (.getfield 232, 3) := by decide +kernel
theorem d_b_leavesOnArrival_7 : decode c_b_leavesOnArrival 7 = .ok (.iload_n 1, 1) := by decide +kernel
theorem d_b_leavesOnArrival_8 : decode c_b_leavesOnArrival 8 = .ok (.aaload, 1) := by decide +kernel
theorem d_b_leavesOnArrival_9 : decode c_b_leavesOnArrival 9 = .ok (.astore_n 2, 1) := by decide +kernel
theorem d_b_leavesOnArrival_10 : decode c_b_leavesOnArrival 10 = .ok (.aload_n 2, 1) := by decide +kernel
theorem d_b_leavesOnArrival_11 : decode c_b_leavesOnArrival 11 = .ok (.invokevirtual 257, 3) := by decide +kernel
theorem d_b_leavesOnArrival_14 : decode c_b_leavesOnArrival 14 = .ok (.bipush 60, 2) := by decide +kernel
theorem d_b_leavesOnArrival_16 : decode c_b_leavesOnArrival 16 = .ok (.if_icmp .ne 11, 3) := by decide +kernel
theorem d_b_leavesOnArrival_19 : decode c_b_leavesOnArrival 19 = .ok (.aload_n 0, 1) := by decide +kernel
theorem d_b_leavesOnArrival_20 : decode c_b_leavesOnArrival 20 = .ok (.aload_n 2, 1) := by decide +kernel
theorem d_b_leavesOnArrival_21 : decode c_b_leavesOnArrival 21 = .ok (.invokevirtual 260, 3) := by decide +kernel
theorem d_b_leavesOnArrival_24 : decode c_b_leavesOnArrival 24 = .ok (.goto 35, 3) := by decide +kernel
theorem d_b_leavesOnArrival_27 : decode c_b_leavesOnArrival 27 = .ok (.aload_n 2, 1) := by decide +kernel
theorem d_b_leavesOnArrival_28 : decode c_b_leavesOnArrival 28 = .ok (.getfield 216, 3) := by decide +kernel
theorem d_b_leavesOnArrival_31 : decode c_b_leavesOnArrival 31 = .ok (.bipush 105, 2) := by decide +kernel
theorem d_b_leavesOnArrival_33 : decode c_b_leavesOnArrival 33 = .ok (.if_icmp .ne 11, 3) := by decide +kernel
theorem d_b_leavesOnArrival_36 : decode c_b_leavesOnArrival 36 = .ok (.aload_n 0, 1) := by decide +kernel
theorem d_b_leavesOnArrival_37 : decode c_b_leavesOnArrival 37 = .ok (.aload_n 2, 1) := by decide +kernel
theorem d_b_leavesOnArrival_38 : decode c_b_leavesOnArrival 38 = .ok (.invokevirtual 264, 3) := by decide +kernel
theorem d_b_leavesOnArrival_41 : decode c_b_leavesOnArrival 41 = .ok (.goto 18, 3) := by decide +kernel
theorem d_b_leavesOnArrival_44 : decode c_b_leavesOnArrival 44 = .ok (.aload_n 2, 1) := by decide +kernel
theorem d_b_leavesOnArrival_45 : decode c_b_leavesOnArrival 45 = .ok (.invokevirtual 257, 3) := by decide +kernel
theorem d_b_leavesOnArrival_48 : decode c_b_leavesOnArrival 48 = .ok (.bipush 110, 2) := by decide +kernel
theorem d_b_leavesOnArrival_50 : decode c_b_leavesOnArrival 50 = .ok (.if_icmp .ne 9, 3) := by decide +kernel
theorem d_b_leavesOnArrival_53 : decode c_b_leavesOnArrival 53 = .ok (.aload_n 0, 1) := by decide +kernel
theorem d_b_leavesOnArrival_54 : decode c_b_leavesOnArrival 54 = .ok (.iload_n 1, 1) := by decide +kernel
theorem d_b_leavesOnArrival_55 : decode c_b_leavesOnArrival 55 = .ok (.invokevirtual 267, 3) := by decide +kernel
theorem d_b_leavesOnArrival_58 : decode c_b_leavesOnArrival 58 = .ok (.ireturn, 1) := by decide +kernel
theorem d_b_leavesOnArrival_59 : decode c_b_leavesOnArrival 59 = .ok (.iconst 0, 1) := by decide +kernel
theorem d_b_leavesOnArrival_60 : decode c_b_leavesOnArrival 60 = .ok (.ireturn, 1) := by decide +kernel
theorem d_b_stepForward_0 : decode c_b_stepForward 0 = .ok (.aload_n 0, 1) := by decide +kernel
theorem d_b_stepForward_1 : decode c_b_stepForward 1 = .ok (.getfield 19, 3) := by decide +kernel
theorem d_b_stepForward_4 : decode c_b_stepForward 4 = .ok (.invokevirtual 251, 3) := by decide +kernel
theorem d_b_stepForward_7 : decode c_b_stepForward 7 = .ok (.iconst 0, 1) := by decide +kernel
theorem d_b_stepForward_8 : decode c_b_stepForward 8 = .ok (.istore_n 1, 1) := by decide +kernel
theorem d_b_stepForward_9 : decode c_b_stepForward 9 = .ok (.aload_n 0, 1) := by decide +kernel
theorem d_b_stepForward_10 : decode c_b_stepForward 10 = .ok (.getfield 19, 3) := by decide +kernel
theorem d_b_stepForward_13 : decode c_b_stepForward 13 = .ok (.getfield 127, 3) := by decide +kernel
theorem d_b_stepForward_16 : decode c_b_stepForward 16 = .ok (.istore_n 2, 1) := by decide +kernel
theorem d_b_stepForward_17 : decode c_b_stepForward 17 = .ok (.iload_n 2, 1) := by decide +kernel
theorem d_b_stepForward_18 : decode c_b_stepForward 18 = .ok (.ifCond .le 30, 3) := by decide +kernel
theorem d_b_stepForward_21 : decode c_b_stepForward 21 = .ok (.aload_n 0, 1) := by decide +kernel
theorem d_b_stepForward_22 : decode c_b_stepForward 22 = .ok (.getfield 40, 3) := by decide +kernel
theorem d_b_stepForward_25 : decode c_b_stepForward 25 = .ok (.getfield 116, 3) := by decide +kernel
theorem d_b_stepForward_28 : decode c_b_stepForward 28 = .ok (.ifCond .eq 20, 3) := by decide +kernel
theorem d_b_stepForward_31 : decode c_b_stepForward 31 = .ok (.aload_n 0, 1) := by decide +kernel
theorem d_b_stepForward_32 : decode c_b_stepForward 32 = .ok (.iload_n 1, 1) := by decide +kernel
theorem d_b_stepForward_33 : decode c_b_stepForward 33 = .ok (.invokevirtual 254, 3) := by decide +kernel
theorem d_b_stepForward_36 : decode c_b_stepForward 36 = .ok (.ifCond .ne 6, 3) := by decide +kernel
theorem d_b_stepForward_39 : decode c_b_stepForward 39 = .ok (.iinc 1 1, 3) := by decide +kernel
theorem d_b_stepForward_42 : decode c_b_stepForward 42 = .ok (.iinc 2 (-1), 3) := by decide +kernel
theorem d_b_stepForward_45 : decode c_b_stepForward 45 = .ok (.goto (-28), 3) := by decide +kernel
theorem d_b_stepForward_48 : decode c_b_stepForward 48 = .ok (.return_, 1) := by decide +kernel
theorem d_b_forward_0 : decode c_b_forward 0 = .ok (.aload_n 0, 1) := by decide +kernel
theorem d_b_forward_1 : decode c_b_forward 1 = .ok (.invokevirtual 55, 3) := by decide +kernel
theorem d_b_forward_4 : decode c_b_forward 4 = .ok (.iload_n 1, 1) := by decide +kernel
theorem d_b_forward_5 : decode c_b_forward 5 = .ok (.iconst 0, 1) := by decide +kernel
theorem d_b_forward_6 : decode c_b_forward 6 = .ok (.sipush 300, 3) := by decide +kernel
theorem d_b_forward_9 : decode c_b_forward 9 = .ok (.invokestatic 66, 3) := by decide +kernel
theorem d_b_forward_12 : decode c_b_forward 12 = .ok (.invokestatic 62, 3) := by decide +kernel
theorem d_b_forward_15 : decode c_b_forward 15 = .ok (.iconst 0, 1) := by decide +kernel
theorem d_b_forward_16 : decode c_b_forward 16 = .ok (.istore_n 2, 1) := by decide +kernel
theorem d_b_forward_17 : decode c_b_forward 17 = .ok (.iload_n 2, 1) := by decide +kernel
theorem d_b_forward_18 : decode c_b_forward 18 = .ok (.iload_n 1, 1) := by decide +kernel
theorem d_b_forward_19 : decode c_b_forward 19 = .ok (.if_icmp .ge 33, 3) := by decide +kernel
theorem d_b_forward_22 : decode c_b_forward 22 = .ok (.aload_n 0, 1) := by decide +kernel
theorem d_b_forward_23 : decode c_b_forward 23 = .ok (.getfield 40, 3) := by decide +kernel
theorem d_b_forward_26 : decode c_b_forward 26 = .ok (.getfield 116, 3) := by decide +kernel
theorem d_b_forward_29 : decode c_b_forward 29 = .ok (.ifCond .eq 23, 3) := by decide +kernel
theorem d_b_forward_32 : decode c_b_forward 32 = .ok (.aload_n 0, 1) := by decide +kernel
theorem d_b_forward_33 : decode c_b_forward 33 = .ok (.getfield 19, 3) := by decide +kernel
theorem d_b_forward_36 : decode c_b_forward 36 = .ok (.invokevirtual 120, 3) := by decide +kernel
theorem d_b_forward_39 : decode c_b_forward 39 = .ok (.ifCond .ne 13, 3) := by decide +kernel
theorem d_b_forward_42 : decode c_b_forward 42 = .ok (.aload_n 0, 1) := by decide +kernel
theorem d_b_forward_43 : decode c_b_forward 43 = .ok (.invokevirtual 124, 3) := by decide +kernel
theorem d_b_forward_46 : decode c_b_forward 46 = .ok (.iinc 2 1, 3) := by decide +kernel
theorem d_b_forward_49 : decode c_b_forward 49 = .ok (.goto (-32), 3) := by decide +kernel
theorem d_b_forward_52 : decode c_b_forward 52 = .ok (.iload_n 2, 1) := by decide +kernel
theorem d_b_forward_53 : decode c_b_forward 53 = .ok (.ireturn, 1) := by decide +kernel
theorem d_be_moveDownAt_0 : decode c_be_moveDownAt 0 = .ok (.aload_n 0, 1) := by decide +kernel
theorem d_be_moveDownAt_1 : decode c_be_moveDownAt 1 = .ok (.getfield 11, 3) := by decide +kernel
theorem d_be_moveDownAt_4 : decode c_be_moveDownAt 4 = .ok (.iload_n 1, 1) := by decide +kernel
theorem d_be_moveDownAt_5 : decode c_be_moveDownAt 5 = .ok (.aaload, 1) := by decide +kernel
theorem d_be_moveDownAt_6 : decode c_be_moveDownAt 6 = .ok (.astore_n 2, 1) := by decide +kernel
theorem d_be_moveDownAt_7 : decode c_be_moveDownAt 7 = .ok (.aload_n 2, 1) := by decide +kernel
theorem d_be_moveDownAt_8 : decode c_be_moveDownAt 8 = .ok (.dup, 1) := by decide +kernel
theorem d_be_moveDownAt_9 : decode c_be_moveDownAt 9 = .ok (.getfield 40, 3) := by decide +kernel
theorem d_be_moveDownAt_12 : decode c_be_moveDownAt 12 = .ok (.iconst 1, 1) := by decide +kernel
theorem d_be_moveDownAt_13 : decode c_be_moveDownAt 13 = .ok (.isub, 1) := by decide +kernel
theorem d_be_moveDownAt_14 : decode c_be_moveDownAt 14 = .ok (.putfield 40, 3) := by decide +kernel
theorem d_be_moveDownAt_17 : decode c_be_moveDownAt 17 = .ok (.aload_n 2, 1) := by decide +kernel
theorem d_be_moveDownAt_18 : decode c_be_moveDownAt 18 = .ok (.invokevirtual 22, 3) := by decide +kernel
theorem d_be_moveDownAt_21 : decode c_be_moveDownAt 21 = .ok (.bipush 59, 2) := by decide +kernel
theorem d_be_moveDownAt_23 : decode c_be_moveDownAt 23 = .ok (.if_icmp .ne 7, 3) := by decide +kernel
theorem d_be_moveDownAt_26 : decode c_be_moveDownAt 26 = .ok (.aload_n 2, 1) := by decide +kernel
theorem d_be_moveDownAt_27 : decode c_be_moveDownAt 27 = .ok (.invokevirtual 50, 3) := by decide +kernel
theorem d_be_moveDownAt_30 : decode c_be_moveDownAt 30 = .ok (.aload_n 2, 1) := by decide +kernel
theorem d_be_moveDownAt_31 : decode c_be_moveDownAt 31 = .ok (.getfield 40, 3) := by decide +kernel
theorem d_be_moveDownAt_34 : decode c_be_moveDownAt 34 = .ok (.ifCond .ge 8, 3) := by decide +kernel
theorem d_be_moveDownAt_37 : decode c_be_moveDownAt 37 = .ok (.aload_n 0, 1) := by decide +kernel
theorem d_be_moveDownAt_38 : decode c_be_moveDownAt 38 = .ok (.iload_n 1, 1) := by decide +kernel
theorem d_be_moveDownAt_39 : decode c_be_moveDownAt 39 = .ok (.invokevirtual 53, 3) := by decide +kernel
theorem d_be_moveDownAt_42 : decode c_be_moveDownAt 42 = .ok (.return_, 1) := by decide +kernel
theorem d_be_moveDown_0 : decode c_be_moveDown 0 = .ok (.iconst 0, 1) := by decide +kernel
theorem d_be_moveDown_1 : decode c_be_moveDown 1 = .ok (.istore_n 1, 1) := by decide +kernel
theorem d_be_moveDown_2 : decode c_be_moveDown 2 = .ok (.aload_n 0, 1) := by decide +kernel
theorem d_be_moveDown_3 : decode c_be_moveDown 3 = .ok (.getfield 18, 3) := by decide +kernel
theorem d_be_moveDown_6 : decode c_be_moveDown 6 = .ok (.iconst 1, 1) := by decide +kernel
theorem d_be_moveDown_7 : decode c_be_moveDown 7 = .ok (.isub, 1) := by decide +kernel
theorem d_be_moveDown_8 : decode c_be_moveDown 8 = .ok (.istore_n 2, 1) := by decide +kernel
theorem d_be_moveDown_9 : decode c_be_moveDown 9 = .ok (.iload_n 2, 1) := by decide +kernel
theorem d_be_moveDown_10 : decode c_be_moveDown 10 = .ok (.ifCond .lt 30, 3) := by decide +kernel
theorem d_be_moveDown_13 : decode c_be_moveDown 13 = .ok (.aload_n 0, 1) := by decide +kernel
theorem d_be_moveDown_14 : decode c_be_moveDown 14 = .ok (.getfield 11, 3) := by decide +kernel
theorem d_be_moveDown_17 : decode c_be_moveDown 17 = .ok (.iload_n 2, 1) := by decide +kernel
theorem d_be_moveDown_18 : decode c_be_moveDown 18 = .ok (.aaload, 1) := by decide +kernel
theorem d_be_moveDown_19 : decode c_be_moveDown 19 = .ok (.getfield 40, 3) := by decide +kernel
theorem d_be_moveDown_22 : decode c_be_moveDown 22 = .ok (.bipush 105, 2) := by decide +kernel
theorem d_be_moveDown_24 : decode c_be_moveDown 24 = .ok (.if_icmp .ge 10, 3) := by decide +kernel
theorem d_be_moveDown_27 : decode c_be_moveDown 27 = .ok (.iconst 1, 1) := by decide +kernel
theorem d_be_moveDown_28 : decode c_be_moveDown 28 = .ok (.istore_n 1, 1) := by decide +kernel
theorem d_be_moveDown_29 : decode c_be_moveDown 29 = .ok (.aload_n 0, 1) := by decide +kernel
theorem d_be_moveDown_30 : decode c_be_moveDown 30 = .ok (.iload_n 2, 1) := by decide +kernel
theorem d_be_moveDown_31 : decode c_be_moveDown 31 = .ok (.invokevirtual 46, 3) := by decide +kernel
theorem d_be_moveDown_34 : decode c_be_moveDown 34 = .ok (.iinc 2 (-1), 3) := by decide +kernel
theorem d_be_moveDown_37 : decode c_be_moveDown 37 = .ok (.goto (-28), 3) := by decide +kernel
theorem d_be_moveDown_40 : decode c_be_moveDown 40 = .ok (.iload_n 1, 1) := by decide +kernel
theorem d_be_moveDown_41 : decode c_be_moveDown 41 = .ok (.ireturn, 1) := by decide +kernel
theorem d_b_back_0 : decode c_b_back 0 = .ok (.aload_n 0, 1) := by decide +kernel
theorem d_b_back_1 : decode c_b_back 1 = .ok (.invokevirtual 55, 3) := by decide +kernel
theorem d_b_back_4 : decode c_b_back 4 = .ok (.iload_n 1, 1) := by decide +kernel
theorem d_b_back_5 : decode c_b_back 5 = .ok (.iconst 0, 1) := by decide +kernel
theorem d_b_back_6 : decode c_b_back 6 = .ok (.sipush 300, 3) := by decide +kernel
theorem d_b_back_9 : decode c_b_back 9 = .ok (.invokestatic 66, 3) := by decide +kernel
theorem d_b_back_12 : decode c_b_back 12 = .ok (.invokestatic 62, 3) := by decide +kernel
theorem d_b_back_15 : decode c_b_back 15 = .ok (.aload_n 0, 1) := by decide +kernel
theorem d_b_back_16 : decode c_b_back 16 = .ok (.getfield 19, 3) := by decide +kernel
theorem d_b_back_19 : decode c_b_back 19 = .ok (.getfield 127, 3) := by decide +kernel
theorem d_b_back_22 : decode c_b_back 22 = .ok (.istore_n 2, 1) := by decide +kernel
theorem d_b_back_23 : decode c_b_back 23 = .ok (.iconst 0, 1) := by decide +kernel
theorem d_b_back_24 : decode c_b_back 24 = .ok (.istore_n 3, 1) := by decide +kernel
theorem d_b_back_25 : decode c_b_back 25 = .ok (.iload_n 3, 1) := by decide +kernel
theorem d_b_back_26 : decode c_b_back 26 = .ok (.iload_n 1, 1) := by decide +kernel
theorem d_b_back_27 : decode c_b_back 27 = .ok (.if_icmp .ge 29, 3) := by decide +kernel
theorem d_b_back_30 : decode c_b_back 30 = .ok (.aload_n 0, 1) := by decide +kernel
theorem d_b_back_31 : decode c_b_back 31 = .ok (.getfield 19, 3) := by decide +kernel
theorem d_b_back_34 : decode c_b_back 34 = .ok (.invokevirtual 130, 3) := by decide +kernel
theorem d_b_back_37 : decode c_b_back 37 = .ok (.ifCond .eq 13, 3) := by decide +kernel
theorem d_b_back_40 : decode c_b_back 40 = .ok (.aload_n 0, 1) := by decide +kernel
theorem d_b_back_41 : decode c_b_back 41 = .ok (.dup, 1) := by decide +kernel
theorem d_b_back_42 : decode c_b_back 42 = .ok (.getfield 133, 3) := by decide +kernel
theorem d_b_back_45 : decode c_b_back 45 = .ok (.iconst 1, 1) := by decide +kernel
theorem d_b_back_46 : decode c_b_back 46 = .ok (.iadd, 1) := by decide +kernel
theorem d_b_back_47 : decode c_b_back 47 = .ok (.putfield 133, 3) := by decide +kernel
theorem d_b_back_50 : decode c_b_back 50 = .ok (.iinc 3 1, 3) := by decide +kernel
theorem d_b_back_53 : decode c_b_back 53 = .ok (.goto (-28), 3) := by decide +kernel
theorem d_b_back_56 : decode c_b_back 56 = .ok (.iload_n 2, 1) := by decide +kernel
theorem d_b_back_57 : decode c_b_back 57 = .ok (.aload_n 0, 1) := by decide +kernel
theorem d_b_back_58 : decode c_b_back 58 = .ok (.getfield 19, 3) := by decide +kernel
theorem d_b_back_61 : decode c_b_back 61 = .ok (.getfield 127, 3) := by decide +kernel
theorem d_b_back_64 : decode c_b_back 64 = .ok (.isub, 1) := by decide +kernel
theorem d_b_back_65 : decode c_b_back 65 = .ok (.ireturn, 1) := by decide +kernel
theorem d_vo_keep_0 : decode c_vo_keep 0 = .ok (.aload_n 0, 1) := by decide +kernel
theorem d_vo_keep_1 : decode c_vo_keep 1 = .ok (.getfield 9, 3) := by decide +kernel
theorem d_vo_keep_4 : decode c_vo_keep 4 = .ok (.aload_n 0, 1) := by decide +kernel
theorem d_vo_keep_5 : decode c_vo_keep 5 = .ok (.getfield 22, 3) := by decide +kernel
theorem d_vo_keep_8 : decode c_vo_keep 8 = .ok (.iload_n 1, 1) := by decide +kernel
theorem d_vo_keep_9 : decode c_vo_keep 9 = .ok (.iastore, 1) := by decide +kernel
theorem d_vo_keep_10 : decode c_vo_keep 10 = .ok (.aload_n 0, 1) := by decide +kernel
theorem d_vo_keep_11 : decode c_vo_keep 11 = .ok (.getfield 15, 3) := by decide +kernel
theorem d_vo_keep_14 : decode c_vo_keep 14 = .ok (.aload_n 0, 1) := by decide +kernel
theorem d_vo_keep_15 : decode c_vo_keep 15 = .ok (.getfield 22, 3) := by decide +kernel
theorem d_vo_keep_18 : decode c_vo_keep 18 = .ok (.iload_n 2, 1) := by decide +kernel
theorem d_vo_keep_19 : decode c_vo_keep 19 = .ok (.iastore, 1) := by decide +kernel
theorem d_vo_keep_20 : decode c_vo_keep 20 = .ok (.aload_n 0, 1) := by decide +kernel
theorem d_vo_keep_21 : decode c_vo_keep 21 = .ok (.getfield 18, 3) := by decide +kernel
theorem d_vo_keep_24 : decode c_vo_keep 24 = .ok (.aload_n 0, 1) := by decide +kernel
theorem d_vo_keep_25 : decode c_vo_keep 25 = .ok (.getfield 22, 3) := by decide +kernel
theorem d_vo_keep_28 : decode c_vo_keep 28 = .ok (.iload_n 3, 1) := by decide +kernel
theorem d_vo_keep_29 : decode c_vo_keep 29 = .ok (.bastore, 1) := by decide +kernel
theorem d_vo_keep_30 : decode c_vo_keep 30 = .ok (.aload_n 0, 1) := by decide +kernel
theorem d_vo_keep_31 : decode c_vo_keep 31 = .ok (.dup, 1) := by decide +kernel
theorem d_vo_keep_32 : decode c_vo_keep 32 = .ok (.getfield 22, 3) := by decide +kernel
theorem d_vo_keep_35 : decode c_vo_keep 35 = .ok (.iconst 1, 1) := by decide +kernel
theorem d_vo_keep_36 : decode c_vo_keep 36 = .ok (.iadd, 1) := by decide +kernel
theorem d_vo_keep_37 : decode c_vo_keep 37 = .ok (.putfield 22, 3) := by decide +kernel
theorem d_vo_keep_40 : decode c_vo_keep 40 = .ok (.return_, 1) := by decide +kernel
theorem d_vo_issue_0 : decode c_vo_issue 0 = .ok (.aload_n 0, 1) := by decide +kernel
theorem d_vo_issue_1 : decode c_vo_issue 1 = .ok (.dup, 1) := by decide +kernel
theorem d_vo_issue_2 : decode c_vo_issue 2 = .ok (.getfield 26, 3) := by decide +kernel
theorem d_vo_issue_5 : decode c_vo_issue 5 = .ok (.iconst 1, 1) := by decide +kernel
theorem d_vo_issue_6 : decode c_vo_issue 6 = .ok (.iadd, 1) := by decide +kernel
theorem d_vo_issue_7 : decode c_vo_issue 7 = .ok (.putfield 26, 3) := by decide +kernel
theorem d_vo_issue_10 : decode c_vo_issue 10 = .ok (.aload_n 0, 1) := by decide +kernel
theorem d_vo_issue_11 : decode c_vo_issue 11 = .ok (.aload_n 0, 1) := by decide +kernel
theorem d_vo_issue_12 : decode c_vo_issue 12 = .ok (.getfield 26, 3) := by decide +kernel
theorem d_vo_issue_15 : decode c_vo_issue 15 = .ok (.iload_n 1, 1) := by decide +kernel
theorem d_vo_issue_16 : decode c_vo_issue 16 = .ok (.iconst 0, 1) := by decide +kernel
theorem d_vo_issue_17 : decode c_vo_issue 17 = .ok (.invokevirtual 29, 3) := by decide +kernel
theorem d_vo_issue_20 : decode c_vo_issue 20 = .ok (.aload_n 0, 1) := by decide +kernel
theorem d_vo_issue_21 : decode c_vo_issue 21 = .ok (.dup, 1) := by decide +kernel
theorem d_vo_issue_22 : decode c_vo_issue 22 = .ok (.getfield 33, 3) := by decide +kernel
theorem d_vo_issue_25 : decode c_vo_issue 25 = .ok (.iload_n 1, 1) := by decide +kernel
theorem d_vo_issue_26 : decode c_vo_issue 26 = .ok (.iadd, 1) := by decide +kernel
theorem d_vo_issue_27 : decode c_vo_issue 27 = .ok (.putfield 33, 3) := by decide +kernel
theorem d_vo_issue_30 : decode c_vo_issue 30 = .ok (.aload_n 0, 1) := by decide +kernel
theorem d_vo_issue_31 : decode c_vo_issue 31 = .ok (.getfield 26, 3) := by decide +kernel
theorem d_vo_issue_34 : decode c_vo_issue 34 = .ok (.ireturn, 1) := by decide +kernel
theorem d_b_voucher_0 : decode c_b_voucher 0 = .ok (.aload_n 0, 1) := by decide +kernel
theorem d_b_voucher_1 : decode c_b_voucher 1 = .ok (.invokevirtual 55, 3) := by decide +kernel
theorem d_b_voucher_4 : decode c_b_voucher 4 = .ok (.aload_n 0, 1) := by decide +kernel
theorem d_b_voucher_5 : decode c_b_voucher 5 = .ok (.getfield 136, 3) := by decide +kernel
theorem d_b_voucher_8 : decode c_b_voucher 8 = .ok (.ifCond .eq 23, 3) := by decide +kernel
theorem d_b_voucher_11 : decode c_b_voucher 11 = .ok (.aload_n 0, 1) := by decide +kernel
theorem d_b_voucher_12 : decode c_b_voucher 12 = .ok (.getfield 33, 3) := by decide +kernel
theorem d_b_voucher_15 : decode c_b_voucher 15 = .ok (.invokevirtual 139, 3) := by decide +kernel
theorem d_b_voucher_18 : decode c_b_voucher 18 = .ok (.ifCond .ne 13, 3) := by decide +kernel
theorem d_b_voucher_21 : decode c_b_voucher 21 = .ok (.aload_n 0, 1) := by decide +kernel
theorem d_b_voucher_22 : decode c_b_voucher 22 = .ok (.getfield 40, 3) := by decide +kernel
theorem d_b_voucher_25 : decode c_b_voucher 25 = .ok (.invokevirtual 142, 3) := by decide +kernel
theorem d_b_voucher_28 : decode c_b_voucher 28 = .ok (.ifCond .ne 5, 3) := by decide +kernel
theorem d_b_voucher_31 : decode c_b_voucher 31 = .ok (.iconst 0, 1) := by decide +kernel
theorem d_b_voucher_32 : decode c_b_voucher 32 = .ok (.ireturn, 1) := by decide +kernel
theorem d_b_voucher_33 : decode c_b_voucher 33 = .ok (.aload_n 0, 1) := by decide +kernel
theorem d_b_voucher_34 : decode c_b_voucher 34 = .ok (.getfield 33, 3) := by decide +kernel
theorem d_b_voucher_37 : decode c_b_voucher 37 = .ok (.aload_n 0, 1) := by decide +kernel
theorem d_b_voucher_38 : decode c_b_voucher 38 = .ok (.getfield 136, 3) := by decide +kernel
theorem d_b_voucher_41 : decode c_b_voucher 41 = .ok (.invokevirtual 145, 3) := by decide +kernel
theorem d_b_voucher_44 : decode c_b_voucher 44 = .ok (.istore_n 1, 1) := by decide +kernel
theorem d_b_voucher_45 : decode c_b_voucher 45 = .ok (.aload_n 0, 1) := by decide +kernel
theorem d_b_voucher_46 : decode c_b_voucher 46 = .ok (.iconst 0, 1) := by decide +kernel
theorem d_b_voucher_47 : decode c_b_voucher 47 = .ok (.putfield 136, 3) := by decide +kernel
theorem d_b_voucher_50 : decode c_b_voucher 50 = .ok (.iload_n 1, 1) := by decide +kernel
theorem d_b_voucher_51 : decode c_b_voucher 51 = .ok (.ireturn, 1) := by decide +kernel
theorem d_b_give_0 : decode c_b_give 0 = .ok (.aload_n 0, 1) := by decide +kernel
theorem d_b_give_1 : decode c_b_give 1 = .ok (.invokevirtual 55, 3) := by decide +kernel
theorem d_b_give_4 : decode c_b_give 4 = .ok (.aload_n 0, 1) := by decide +kernel
theorem d_b_give_5 : decode c_b_give 5 = .ok (.getfield 136, 3) := by decide +kernel
theorem d_b_give_8 : decode c_b_give 8 = .ok (.ifCond .eq 13, 3) := by decide +kernel
theorem d_b_give_11 : decode c_b_give 11 = .ok (.aload_n 0, 1) := by decide +kernel
theorem d_b_give_12 : decode c_b_give 12 = .ok (.getfield 40, 3) := by decide +kernel
theorem d_b_give_15 : decode c_b_give 15 = .ok (.invokevirtual 142, 3) := by decide +kernel
theorem d_b_give_18 : decode c_b_give 18 = .ok (.ifCond .ne 5, 3) := by decide +kernel
theorem d_b_give_21 : decode c_b_give 21 = .ok (.iconst 0, 1) := by decide +kernel
theorem d_b_give_22 : decode c_b_give 22 = .ok (.ireturn, 1) := by decide +kernel
theorem d_b_give_23 : decode c_b_give 23 = .ok (.aload_n 0, 1) := by decide +kernel
theorem d_b_give_24 : decode c_b_give 24 = .ok (.getfield 136, 3) := by decide +kernel
theorem d_b_give_27 : decode c_b_give 27 = .ok (.istore_n 1, 1) := by decide +kernel
theorem d_b_give_28 : decode c_b_give 28 = .ok (.aload_n 0, 1) := by decide +kernel
theorem d_b_give_29 : decode c_b_give 29 = .ok (.dup, 1) := by decide +kernel
theorem d_b_give_30 : decode c_b_give 30 = .ok (.getfield 148, 3) := by decide +kernel
theorem d_b_give_33 : decode c_b_give 33 = .ok (.iload_n 1, 1) := by decide +kernel
theorem d_b_give_34 : decode c_b_give 34 = .ok (.iadd, 1) := by decide +kernel
theorem d_b_give_35 : decode c_b_give 35 = .ok (.putfield 148, 3) := by decide +kernel
theorem d_b_give_38 : decode c_b_give 38 = .ok (.aload_n 0, 1) := by decide +kernel
theorem d_b_give_39 : decode c_b_give 39 = .ok (.iconst 0, 1) := by decide +kernel
theorem d_b_give_40 : decode c_b_give 40 = .ok (.putfield 136, 3) := by decide +kernel
theorem d_b_give_43 : decode c_b_give 43 = .ok (.iload_n 1, 1) := by decide +kernel
theorem d_b_give_44 : decode c_b_give 44 = .ok (.ireturn, 1) := by decide +kernel
theorem d_vo_placeOf_0 : decode c_vo_placeOf 0 = .ok (.iconst 0, 1) := by decide +kernel
theorem d_vo_placeOf_1 : decode c_vo_placeOf 1 = .ok (.istore_n 2, 1) := by decide +kernel
theorem d_vo_placeOf_2 : decode c_vo_placeOf 2 = .ok (.iload_n 2, 1) := by decide +kernel
theorem d_vo_placeOf_3 : decode c_vo_placeOf 3 = .ok (.aload_n 0, 1) := by decide +kernel
theorem d_vo_placeOf_4 : decode c_vo_placeOf 4 = .ok (.getfield 22, 3) := by decide +kernel
theorem d_vo_placeOf_7 : decode c_vo_placeOf 7 = .ok (.if_icmp .ge 21, 3) := by decide +kernel
theorem d_vo_placeOf_10 : decode c_vo_placeOf 10 = .ok (.aload_n 0, 1) := by decide +kernel
theorem d_vo_placeOf_11 : decode c_vo_placeOf 11 = .ok (.getfield 9, 3) := by decide +kernel
theorem d_vo_placeOf_14 : decode c_vo_placeOf 14 = .ok (.iload_n 2, 1) := by decide +kernel
theorem d_vo_placeOf_15 : decode c_vo_placeOf 15 = .ok (.iaload, 1) := by decide +kernel
theorem d_vo_placeOf_16 : decode c_vo_placeOf 16 = .ok (.iload_n 1, 1) := by decide +kernel
theorem d_vo_placeOf_17 : decode c_vo_placeOf 17 = .ok (.if_icmp .ne 5, 3) := by decide +kernel
theorem d_vo_placeOf_20 : decode c_vo_placeOf 20 = .ok (.iload_n 2, 1) := by decide +kernel
theorem d_vo_placeOf_21 : decode c_vo_placeOf 21 = .ok (.ireturn, 1) := by decide +kernel
theorem d_vo_placeOf_22 : decode c_vo_placeOf 22 = .ok (.iinc 2 1, 3) := by decide +kernel
theorem d_vo_placeOf_25 : decode c_vo_placeOf 25 = .ok (.goto (-23), 3) := by decide +kernel
theorem d_vo_placeOf_28 : decode c_vo_placeOf 28 = .ok (.iconst (-1), 1) := by decide +kernel
theorem d_vo_placeOf_29 : decode c_vo_placeOf 29 = .ok (.ireturn, 1) := by decide +kernel
theorem d_vo_payOut_0 : decode c_vo_payOut 0 = .ok (.aload_n 0, 1) := by decide +kernel
theorem d_vo_payOut_1 : decode c_vo_payOut 1 = .ok (.getfield 18, 3) := by decide +kernel
theorem d_vo_payOut_4 : decode c_vo_payOut 4 = .ok (.iload_n 1, 1) := by decide +kernel
theorem d_vo_payOut_5 : decode c_vo_payOut 5 = .ok (.baload, 1) := by decide +kernel
theorem d_vo_payOut_6 : decode c_vo_payOut 6 = .ok (.ifCond .eq 5, 3) := by decide +kernel
theorem d_vo_payOut_9 : decode c_vo_payOut 9 = .ok (.iconst 0, 1) := by decide +kernel
theorem d_vo_payOut_10 : decode c_vo_payOut 10 = .ok (.ireturn, 1) := by decide +kernel
theorem d_vo_payOut_11 : decode c_vo_payOut 11 = .ok (.aload_n 0, 1) := by decide +kernel
theorem d_vo_payOut_12 : decode c_vo_payOut 12 = .ok (.getfield 18, 3) := by decide +kernel
theorem d_vo_payOut_15 : decode c_vo_payOut 15 = .ok (.iload_n 1, 1) := by decide +kernel
theorem d_vo_payOut_16 : decode c_vo_payOut 16 = .ok (.iconst 1, 1) := by decide +kernel
theorem d_vo_payOut_17 : decode c_vo_payOut 17 = .ok (.bastore, 1) := by decide +kernel
theorem d_vo_payOut_18 : decode c_vo_payOut 18 = .ok (.aload_n 0, 1) := by decide +kernel
theorem d_vo_payOut_19 : decode c_vo_payOut 19 = .ok (.getfield 15, 3) := by decide +kernel
theorem d_vo_payOut_22 : decode c_vo_payOut 22 = .ok (.iload_n 1, 1) := by decide +kernel
theorem d_vo_payOut_23 : decode c_vo_payOut 23 = .ok (.iaload, 1) := by decide +kernel
theorem d_vo_payOut_24 : decode c_vo_payOut 24 = .ok (.ireturn, 1) := by decide +kernel
theorem d_b_redeem_0 : decode c_b_redeem 0 = .ok (.aload_n 0, 1) := by decide +kernel
theorem d_b_redeem_1 : decode c_b_redeem 1 = .ok (.invokevirtual 55, 3) := by decide +kernel
theorem d_b_redeem_4 : decode c_b_redeem 4 = .ok (.aload_n 0, 1) := by decide +kernel
theorem d_b_redeem_5 : decode c_b_redeem 5 = .ok (.getfield 33, 3) := by decide +kernel
theorem d_b_redeem_8 : decode c_b_redeem 8 = .ok (.iload_n 1, 1) := by decide +kernel
theorem d_b_redeem_9 : decode c_b_redeem 9 = .ok (.invokevirtual 151, 3) := by decide +kernel
theorem d_b_redeem_12 : decode c_b_redeem 12 = .ok (.istore_n 2, 1) := by decide +kernel
theorem d_b_redeem_13 : decode c_b_redeem 13 = .ok (.iload_n 2, 1) := by decide +kernel
theorem d_b_redeem_14 : decode c_b_redeem 14 = .ok (.aload_n 0, 1) := by decide +kernel
theorem d_b_redeem_15 : decode c_b_redeem 15 = .ok (.getfield 33, 3) := by decide +kernel
theorem d_b_redeem_18 : decode c_b_redeem 18 = .ok (.getfield 154, 3) := by decide +kernel
theorem d_b_redeem_21 : decode c_b_redeem 21 = .ok (.invokestatic 58, 3) := by decide +kernel
theorem d_b_redeem_24 : decode c_b_redeem 24 = .ok (.invokestatic 62, 3) := by decide +kernel
theorem d_b_redeem_27 : decode c_b_redeem 27 = .ok (.aload_n 0, 1) := by decide +kernel
theorem d_b_redeem_28 : decode c_b_redeem 28 = .ok (.getfield 33, 3) := by decide +kernel
theorem d_b_redeem_31 : decode c_b_redeem 31 = .ok (.iload_n 2, 1) := by decide +kernel
theorem d_b_redeem_32 : decode c_b_redeem 32 = .ok (.invokevirtual 157, 3) := by decide +kernel
theorem d_b_redeem_35 : decode c_b_redeem 35 = .ok (.ireturn, 1) := by decide +kernel
theorem d_vo_forgetRedeemed_0 : decode c_vo_forgetRedeemed 0 = .ok (.aload_n 0, 1) := by decide +kernel
theorem d_vo_forgetRedeemed_1 : decode c_vo_forgetRedeemed 1 = .ok (.getfield 22, 3) := by decide +kernel
theorem d_vo_forgetRedeemed_4 : decode c_vo_forgetRedeemed 4 = .ok (.istore_n 1, 1) := by decide +kernel
theorem d_vo_forgetRedeemed_5 : decode c_vo_forgetRedeemed 5 = .ok (.aload_n 0, 1) := by decide +kernel
theorem d_vo_forgetRedeemed_6 : decode c_vo_forgetRedeemed 6 = .ok (.iconst 0, 1) := by decide +kernel
theorem d_vo_forgetRedeemed_7 : decode c_vo_forgetRedeemed 7 = .ok (.putfield 22, 3) := by decide +kernel
theorem d_vo_forgetRedeemed_10 : decode c_vo_forgetRedeemed 10 = .ok (.iconst 0, 1) := by decide +kernel
theorem d_vo_forgetRedeemed_11 : decode c_vo_forgetRedeemed 11 = .ok (.istore_n 2, 1) := by decide +kernel
theorem d_vo_forgetRedeemed_12 : decode c_vo_forgetRedeemed 12 = .ok (.iload_n 2, 1) := by decide +kernel
theorem d_vo_forgetRedeemed_13 : decode c_vo_forgetRedeemed 13 = .ok (.iload_n 1, 1) := by decide +kernel
theorem d_vo_forgetRedeemed_14 : decode c_vo_forgetRedeemed 14 = .ok (.if_icmp .ge 35, 3) := by decide +kernel
theorem d_vo_forgetRedeemed_17 : decode c_vo_forgetRedeemed 17 = .ok (.aload_n 0, 1) := by decide +kernel
theorem d_vo_forgetRedeemed_18 : decode c_vo_forgetRedeemed 18 = .ok (.getfield 18, 3) := by decide +kernel
theorem d_vo_forgetRedeemed_21 : decode c_vo_forgetRedeemed 21 = .ok (.iload_n 2, 1) := by decide +kernel
theorem d_vo_forgetRedeemed_22 : decode c_vo_forgetRedeemed 22 = .ok (.baload, 1) := by decide +kernel
theorem d_vo_forgetRedeemed_23 : decode c_vo_forgetRedeemed 23 = .ok (.ifCond .ne 20, 3) := by decide +kernel
theorem d_vo_forgetRedeemed_26 : decode c_vo_forgetRedeemed 26 = .ok (.aload_n 0, 1) := by decide +kernel
theorem d_vo_forgetRedeemed_27 : decode c_vo_forgetRedeemed 27 = .ok (.aload_n 0, 1) := by decide +kernel
theorem d_vo_forgetRedeemed_28 : decode c_vo_forgetRedeemed 28 = .ok (.getfield 9, 3) := by decide +kernel
theorem d_vo_forgetRedeemed_31 : decode c_vo_forgetRedeemed 31 = .ok (.iload_n 2, 1) := by decide +kernel
theorem d_vo_forgetRedeemed_32 : decode c_vo_forgetRedeemed 32 = .ok (.iaload, 1) := by decide +kernel
theorem d_vo_forgetRedeemed_33 : decode c_vo_forgetRedeemed 33 = .ok (.aload_n 0, 1) := by decide +kernel
theorem d_vo_forgetRedeemed_34 : decode c_vo_forgetRedeemed 34 = .ok (.getfield 15, 3) := by decide +kernel
theorem d_vo_forgetRedeemed_37 : decode c_vo_forgetRedeemed 37 = .ok (.iload_n 2, 1) := by decide +kernel
theorem d_vo_forgetRedeemed_38 : decode c_vo_forgetRedeemed 38 = .ok (.iaload, 1) := by decide +kernel
theorem d_vo_forgetRedeemed_39 : decode c_vo_forgetRedeemed 39 = .ok (.iconst 0, 1) := by decide +kernel
theorem d_vo_forgetRedeemed_40 : decode c_vo_forgetRedeemed 40 = .ok (.invokevirtual 29, 3) := by decide +kernel
theorem d_vo_forgetRedeemed_43 : decode c_vo_forgetRedeemed 43 = .ok (.iinc 2 1, 3) := by decide +kernel
theorem d_vo_forgetRedeemed_46 : decode c_vo_forgetRedeemed 46 = .ok (.goto (-34), 3) := by decide +kernel
theorem d_vo_forgetRedeemed_49 : decode c_vo_forgetRedeemed 49 = .ok (.iload_n 1, 1) := by decide +kernel
theorem d_vo_forgetRedeemed_50 : decode c_vo_forgetRedeemed 50 = .ok (.aload_n 0, 1) := by decide +kernel
theorem d_vo_forgetRedeemed_51 : decode c_vo_forgetRedeemed 51 = .ok (.getfield 22, 3) := by decide +kernel
theorem d_vo_forgetRedeemed_54 : decode c_vo_forgetRedeemed 54 = .ok (.isub, 1) := by decide +kernel
theorem d_vo_forgetRedeemed_55 : decode c_vo_forgetRedeemed 55 = .ok (.ireturn, 1) := by decide +kernel
theorem d_b_clear_0 : decode c_b_clear 0 = .ok (.aload_n 0, 1) := by decide +kernel
theorem d_b_clear_1 : decode c_b_clear 1 = .ok (.invokevirtual 55, 3) := by decide +kernel
theorem d_b_clear_4 : decode c_b_clear 4 = .ok (.aload_n 0, 1) := by decide +kernel
theorem d_b_clear_5 : decode c_b_clear 5 = .ok (.getfield 33, 3) := by decide +kernel
theorem d_b_clear_8 : decode c_b_clear 8 = .ok (.invokevirtual 160, 3) := by decide +kernel
theorem d_b_clear_11 : decode c_b_clear 11 = .ok (.ireturn, 1) := by decide +kernel
theorem d_b_empty_0 : decode c_b_empty 0 = .ok (.aload_n 0, 1) := by decide +kernel
theorem d_b_empty_1 : decode c_b_empty 1 = .ok (.invokevirtual 55, 3) := by decide +kernel
theorem d_b_empty_4 : decode c_b_empty 4 = .ok (.iload_n 1, 1) := by decide +kernel
theorem d_b_empty_5 : decode c_b_empty 5 = .ok (.iconst 3, 1) := by decide +kernel
theorem d_b_empty_6 : decode c_b_empty 6 = .ok (.invokestatic 58, 3) := by decide +kernel
theorem d_b_empty_9 : decode c_b_empty 9 = .ok (.invokestatic 62, 3) := by decide +kernel
theorem d_b_empty_12 : decode c_b_empty 12 = .ok (.iload_n 2, 1) := by decide +kernel
theorem d_b_empty_13 : decode c_b_empty 13 = .ok (.iconst 0, 1) := by decide +kernel
theorem d_b_empty_14 : decode c_b_empty 14 = .ok (.sipush 200, 3) := by decide +kernel
theorem d_b_empty_17 : decode c_b_empty 17 = .ok (.invokestatic 66, 3) := by decide +kernel
theorem d_b_empty_20 : decode c_b_empty 20 = .ok (.invokestatic 62, 3) := by decide +kernel
theorem d_b_empty_23 : decode c_b_empty 23 = .ok (.aload_n 0, 1) := by decide +kernel
theorem d_b_empty_24 : decode c_b_empty 24 = .ok (.getfield 26, 3) := by decide +kernel
theorem d_b_empty_27 : decode c_b_empty 27 = .ok (.getfield 164, 3) := by decide +kernel
theorem d_b_empty_30 : decode c_b_empty 30 = .ok (.iload_n 1, 1) := by decide +kernel
theorem d_b_empty_31 : decode c_b_empty 31 = .ok (.iaload, 1) := by decide +kernel
theorem d_b_empty_32 : decode c_b_empty 32 = .ok (.istore_n 3, 1) := by decide +kernel
theorem d_b_empty_33 : decode c_b_empty 33 = .ok (.aload_n 0, 1) := by decide +kernel
theorem d_b_empty_34 : decode c_b_empty 34 = .ok (.getfield 26, 3) := by decide +kernel
theorem d_b_empty_37 : decode c_b_empty 37 = .ok (.getfield 164, 3) := by decide +kernel
theorem d_b_empty_40 : decode c_b_empty 40 = .ok (.iload_n 1, 1) := by decide +kernel
theorem d_b_empty_41 : decode c_b_empty 41 = .ok (.iconst 0, 1) := by decide +kernel
theorem d_b_empty_42 : decode c_b_empty 42 = .ok (.iastore, 1) := by decide +kernel
theorem d_b_empty_43 : decode c_b_empty 43 = .ok (.aload_n 0, 1) := by decide +kernel
theorem d_b_empty_44 : decode c_b_empty 44 = .ok (.getfield 26, 3) := by decide +kernel
theorem d_b_empty_47 : decode c_b_empty 47 = .ok (.getfield 167, 3) := by decide +kernel
theorem d_b_empty_50 : decode c_b_empty 50 = .ok (.iload_n 1, 1) := by decide +kernel
theorem d_b_empty_51 : decode c_b_empty 51 = .ok (.iload_n 2, 1) := by decide +kernel
theorem d_b_empty_52 : decode c_b_empty 52 = .ok (.iastore, 1) := by decide +kernel
theorem d_b_empty_53 : decode c_b_empty 53 = .ok (.iload_n 3, 1) := by decide +kernel
theorem d_b_empty_54 : decode c_b_empty 54 = .ok (.ireturn, 1) := by decide +kernel
theorem d_b_service_0 : decode c_b_service 0 = .ok (.aload_n 0, 1) := by decide +kernel
theorem d_b_service_1 : decode c_b_service 1 = .ok (.invokevirtual 55, 3) := by decide +kernel
theorem d_b_service_4 : decode c_b_service 4 = .ok (.aload_n 0, 1) := by decide +kernel
theorem d_b_service_5 : decode c_b_service 5 = .ok (.invokevirtual 74, 3) := by decide +kernel
theorem d_b_service_8 : decode c_b_service 8 = .ok (.aload_n 0, 1) := by decide +kernel
theorem d_b_service_9 : decode c_b_service 9 = .ok (.invokevirtual 170, 3) := by decide +kernel
theorem d_b_service_12 : decode c_b_service 12 = .ok (.istore_n 1, 1) := by decide +kernel
theorem d_b_service_13 : decode c_b_service 13 = .ok (.aload_n 0, 1) := by decide +kernel
theorem d_b_service_14 : decode c_b_service 14 = .ok (.iconst 0, 1) := by decide +kernel
theorem d_b_service_15 : decode c_b_service 15 = .ok (.putfield 133, 3) := by decide +kernel
theorem d_b_service_18 : decode c_b_service 18 = .ok (.iload_n 1, 1) := by decide +kernel
theorem d_b_service_19 : decode c_b_service 19 = .ok (.ireturn, 1) := by decide +kernel
theorem d_b_cut_0 : decode c_b_cut 0 = .ok (.iload_n 1, 1) := by decide +kernel
theorem d_b_cut_1 : decode c_b_cut 1 = .ok (.iconst 0, 1) := by decide +kernel
theorem d_b_cut_2 : decode c_b_cut 2 = .ok (.sipush 1000, 3) := by decide +kernel
theorem d_b_cut_5 : decode c_b_cut 5 = .ok (.invokestatic 66, 3) := by decide +kernel
theorem d_b_cut_8 : decode c_b_cut 8 = .ok (.invokestatic 62, 3) := by decide +kernel
theorem d_b_cut_11 : decode c_b_cut 11 = .ok (.aload_n 0, 1) := by decide +kernel
theorem d_b_cut_12 : decode c_b_cut 12 = .ok (.getfield 40, 3) := by decide +kernel
theorem d_b_cut_15 : decode c_b_cut 15 = .ok (.iload_n 1, 1) := by decide +kernel
theorem d_b_cut_16 : decode c_b_cut 16 = .ok (.putfield 173, 3) := by decide +kernel
theorem d_b_cut_19 : decode c_b_cut 19 = .ok (.return_, 1) := by decide +kernel
theorem d_be_forgetBefore_0 : decode c_be_forgetBefore 0 = .ok (.iconst 0, 1) := by decide +kernel
theorem d_be_forgetBefore_1 : decode c_be_forgetBefore 1 = .ok (.istore_n 2, 1) := by decide +kernel
theorem d_be_forgetBefore_2 : decode c_be_forgetBefore 2 = .ok (.iload_n 2, 1) := by decide +kernel
theorem d_be_forgetBefore_3 : decode c_be_forgetBefore 3 = .ok (.aload_n 0, 1) := by decide +kernel
theorem d_be_forgetBefore_4 : decode c_be_forgetBefore 4 = .ok (.getfield 18, 3) := by decide +kernel
theorem d_be_forgetBefore_7 : decode c_be_forgetBefore 7 = .ok (.if_icmp .ge 31, 3) := by decide +kernel
theorem d_be_forgetBefore_10 : decode c_be_forgetBefore 10 = .ok (.aload_n 0, 1) := by decide +kernel
theorem d_be_forgetBefore_11 : decode c_be_forgetBefore 11 = .ok (.getfield 11, 3) := by decide +kernel
theorem d_be_forgetBefore_14 : decode c_be_forgetBefore 14 = .ok (.iload_n 2, 1) := by decide +kernel
theorem d_be_forgetBefore_15 : decode c_be_forgetBefore 15 = .ok (.aaload, 1) := by decide +kernel
theorem d_be_forgetBefore_16 : decode c_be_forgetBefore 16 = .ok (.getfield 40, 3) := by decide +kernel
theorem d_be_forgetBefore_19 : decode c_be_forgetBefore 19 = .ok (.iload_n 1, 1) := by decide +kernel
theorem d_be_forgetBefore_20 : decode c_be_forgetBefore 20 = .ok (.if_icmp .ge 12, 3) := by decide +kernel
theorem d_be_forgetBefore_23 : decode c_be_forgetBefore 23 = .ok (.aload_n 0, 1) := by decide +kernel
theorem d_be_forgetBefore_24 : decode c_be_forgetBefore 24 = .ok (.getfield 11, 3) := by decide +kernel
theorem d_be_forgetBefore_27 : decode c_be_forgetBefore 27 = .ok (.iload_n 2, 1) := by decide +kernel
theorem d_be_forgetBefore_28 : decode c_be_forgetBefore 28 = .ok (.aaload, 1) := by decide +kernel
theorem d_be_forgetBefore_29 : decode c_be_forgetBefore 29 = .ok (.invokevirtual 50, 3) := by decide +kernel
theorem d_be_forgetBefore_32 : decode c_be_forgetBefore 32 = .ok (.iinc 2 1, 3) := by decide +kernel
theorem d_be_forgetBefore_35 : decode c_be_forgetBefore 35 = .ok (.goto (-33), 3) := by decide +kernel
theorem d_be_forgetBefore_38 : decode c_be_forgetBefore 38 = .ok (.return_, 1) := by decide +kernel
theorem d_b_payUnpaid_0 : decode c_b_payUnpaid 0 = .ok (.iconst 0, 1) := by decide +kernel
theorem d_b_payUnpaid_1 : decode c_b_payUnpaid 1 = .ok (.istore_n 1, 1) := by decide +kernel
theorem d_b_payUnpaid_2 : decode c_b_payUnpaid 2 = .ok (.iload_n 1, 1) := by decide +kernel
theorem d_b_payUnpaid_3 : decode c_b_payUnpaid 3 = .ok (.aload_n 0, 1) := by decide +kernel
theorem d_b_payUnpaid_4 : decode c_b_payUnpaid 4 = .ok (.getfield 19, 3) := by decide +kernel
theorem d_b_payUnpaid_7 : decode c_b_payUnpaid 7 = .ok (.getfield 127, 3) := by decide +kernel
theorem d_b_payUnpaid_10 : decode c_b_payUnpaid 10 = .ok (.if_icmp .ge 50, 3) := by decide +kernel
theorem d_b_payUnpaid_13 : decode c_b_payUnpaid 13 = .ok (.aload_n 0, 1) := by decide +kernel
theorem d_b_payUnpaid_14 : decode c_b_payUnpaid 14 = .ok (.getfield 40, 3) := by decide +kernel
theorem d_b_payUnpaid_17 : decode c_b_payUnpaid 17 = .ok (.getfield 116, 3) := by decide +kernel
theorem d_b_payUnpaid_20 : decode c_b_payUnpaid 20 = .ok (.ifCond .eq 40, 3) := by decide +kernel
theorem d_b_payUnpaid_23 : decode c_b_payUnpaid 23 = .ok (.aload_n 0, 1) := by decide +kernel
theorem d_b_payUnpaid_24 : decode c_b_payUnpaid 24 = .ok (.getfield 19, 3) := by decide +kernel
theorem d_b_payUnpaid_27 : decode c_b_payUnpaid 27 = .ok (.getfield 232, 3) := by decide +kernel
theorem d_b_payUnpaid_30 : decode c_b_payUnpaid 30 = .ok (.iload_n 1, 1) := by decide +kernel
theorem d_b_payUnpaid_31 : decode c_b_payUnpaid 31 = .ok (.aaload, 1) := by decide +kernel
theorem d_b_payUnpaid_32 : decode c_b_payUnpaid 32 = .ok (.astore_n 2, 1) := by decide +kernel
theorem d_b_payUnpaid_33 : decode c_b_payUnpaid 33 = .ok (.aload_n 2, 1) := by decide +kernel
theorem d_b_payUnpaid_34 : decode c_b_payUnpaid 34 = .ok (.getfield 216, 3) := by decide +kernel
theorem d_b_payUnpaid_37 : decode c_b_payUnpaid 37 = .ok (.bipush 105, 2) := by decide +kernel
theorem d_b_payUnpaid_39 : decode c_b_payUnpaid 39 = .ok (.if_icmp .lt 15, 3) := by decide +kernel
theorem d_b_payUnpaid_42 : decode c_b_payUnpaid 42 = .ok (.aload_n 2, 1) := by decide +kernel
theorem d_b_payUnpaid_43 : decode c_b_payUnpaid 43 = .ok (.getfield 228, 3) := by decide +kernel
theorem d_b_payUnpaid_46 : decode c_b_payUnpaid 46 = .ok (.ifCond .ne 8, 3) := by decide +kernel
theorem d_b_payUnpaid_49 : decode c_b_payUnpaid 49 = .ok (.aload_n 0, 1) := by decide +kernel
theorem d_b_payUnpaid_50 : decode c_b_payUnpaid 50 = .ok (.aload_n 2, 1) := by decide +kernel
theorem d_b_payUnpaid_51 : decode c_b_payUnpaid 51 = .ok (.invokevirtual 264, 3) := by decide +kernel
theorem d_b_payUnpaid_54 : decode c_b_payUnpaid 54 = .ok (.iinc 1 1, 3) := by decide +kernel
theorem d_b_payUnpaid_57 : decode c_b_payUnpaid 57 = .ok (.goto (-55), 3) := by decide +kernel
theorem d_b_payUnpaid_60 : decode c_b_payUnpaid 60 = .ok (.return_, 1) := by decide +kernel
theorem d_b_binWaiting_0 : decode c_b_binWaiting 0 = .ok (.iconst 0, 1) := by decide +kernel
theorem d_b_binWaiting_1 : decode c_b_binWaiting 1 = .ok (.istore_n 1, 1) := by decide +kernel
theorem d_b_binWaiting_2 : decode c_b_binWaiting 2 = .ok (.aload_n 0, 1) := by decide +kernel
theorem d_b_binWaiting_3 : decode c_b_binWaiting 3 = .ok (.getfield 19, 3) := by decide +kernel
theorem d_b_binWaiting_6 : decode c_b_binWaiting 6 = .ok (.getfield 127, 3) := by decide +kernel
theorem d_b_binWaiting_9 : decode c_b_binWaiting 9 = .ok (.istore_n 2, 1) := by decide +kernel
theorem d_b_binWaiting_10 : decode c_b_binWaiting 10 = .ok (.iload_n 2, 1) := by decide +kernel
theorem d_b_binWaiting_11 : decode c_b_binWaiting 11 = .ok (.ifCond .le 57, 3) := by decide +kernel
theorem d_b_binWaiting_14 : decode c_b_binWaiting 14 = .ok (.aload_n 0, 1) := by decide +kernel
theorem d_b_binWaiting_15 : decode c_b_binWaiting 15 = .ok (.getfield 40, 3) := by decide +kernel
theorem d_b_binWaiting_18 : decode c_b_binWaiting 18 = .ok (.getfield 116, 3) := by decide +kernel
theorem d_b_binWaiting_21 : decode c_b_binWaiting 21 = .ok (.ifCond .eq 47, 3) := by decide +kernel
theorem d_b_binWaiting_24 : decode c_b_binWaiting 24 = .ok (.aload_n 0, 1) := by decide +kernel
theorem d_b_binWaiting_25 : decode c_b_binWaiting 25 = .ok (.getfield 19, 3) := by decide +kernel
theorem d_b_binWaiting_28 : decode c_b_binWaiting 28 = .ok (.getfield 232, 3) := by decide +kernel
theorem d_b_binWaiting_31 : decode c_b_binWaiting 31 = .ok (.iload_n 1, 1) := by decide +kernel
theorem d_b_binWaiting_32 : decode c_b_binWaiting 32 = .ok (.aaload, 1) := by decide +kernel
theorem d_b_binWaiting_33 : decode c_b_binWaiting 33 = .ok (.invokevirtual 257, 3) := by decide +kernel
theorem d_b_binWaiting_36 : decode c_b_binWaiting 36 = .ok (.bipush 110, 2) := by decide +kernel
theorem d_b_binWaiting_38 : decode c_b_binWaiting 38 = .ok (.if_icmp .lt 7, 3) := by decide +kernel
theorem d_b_binWaiting_41 : decode c_b_binWaiting 41 = .ok (.iconst 1, 1) := by decide +kernel
theorem d_b_binWaiting_42 : decode c_b_binWaiting 42 = .ok (.goto 4, 3) := by decide +kernel
theorem d_b_binWaiting_45 : decode c_b_binWaiting 45 = .ok (.iconst 0, 1) := by decide +kernel
theorem d_b_binWaiting_46 : decode c_b_binWaiting 46 = .ok (.istore_n 3, 1) := by decide +kernel
theorem d_b_binWaiting_47 : decode c_b_binWaiting 47 = .ok (.iload_n 3, 1) := by decide +kernel
theorem d_b_binWaiting_48 : decode c_b_binWaiting 48 = .ok (.ifCond .eq 11, 3) := by decide +kernel
theorem d_b_binWaiting_51 : decode c_b_binWaiting 51 = .ok (.aload_n 0, 1) := by decide +kernel
theorem d_b_binWaiting_52 : decode c_b_binWaiting 52 = .ok (.iload_n 1, 1) := by decide +kernel
theorem d_b_binWaiting_53 : decode c_b_binWaiting 53 = .ok (.invokevirtual 267, 3) := by decide +kernel
theorem d_b_binWaiting_56 : decode c_b_binWaiting 56 = .ok (.ifCond .ne 6, 3) := by decide +kernel
theorem d_b_binWaiting_59 : decode c_b_binWaiting 59 = .ok (.iinc 1 1, 3) := by decide +kernel
theorem d_b_binWaiting_62 : decode c_b_binWaiting 62 = .ok (.iinc 2 (-1), 3) := by decide +kernel
theorem d_b_binWaiting_65 : decode c_b_binWaiting 65 = .ok (.goto (-55), 3) := by decide +kernel
theorem d_b_binWaiting_68 : decode c_b_binWaiting 68 = .ok (.return_, 1) := by decide +kernel
theorem d_b_power_0 : decode c_b_power 0 = .ok (.aload_n 0, 1) := by decide +kernel
theorem d_b_power_1 : decode c_b_power 1 = .ok (.getfield 40, 3) := by decide +kernel
theorem d_b_power_4 : decode c_b_power 4 = .ok (.getfield 116, 3) := by decide +kernel
theorem d_b_power_7 : decode c_b_power 7 = .ok (.ifCond .eq 5, 3) := by decide +kernel
theorem d_b_power_10 : decode c_b_power 10 = .ok (.iconst (-1), 1) := by decide +kernel
theorem d_b_power_11 : decode c_b_power 11 = .ok (.ireturn, 1) := by decide +kernel
theorem d_b_power_12 : decode c_b_power 12 = .ok (.aload_n 0, 1) := by decide +kernel
theorem d_b_power_13 : decode c_b_power 13 = .ok (.getfield 40, 3) := by decide +kernel
theorem d_b_power_16 : decode c_b_power 16 = .ok (.getfield 176, 3) := by decide +kernel
theorem d_b_power_19 : decode c_b_power 19 = .ok (.istore_n 1, 1) := by decide +kernel
theorem d_b_power_20 : decode c_b_power 20 = .ok (.aload_n 0, 1) := by decide +kernel
theorem d_b_power_21 : decode c_b_power 21 = .ok (.getfield 40, 3) := by decide +kernel
theorem d_b_power_24 : decode c_b_power 24 = .ok (.iconst 1, 1) := by decide +kernel
theorem d_b_power_25 : decode c_b_power 25 = .ok (.putfield 116, 3) := by decide +kernel
theorem d_b_power_28 : decode c_b_power 28 = .ok (.aload_n 0, 1) := by decide +kernel
theorem d_b_power_29 : decode c_b_power 29 = .ok (.getfield 19, 3) := by decide +kernel
theorem d_b_power_32 : decode c_b_power 32 = .ok (.bipush 105, 2) := by decide +kernel
theorem d_b_power_34 : decode c_b_power 34 = .ok (.invokevirtual 179, 3) := by decide +kernel
theorem d_b_power_37 : decode c_b_power 37 = .ok (.aload_n 0, 1) := by decide +kernel
theorem d_b_power_38 : decode c_b_power 38 = .ok (.invokevirtual 182, 3) := by decide +kernel
theorem d_b_power_41 : decode c_b_power 41 = .ok (.aload_n 0, 1) := by decide +kernel
theorem d_b_power_42 : decode c_b_power 42 = .ok (.invokevirtual 185, 3) := by decide +kernel
theorem d_b_power_45 : decode c_b_power 45 = .ok (.aload_n 0, 1) := by decide +kernel
theorem d_b_power_46 : decode c_b_power 46 = .ok (.getfield 40, 3) := by decide +kernel
theorem d_b_power_49 : decode c_b_power 49 = .ok (.getfield 176, 3) := by decide +kernel
theorem d_b_power_52 : decode c_b_power 52 = .ok (.iload_n 1, 1) := by decide +kernel
theorem d_b_power_53 : decode c_b_power 53 = .ok (.isub, 1) := by decide +kernel
theorem d_b_power_54 : decode c_b_power 54 = .ok (.ireturn, 1) := by decide +kernel
theorem d_b_check_0 : decode c_b_check 0 = .ok (.iload_n 1, 1) := by decide +kernel
theorem d_b_check_1 : decode c_b_check 1 = .ok (.iconst 0, 1) := by decide +kernel
theorem d_b_check_2 : decode c_b_check 2 = .ok (.ldc 188, 2) := by decide +kernel
theorem d_b_check_4 : decode c_b_check 4 = .ok (.invokestatic 66, 3) := by decide +kernel
theorem d_b_check_7 : decode c_b_check 7 = .ok (.invokestatic 62, 3) := by decide +kernel
theorem d_b_check_10 : decode c_b_check 10 = .ok (.iload_n 2, 1) := by decide +kernel
theorem d_b_check_11 : decode c_b_check 11 = .ok (.iconst 0, 1) := by decide +kernel
theorem d_b_check_12 : decode c_b_check 12 = .ok (.ldc 188, 2) := by decide +kernel
theorem d_b_check_14 : decode c_b_check 14 = .ok (.invokestatic 66, 3) := by decide +kernel
theorem d_b_check_17 : decode c_b_check 17 = .ok (.invokestatic 62, 3) := by decide +kernel
theorem d_b_check_20 : decode c_b_check 20 = .ok (.iload_n 1, 1) := by decide +kernel
theorem d_b_check_21 : decode c_b_check 21 = .ok (.i2l, 1) := by decide +kernel
theorem d_b_check_22 : decode c_b_check 22 = .ok (.ldc2_w 189, 3) := by decide +kernel
theorem d_b_check_25 : decode c_b_check 25 = .ok (.lmul, 1) := by decide +kernel
theorem d_b_check_26 : decode c_b_check 26 = .ok (.iload_n 2, 1) := by decide +kernel
theorem d_b_check_27 : decode c_b_check 27 = .ok (.i2l, 1) := by decide +kernel
theorem d_b_check_28 : decode c_b_check 28 = .ok (.ladd, 1) := by decide +kernel
theorem d_b_check_29 : decode c_b_check 29 = .ok (.lstore_n 3, 1) := by decide +kernel
theorem d_b_check_30 : decode c_b_check 30 = .ok (.iload_n 2, 1) := by decide +kernel
theorem d_b_check_31 : decode c_b_check 31 = .ok (.bipush 100, 2) := by decide +kernel
theorem d_b_check_33 : decode c_b_check 33 = .ok (.idiv, 1) := by decide +kernel
theorem d_b_check_34 : decode c_b_check 34 = .ok (.bipush 100, 2) := by decide +kernel
theorem d_b_check_36 : decode c_b_check 36 = .ok (.irem, 1) := by decide +kernel
theorem d_b_check_37 : decode c_b_check 37 = .ok (.bipush 37, 2) := by decide +kernel
theorem d_b_check_39 : decode c_b_check 39 = .ok (.if_icmp .ne 17, 3) := by decide +kernel
theorem d_b_check_42 : decode c_b_check 42 = .ok (.lload_n 3, 1) := by decide +kernel
theorem d_b_check_43 : decode c_b_check 43 = .ok (.ldc2_w 191, 3) := by decide +kernel
theorem d_b_check_46 : decode c_b_check 46 = .ok (.lrem, 1) := by decide +kernel
theorem d_b_check_47 : decode c_b_check 47 = .ok (.lconst 1, 1) := by decide +kernel
theorem d_b_check_48 : decode c_b_check 48 = .ok (.lcmp, 1) := by decide +kernel
theorem d_b_check_49 : decode c_b_check 49 = .ok (.ifCond .ne 7, 3) := by decide +kernel
theorem d_b_check_52 : decode c_b_check 52 = .ok (.iconst 1, 1) := by decide +kernel
theorem d_b_check_53 : decode c_b_check 53 = .ok (.goto 4, 3) := by decide +kernel
theorem d_b_check_56 : decode c_b_check 56 = .ok (.iconst 0, 1) := by decide +kernel
theorem d_b_check_57 : decode c_b_check 57 = .ok (.ireturn, 1) := by decide +kernel
theorem d_vo_firstDigits_0 : decode c_vo_firstDigits 0 = .ok (.aload_n 0, 1) := by decide +kernel
theorem d_vo_firstDigits_1 : decode c_vo_firstDigits 1 = .ok (.getfield 9, 3) := by decide +kernel
theorem d_vo_firstDigits_4 : decode c_vo_firstDigits 4 = .ok (.iload_n 1, 1) := by decide +kernel
theorem d_vo_firstDigits_5 : decode c_vo_firstDigits 5 = .ok (.iaload, 1) := by decide +kernel
theorem d_vo_firstDigits_6 : decode c_vo_firstDigits 6 = .ok (.bipush 100, 2) := by decide +kernel
theorem d_vo_firstDigits_8 : decode c_vo_firstDigits 8 = .ok (.imul, 1) := by decide +kernel
theorem d_vo_firstDigits_9 : decode c_vo_firstDigits 9 = .ok (.aload_n 0, 1) := by decide +kernel
theorem d_vo_firstDigits_10 : decode c_vo_firstDigits 10 = .ok (.getfield 15, 3) := by decide +kernel
theorem d_vo_firstDigits_13 : decode c_vo_firstDigits 13 = .ok (.iload_n 1, 1) := by decide +kernel
theorem d_vo_firstDigits_14 : decode c_vo_firstDigits 14 = .ok (.iaload, 1) := by decide +kernel
theorem d_vo_firstDigits_15 : decode c_vo_firstDigits 15 = .ok (.sipush 10000, 3) := by decide +kernel
theorem d_vo_firstDigits_18 : decode c_vo_firstDigits 18 = .ok (.idiv, 1) := by decide +kernel
theorem d_vo_firstDigits_19 : decode c_vo_firstDigits 19 = .ok (.iadd, 1) := by decide +kernel
theorem d_vo_firstDigits_20 : decode c_vo_firstDigits 20 = .ok (.ireturn, 1) := by decide +kernel
theorem d_vo_lastDigits_0 : decode c_vo_lastDigits 0 = .ok (.aload_n 0, 1) := by decide +kernel
theorem d_vo_lastDigits_1 : decode c_vo_lastDigits 1 = .ok (.getfield 15, 3) := by decide +kernel
theorem d_vo_lastDigits_4 : decode c_vo_lastDigits 4 = .ok (.iload_n 1, 1) := by decide +kernel
theorem d_vo_lastDigits_5 : decode c_vo_lastDigits 5 = .ok (.iaload, 1) := by decide +kernel
theorem d_vo_lastDigits_6 : decode c_vo_lastDigits 6 = .ok (.sipush 10000, 3) := by decide +kernel
theorem d_vo_lastDigits_9 : decode c_vo_lastDigits 9 = .ok (.irem, 1) := by decide +kernel
theorem d_vo_lastDigits_10 : decode c_vo_lastDigits 10 = .ok (.sipush 10000, 3) := by decide +kernel
theorem d_vo_lastDigits_13 : decode c_vo_lastDigits 13 = .ok (.imul, 1) := by decide +kernel
theorem d_vo_lastDigits_14 : decode c_vo_lastDigits 14 = .ok (.sipush 3700, 3) := by decide +kernel
theorem d_vo_lastDigits_17 : decode c_vo_lastDigits 17 = .ok (.iadd, 1) := by decide +kernel
theorem d_vo_lastDigits_18 : decode c_vo_lastDigits 18 = .ok (.istore_n 2, 1) := by decide +kernel
theorem d_vo_lastDigits_19 : decode c_vo_lastDigits 19 = .ok (.aload_n 0, 1) := by decide +kernel
theorem d_vo_lastDigits_20 : decode c_vo_lastDigits 20 = .ok (.iload_n 1, 1) := by decide +kernel
theorem d_vo_lastDigits_21 : decode c_vo_lastDigits 21 = .ok (.invokevirtual 36, 3) := by decide +kernel
theorem d_vo_lastDigits_24 : decode c_vo_lastDigits 24 = .ok (.i2l, 1) := by decide +kernel
theorem d_vo_lastDigits_25 : decode c_vo_lastDigits 25 = .ok (.ldc2_w 40, 3) := by decide +kernel
theorem d_vo_lastDigits_28 : decode c_vo_lastDigits 28 = .ok (.lmul, 1) := by decide +kernel
theorem d_vo_lastDigits_29 : decode c_vo_lastDigits 29 = .ok (.iload_n 2, 1) := by decide +kernel
theorem d_vo_lastDigits_30 : decode c_vo_lastDigits 30 = .ok (.i2l, 1) := by decide +kernel
theorem d_vo_lastDigits_31 : decode c_vo_lastDigits 31 = .ok (.ladd, 1) := by decide +kernel
theorem d_vo_lastDigits_32 : decode c_vo_lastDigits 32 = .ok (.lstore_n 3, 1) := by decide +kernel
theorem d_vo_lastDigits_33 : decode c_vo_lastDigits 33 = .ok (.iload_n 2, 1) := by decide +kernel
theorem d_vo_lastDigits_34 : decode c_vo_lastDigits 34 = .ok (.bipush 97, 2) := by decide +kernel
theorem d_vo_lastDigits_36 : decode c_vo_lastDigits 36 = .ok (.iadd, 1) := by decide +kernel
theorem d_vo_lastDigits_37 : decode c_vo_lastDigits 37 = .ok (.iconst 1, 1) := by decide +kernel
theorem d_vo_lastDigits_38 : decode c_vo_lastDigits 38 = .ok (.iadd, 1) := by decide +kernel
theorem d_vo_lastDigits_39 : decode c_vo_lastDigits 39 = .ok (.lload_n 3, 1) := by decide +kernel
theorem d_vo_lastDigits_40 : decode c_vo_lastDigits 40 = .ok (.ldc2_w 42, 3) := by decide +kernel
theorem d_vo_lastDigits_43 : decode c_vo_lastDigits 43 = .ok (.lrem, 1) := by decide +kernel
theorem d_vo_lastDigits_44 : decode c_vo_lastDigits 44 = .ok (.l2i, 1) := by decide +kernel
theorem d_vo_lastDigits_45 : decode c_vo_lastDigits 45 = .ok (.isub, 1) := by decide +kernel
theorem d_vo_lastDigits_46 : decode c_vo_lastDigits 46 = .ok (.ireturn, 1) := by decide +kernel
theorem d_b_asNumber_0 : decode c_b_asNumber 0 = .ok (.iload_n 0, 1) := by decide +kernel
theorem d_b_asNumber_1 : decode c_b_asNumber 1 = .ok (.ifCond .eq 7, 3) := by decide +kernel
theorem d_b_asNumber_4 : decode c_b_asNumber 4 = .ok (.iconst 1, 1) := by decide +kernel
theorem d_b_asNumber_5 : decode c_b_asNumber 5 = .ok (.goto 4, 3) := by decide +kernel
theorem d_b_asNumber_8 : decode c_b_asNumber 8 = .ok (.iconst 0, 1) := by decide +kernel
theorem d_b_asNumber_9 : decode c_b_asNumber 9 = .ok (.ireturn, 1) := by decide +kernel
theorem d_b_about_0 : decode c_b_about 0 = .ok (.aload_n 0, 1) := by decide +kernel
theorem d_b_about_1 : decode c_b_about 1 = .ok (.getfield 33, 3) := by decide +kernel
theorem d_b_about_4 : decode c_b_about 4 = .ok (.iload_n 1, 1) := by decide +kernel
theorem d_b_about_5 : decode c_b_about 5 = .ok (.invokevirtual 151, 3) := by decide +kernel
theorem d_b_about_8 : decode c_b_about 8 = .ok (.istore_n 3, 1) := by decide +kernel
theorem d_b_about_9 : decode c_b_about 9 = .ok (.iload_n 3, 1) := by decide +kernel
theorem d_b_about_10 : decode c_b_about 10 = .ok (.aload_n 0, 1) := by decide +kernel
theorem d_b_about_11 : decode c_b_about 11 = .ok (.getfield 33, 3) := by decide +kernel
theorem d_b_about_14 : decode c_b_about 14 = .ok (.getfield 154, 3) := by decide +kernel
theorem d_b_about_17 : decode c_b_about 17 = .ok (.invokestatic 58, 3) := by decide +kernel
theorem d_b_about_20 : decode c_b_about 20 = .ok (.invokestatic 62, 3) := by decide +kernel
theorem d_b_about_23 : decode c_b_about 23 = .ok (.iload_n 2, 1) := by decide +kernel
theorem d_b_about_24 : decode c_b_about 24 = .ok (.tableswitch 73 0 3 #[32, 42, 51, 60], 32) := by decide +kernel
theorem d_b_about_56 : decode c_b_about 56 = .ok (.aload_n 0, 1) := by decide +kernel
theorem d_b_about_57 : decode c_b_about 57 = .ok (.getfield 33, 3) := by decide +kernel
theorem d_b_about_60 : decode c_b_about 60 = .ok (.getfield 193, 3) := by decide +kernel
theorem d_b_about_63 : decode c_b_about 63 = .ok (.iload_n 3, 1) := by decide +kernel
theorem d_b_about_64 : decode c_b_about 64 = .ok (.iaload, 1) := by decide +kernel
theorem d_b_about_65 : decode c_b_about 65 = .ok (.ireturn, 1) := by decide +kernel
theorem d_b_about_66 : decode c_b_about 66 = .ok (.aload_n 0, 1) := by decide +kernel
theorem d_b_about_67 : decode c_b_about 67 = .ok (.getfield 33, 3) := by decide +kernel
theorem d_b_about_70 : decode c_b_about 70 = .ok (.iload_n 3, 1) := by decide +kernel
theorem d_b_about_71 : decode c_b_about 71 = .ok (.invokevirtual 196, 3) := by decide +kernel
theorem d_b_about_74 : decode c_b_about 74 = .ok (.ireturn, 1) := by decide +kernel
theorem d_b_about_75 : decode c_b_about 75 = .ok (.aload_n 0, 1) := by decide +kernel
theorem d_b_about_76 : decode c_b_about 76 = .ok (.getfield 33, 3) := by decide +kernel
theorem d_b_about_79 : decode c_b_about 79 = .ok (.iload_n 3, 1) := by decide +kernel
theorem d_b_about_80 : decode c_b_about 80 = .ok (.invokevirtual 199, 3) := by decide +kernel
theorem d_b_about_83 : decode c_b_about 83 = .ok (.ireturn, 1) := by decide +kernel
theorem d_b_about_84 : decode c_b_about 84 = .ok (.aload_n 0, 1) := by decide +kernel
theorem d_b_about_85 : decode c_b_about 85 = .ok (.getfield 33, 3) := by decide +kernel
theorem d_b_about_88 : decode c_b_about 88 = .ok (.getfield 202, 3) := by decide +kernel
theorem d_b_about_91 : decode c_b_about 91 = .ok (.iload_n 3, 1) := by decide +kernel
theorem d_b_about_92 : decode c_b_about 92 = .ok (.baload, 1) := by decide +kernel
theorem d_b_about_93 : decode c_b_about 93 = .ok (.invokestatic 206, 3) := by decide +kernel
theorem d_b_about_96 : decode c_b_about 96 = .ok (.ireturn, 1) := by decide +kernel
theorem d_b_about_97 : decode c_b_about 97 = .ok (.new 210, 3) := by decide +kernel
theorem d_b_about_100 : decode c_b_about 100 = .ok (.dup, 1) := by decide +kernel
theorem d_b_about_101 : decode c_b_about 101 = .ok (.invokespecial 212, 3) := by decide +kernel
theorem d_b_about_104 : decode c_b_about 104 = .ok (.athrow, 1) := by decide +kernel
theorem d_be_withNumber_0 : decode c_be_withNumber 0 = .ok (.iconst 0, 1) := by decide +kernel
theorem d_be_withNumber_1 : decode c_be_withNumber 1 = .ok (.istore_n 2, 1) := by decide +kernel
theorem d_be_withNumber_2 : decode c_be_withNumber 2 = .ok (.iload_n 2, 1) := by decide +kernel
theorem d_be_withNumber_3 : decode c_be_withNumber 3 = .ok (.aload_n 0, 1) := by decide +kernel
theorem d_be_withNumber_4 : decode c_be_withNumber 4 = .ok (.getfield 18, 3) := by decide +kernel
theorem d_be_withNumber_7 : decode c_be_withNumber 7 = .ok (.if_icmp .ge 29, 3) := by decide +kernel
theorem d_be_withNumber_10 : decode c_be_withNumber 10 = .ok (.aload_n 0, 1) := by decide +kernel
theorem d_be_withNumber_11 : decode c_be_withNumber 11 = .ok (.getfield 11, 3) := by decide +kernel
theorem d_be_withNumber_14 : decode c_be_withNumber 14 = .ok (.iload_n 2, 1) := by decide +kernel
theorem d_be_withNumber_15 : decode c_be_withNumber 15 = .ok (.aaload, 1) := by decide +kernel
theorem d_be_withNumber_16 : decode c_be_withNumber 16 = .ok (.getfield 37, 3) := by decide +kernel
theorem d_be_withNumber_19 : decode c_be_withNumber 19 = .ok (.iload_n 1, 1) := by decide +kernel
theorem d_be_withNumber_20 : decode c_be_withNumber 20 = .ok (.if_icmp .ne 10, 3) := by decide +kernel
theorem d_be_withNumber_23 : decode c_be_withNumber 23 = .ok (.aload_n 0, 1) := by decide +kernel
theorem d_be_withNumber_24 : decode c_be_withNumber 24 = .ok (.getfield 11, 3) := by decide +kernel
theorem d_be_withNumber_27 : decode c_be_withNumber 27 = .ok (.iload_n 2, 1) := by decide +kernel
theorem d_be_withNumber_28 : decode c_be_withNumber 28 = .ok (.aaload, 1) := by decide +kernel
theorem d_be_withNumber_29 : decode c_be_withNumber 29 = .ok (.areturn, 1) := by decide +kernel
theorem d_be_withNumber_30 : decode c_be_withNumber 30 = .ok (.iinc 2 1, 3) := by decide +kernel
theorem d_be_withNumber_33 : decode c_be_withNumber 33 = .ok (.goto (-31), 3) := by decide +kernel
theorem d_be_withNumber_36 : decode c_be_withNumber 36 = .ok (.aconst_null, 1) := by decide +kernel
theorem d_be_withNumber_37 : decode c_be_withNumber 37 = .ok (.areturn, 1) := by decide +kernel
theorem d_b_container_0 : decode c_b_container 0 = .ok (.aload_n 0, 1) := by decide +kernel
theorem d_b_container_1 : decode c_b_container 1 = .ok (.getfield 19, 3) := by decide +kernel
theorem d_b_container_4 : decode c_b_container 4 = .ok (.iload_n 1, 1) := by decide +kernel
theorem d_b_container_5 : decode c_b_container 5 = .ok (.invokevirtual 213, 3) := by decide +kernel
theorem d_b_container_8 : decode c_b_container 8 = .ok (.astore_n 3, 1) := by decide +kernel
theorem d_b_container_9 : decode c_b_container 9 = .ok (.aload_n 3, 1) := by decide +kernel
theorem d_b_container_10 : decode c_b_container 10 = .ok (.ifnonnull 11, 3) := by decide +kernel
theorem d_b_container_13 : decode c_b_container 13 = .ok (.new 210, 3) := by decide +kernel
theorem d_b_container_16 : decode c_b_container 16 = .ok (.dup, 1) := by decide +kernel
theorem d_b_container_17 : decode c_b_container 17 = .ok (.invokespecial 212, 3) := by decide +kernel
theorem d_b_container_20 : decode c_b_container 20 = .ok (.athrow, 1) := by decide +kernel
theorem d_b_container_21 : decode c_b_container 21 = .ok (.iload_n 2, 1) := by decide +kernel
theorem d_b_container_22 : decode c_b_container 22 = .ok (.tableswitch 86 0 6 #[42, 47, 52, 57, 62, 70, 78], 42) := by decide +kernel
theorem d_b_container_64 : decode c_b_container 64 = .ok (.aload_n 3, 1) := by decide +kernel
theorem d_b_container_65 : decode c_b_container 65 = .ok (.getfield 216, 3) := by decide +kernel
theorem d_b_container_68 : decode c_b_container 68 = .ok (.ireturn, 1) := by decide +kernel
theorem d_b_container_69 : decode c_b_container 69 = .ok (.aload_n 3, 1) := by decide +kernel
theorem d_b_container_70 : decode c_b_container 70 = .ok (.getfield 219, 3) := by decide +kernel
theorem d_b_container_73 : decode c_b_container 73 = .ok (.ireturn, 1) := by decide +kernel
theorem d_b_container_74 : decode c_b_container 74 = .ok (.aload_n 3, 1) := by decide +kernel
theorem d_b_container_75 : decode c_b_container 75 = .ok (.getfield 222, 3) := by decide +kernel
theorem d_b_container_78 : decode c_b_container 78 = .ok (.ireturn, 1) := by decide +kernel
theorem d_b_container_79 : decode c_b_container 79 = .ok (.aload_n 3, 1) := by decide +kernel
theorem d_b_container_80 : decode c_b_container 80 = .ok (.getfield 225, 3) := by decide +kernel
theorem d_b_container_83 : decode c_b_container 83 = .ok (.ireturn, 1) := by decide +kernel
theorem d_b_container_84 : decode c_b_container 84 = .ok (.aload_n 3, 1) := by decide +kernel
theorem d_b_container_85 : decode c_b_container 85 = .ok (.getfield 228, 3) := by decide +kernel
theorem d_b_container_88 : decode c_b_container 88 = .ok (.invokestatic 206, 3) := by decide +kernel
theorem d_b_container_91 : decode c_b_container 91 = .ok (.ireturn, 1) := by decide +kernel
theorem d_b_container_92 : decode c_b_container 92 = .ok (.aload_n 3, 1) := by decide +kernel
theorem d_b_container_93 : decode c_b_container 93 = .ok (.getfield 97, 3) := by decide +kernel
theorem d_b_container_96 : decode c_b_container 96 = .ok (.getfield 231, 3) := by decide +kernel
theorem d_b_container_99 : decode c_b_container 99 = .ok (.ireturn, 1) := by decide +kernel
theorem d_b_container_100 : decode c_b_container 100 = .ok (.aload_n 3, 1) := by decide +kernel
theorem d_b_container_101 : decode c_b_container 101 = .ok (.getfield 109, 3) := by decide +kernel
theorem d_b_container_104 : decode c_b_container 104 = .ok (.getfield 231, 3) := by decide +kernel
theorem d_b_container_107 : decode c_b_container 107 = .ok (.ireturn, 1) := by decide +kernel
theorem d_b_container_108 : decode c_b_container 108 = .ok (.new 210, 3) := by decide +kernel
theorem d_b_container_111 : decode c_b_container 111 = .ok (.dup, 1) := by decide +kernel
theorem d_b_container_112 : decode c_b_container 112 = .ok (.invokespecial 212, 3) := by decide +kernel
theorem d_b_container_115 : decode c_b_container 115 = .ok (.athrow, 1) := by decide +kernel
theorem d_b_belt_0 : decode c_b_belt 0 = .ok (.iload_n 1, 1) := by decide +kernel
theorem d_b_belt_1 : decode c_b_belt 1 = .ok (.aload_n 0, 1) := by decide +kernel
theorem d_b_belt_2 : decode c_b_belt 2 = .ok (.getfield 19, 3) := by decide +kernel
theorem d_b_belt_5 : decode c_b_belt 5 = .ok (.getfield 127, 3) := by decide +kernel
theorem d_b_belt_8 : decode c_b_belt 8 = .ok (.invokestatic 58, 3) := by decide +kernel
theorem d_b_belt_11 : decode c_b_belt 11 = .ok (.ifCond .eq 18, 3) := by decide +kernel
theorem d_b_belt_14 : decode c_b_belt 14 = .ok (.aload_n 0, 1) := by decide +kernel
theorem d_b_belt_15 : decode c_b_belt 15 = .ok (.getfield 19, 3) := by decide +kernel
theorem d_b_belt_18 : decode c_b_belt 18 = .ok (.getfield 232, 3) := by decide +kernel
theorem d_b_belt_21 : decode c_b_belt 21 = .ok (.iload_n 1, 1) := by decide +kernel
theorem d_b_belt_22 : decode c_b_belt 22 = .ok (.aaload, 1) := by decide +kernel
theorem d_b_belt_23 : decode c_b_belt 23 = .ok (.getfield 236, 3) := by decide +kernel
theorem d_b_belt_26 : decode c_b_belt 26 = .ok (.goto 4, 3) := by decide +kernel
theorem d_b_belt_29 : decode c_b_belt 29 = .ok (.iconst (-1), 1) := by decide +kernel
theorem d_b_belt_30 : decode c_b_belt 30 = .ok (.ireturn, 1) := by decide +kernel
theorem d_b_bin_0 : decode c_b_bin 0 = .ok (.iload_n 1, 1) := by decide +kernel
theorem d_b_bin_1 : decode c_b_bin 1 = .ok (.iconst 3, 1) := by decide +kernel
theorem d_b_bin_2 : decode c_b_bin 2 = .ok (.invokestatic 58, 3) := by decide +kernel
theorem d_b_bin_5 : decode c_b_bin 5 = .ok (.invokestatic 62, 3) := by decide +kernel
theorem d_b_bin_8 : decode c_b_bin 8 = .ok (.iload_n 2, 1) := by decide +kernel
theorem d_b_bin_9 : decode c_b_bin 9 = .ok (.iconst 0, 1) := by decide +kernel
theorem d_b_bin_10 : decode c_b_bin 10 = .ok (.iconst 1, 1) := by decide +kernel
theorem d_b_bin_11 : decode c_b_bin 11 = .ok (.invokestatic 66, 3) := by decide +kernel
theorem d_b_bin_14 : decode c_b_bin 14 = .ok (.invokestatic 62, 3) := by decide +kernel
theorem d_b_bin_17 : decode c_b_bin 17 = .ok (.iload_n 2, 1) := by decide +kernel
theorem d_b_bin_18 : decode c_b_bin 18 = .ok (.ifCond .ne 15, 3) := by decide +kernel
theorem d_b_bin_21 : decode c_b_bin 21 = .ok (.aload_n 0, 1) := by decide +kernel
theorem d_b_bin_22 : decode c_b_bin 22 = .ok (.getfield 26, 3) := by decide +kernel
theorem d_b_bin_25 : decode c_b_bin 25 = .ok (.getfield 164, 3) := by decide +kernel
theorem d_b_bin_28 : decode c_b_bin 28 = .ok (.iload_n 1, 1) := by decide +kernel
theorem d_b_bin_29 : decode c_b_bin 29 = .ok (.iaload, 1) := by decide +kernel
theorem d_b_bin_30 : decode c_b_bin 30 = .ok (.goto 12, 3) := by decide +kernel
theorem d_b_bin_33 : decode c_b_bin 33 = .ok (.aload_n 0, 1) := by decide +kernel
theorem d_b_bin_34 : decode c_b_bin 34 = .ok (.getfield 26, 3) := by decide +kernel
theorem d_b_bin_37 : decode c_b_bin 37 = .ok (.getfield 167, 3) := by decide +kernel
theorem d_b_bin_40 : decode c_b_bin 40 = .ok (.iload_n 1, 1) := by decide +kernel
theorem d_b_bin_41 : decode c_b_bin 41 = .ok (.iaload, 1) := by decide +kernel
theorem d_b_bin_42 : decode c_b_bin 42 = .ok (.ireturn, 1) := by decide +kernel
theorem d_b_total_0 : decode c_b_total 0 = .ok (.iload_n 1, 1) := by decide +kernel
theorem d_b_total_1 : decode c_b_total 1 = .ok (.iconst 1, 1) := by decide +kernel
theorem d_b_total_2 : decode c_b_total 2 = .ok (.bipush 9, 2) := by decide +kernel
theorem d_b_total_4 : decode c_b_total 4 = .ok (.invokestatic 66, 3) := by decide +kernel
theorem d_b_total_7 : decode c_b_total 7 = .ok (.ifCond .eq 10, 3) := by decide +kernel
theorem d_b_total_10 : decode c_b_total 10 = .ok (.aload_n 0, 1) := by decide +kernel
theorem d_b_total_11 : decode c_b_total 11 = .ok (.getfield 51, 3) := by decide +kernel
theorem d_b_total_14 : decode c_b_total 14 = .ok (.iload_n 1, 1) := by decide +kernel
theorem d_b_total_15 : decode c_b_total 15 = .ok (.iaload, 1) := by decide +kernel
theorem d_b_total_16 : decode c_b_total 16 = .ok (.ireturn, 1) := by decide +kernel
theorem d_b_total_17 : decode c_b_total 17 = .ok (.iload_n 1, 1) := by decide +kernel
theorem d_b_total_18 : decode c_b_total 18 = .ok (.tableswitch 188 0 20 #[98, 188, 188, 188, 188, 188, 188, 188, 188, 188, 103, 108, 113, 121, 126, 134, 142, 153, 164, 172, 180], 98) := by decide +kernel
theorem d_b_total_116 : decode c_b_total 116 = .ok (.aload_n 0, 1) := by decide +kernel
theorem d_b_total_117 : decode c_b_total 117 = .ok (.getfield 136, 3) := by decide +kernel
theorem d_b_total_120 : decode c_b_total 120 = .ok (.ireturn, 1) := by decide +kernel
theorem d_b_total_121 : decode c_b_total 121 = .ok (.aload_n 0, 1) := by decide +kernel
theorem d_b_total_122 : decode c_b_total 122 = .ok (.getfield 239, 3) := by decide +kernel
theorem d_b_total_125 : decode c_b_total 125 = .ok (.ireturn, 1) := by decide +kernel
theorem d_b_total_126 : decode c_b_total 126 = .ok (.aload_n 0, 1) := by decide +kernel
theorem d_b_total_127 : decode c_b_total 127 = .ok (.getfield 242, 3) := by decide +kernel
theorem d_b_total_130 : decode c_b_total 130 = .ok (.ireturn, 1) := by decide +kernel
theorem d_b_total_131 : decode c_b_total 131 = .ok (.aload_n 0, 1) := by decide +kernel
theorem d_b_total_132 : decode c_b_total 132 = .ok (.getfield 33, 3) := by decide +kernel
theorem d_b_total_135 : decode c_b_total 135 = .ok (.getfield 245, 3) := by decide +kernel
theorem d_b_total_138 : decode c_b_total 138 = .ok (.ireturn, 1) := by decide +kernel
theorem d_b_total_139 : decode c_b_total 139 = .ok (.aload_n 0, 1) := by decide +kernel
theorem d_b_total_140 : decode c_b_total 140 = .ok (.getfield 148, 3) := by decide +kernel
theorem d_b_total_143 : decode c_b_total 143 = .ok (.ireturn, 1) := by decide +kernel
theorem d_b_total_144 : decode c_b_total 144 = .ok (.aload_n 0, 1) := by decide +kernel
theorem d_b_total_145 : decode c_b_total 145 = .ok (.getfield 33, 3) := by decide +kernel
theorem d_b_total_148 : decode c_b_total 148 = .ok (.getfield 154, 3) := by decide +kernel
theorem d_b_total_151 : decode c_b_total 151 = .ok (.ireturn, 1) := by decide +kernel
theorem d_b_total_152 : decode c_b_total 152 = .ok (.aload_n 0, 1) := by decide +kernel
theorem d_b_total_153 : decode c_b_total 153 = .ok (.getfield 19, 3) := by decide +kernel
theorem d_b_total_156 : decode c_b_total 156 = .ok (.getfield 127, 3) := by decide +kernel
theorem d_b_total_159 : decode c_b_total 159 = .ok (.ireturn, 1) := by decide +kernel
theorem d_b_total_160 : decode c_b_total 160 = .ok (.aload_n 0, 1) := by decide +kernel
theorem d_b_total_161 : decode c_b_total 161 = .ok (.getfield 40, 3) := by decide +kernel
theorem d_b_total_164 : decode c_b_total 164 = .ok (.getfield 116, 3) := by decide +kernel
theorem d_b_total_167 : decode c_b_total 167 = .ok (.invokestatic 206, 3) := by decide +kernel
theorem d_b_total_170 : decode c_b_total 170 = .ok (.ireturn, 1) := by decide +kernel
theorem d_b_total_171 : decode c_b_total 171 = .ok (.aload_n 0, 1) := by decide +kernel
theorem d_b_total_172 : decode c_b_total 172 = .ok (.getfield 19, 3) := by decide +kernel
theorem d_b_total_175 : decode c_b_total 175 = .ok (.invokevirtual 120, 3) := by decide +kernel
theorem d_b_total_178 : decode c_b_total 178 = .ok (.invokestatic 206, 3) := by decide +kernel
theorem d_b_total_181 : decode c_b_total 181 = .ok (.ireturn, 1) := by decide +kernel
theorem d_b_total_182 : decode c_b_total 182 = .ok (.aload_n 0, 1) := by decide +kernel
theorem d_b_total_183 : decode c_b_total 183 = .ok (.invokevirtual 170, 3) := by decide +kernel
theorem d_b_total_186 : decode c_b_total 186 = .ok (.invokestatic 206, 3) := by decide +kernel
theorem d_b_total_189 : decode c_b_total 189 = .ok (.ireturn, 1) := by decide +kernel
theorem d_b_total_190 : decode c_b_total 190 = .ok (.aload_n 0, 1) := by decide +kernel
theorem d_b_total_191 : decode c_b_total 191 = .ok (.getfield 40, 3) := by decide +kernel
theorem d_b_total_194 : decode c_b_total 194 = .ok (.getfield 176, 3) := by decide +kernel
theorem d_b_total_197 : decode c_b_total 197 = .ok (.ireturn, 1) := by decide +kernel
theorem d_b_total_198 : decode c_b_total 198 = .ok (.aload_n 0, 1) := by decide +kernel
theorem d_b_total_199 : decode c_b_total 199 = .ok (.getfield 40, 3) := by decide +kernel
theorem d_b_total_202 : decode c_b_total 202 = .ok (.getfield 173, 3) := by decide +kernel
theorem d_b_total_205 : decode c_b_total 205 = .ok (.ireturn, 1) := by decide +kernel
theorem d_b_total_206 : decode c_b_total 206 = .ok (.new 210, 3) := by decide +kernel
theorem d_b_total_209 : decode c_b_total 209 = .ok (.dup, 1) := by decide +kernel
theorem d_b_total_210 : decode c_b_total 210 = .ok (.invokespecial 212, 3) := by decide +kernel
theorem d_b_total_213 : decode c_b_total 213 = .ok (.athrow, 1) := by decide +kernel
