theorem dX6_init_0 : decode cX6_init 0 = .ok (.aload_n 0, 1) := by decide +kernel
theorem dX6_init_1 : decode cX6_init 1 = .ok (.invokespecial 3, 3) := by decide +kernel
theorem dX6_init_4 : decode cX6_init 4 = .ok (.aload_n 0, 1) := by decide +kernel
theorem dX6_init_5 : decode cX6_init 5 = .ok (.new 9, 3) := by decide +kernel
theorem dX6_init_8 : decode cX6_init 8 = .ok (.dup, 1) := by decide +kernel
theorem dX6_init_9 : decode cX6_init 9 = .ok (.invokespecial 11, 3) := by decide +kernel
theorem dX6_init_12 : decode cX6_init 12 = .ok (.putfield 12, 3) := by decide +kernel
theorem dX6_init_15 : decode cX6_init 15 = .ok (.aload_n 0, 1) := by decide +kernel
theorem dX6_init_16 : decode cX6_init 16 = .ok (.new 9, 3) := by decide +kernel
theorem dX6_init_19 : decode cX6_init 19 = .ok (.dup, 1) := by decide +kernel
theorem dX6_init_20 : decode cX6_init 20 = .ok (.invokespecial 11, 3) := by decide +kernel
theorem dX6_init_23 : decode cX6_init 23 = .ok (.putfield 16, 3) := by decide +kernel
theorem dX6_init_26 : decode cX6_init 26 = .ok (.aload_n 0, 1) := by decide +kernel
theorem dX6_init_27 : decode cX6_init 27 = .ok (.new 9, 3) := by decide +kernel
theorem dX6_init_30 : decode cX6_init 30 = .ok (.dup, 1) := by decide +kernel
theorem dX6_init_31 : decode cX6_init 31 = .ok (.invokespecial 11, 3) := by decide +kernel
theorem dX6_init_34 : decode cX6_init 34 = .ok (.putfield 19, 3) := by decide +kernel
theorem dX6_init_37 : decode cX6_init 37 = .ok (.aload_n 0, 1) := by decide +kernel
theorem dX6_init_38 : decode cX6_init 38 = .ok (.iconst 0, 1) := by decide +kernel
theorem dX6_init_39 : decode cX6_init 39 = .ok (.putfield 22, 3) := by decide +kernel
theorem dX6_init_42 : decode cX6_init 42 = .ok (.aload_n 0, 1) := by decide +kernel
theorem dX6_init_43 : decode cX6_init 43 = .ok (.new 26, 3) := by decide +kernel
theorem dX6_init_46 : decode cX6_init 46 = .ok (.dup, 1) := by decide +kernel
theorem dX6_init_47 : decode cX6_init 47 = .ok (.invokespecial 28, 3) := by decide +kernel
theorem dX6_init_50 : decode cX6_init 50 = .ok (.putfield 29, 3) := by decide +kernel
theorem dX6_init_53 : decode cX6_init 53 = .ok (.aload_n 0, 1) := by decide +kernel
theorem dX6_init_54 : decode cX6_init 54 = .ok (.iconst 4, 1) := by decide +kernel
theorem dX6_init_55 : decode cX6_init 55 = .ok (.anewarray 33, 3) := by decide +kernel
theorem dX6_init_58 : decode cX6_init 58 = .ok (.putfield 35, 3) := by decide +kernel
theorem dX6_init_61 : decode cX6_init 61 = .ok (.aload_n 0, 1) := by decide +kernel
theorem dX6_init_62 : decode cX6_init 62 = .ok (.new 39, 3) := by decide +kernel
theorem dX6_init_65 : decode cX6_init 65 = .ok (.dup, 1) := by decide +kernel
theorem dX6_init_66 : decode cX6_init 66 = .ok (.invokespecial 41, 3) := by decide +kernel
theorem dX6_init_69 : decode cX6_init 69 = .ok (.putfield 42, 3) := by decide +kernel
theorem dX6_init_72 : decode cX6_init 72 = .ok (.aload_n 0, 1) := by decide +kernel
theorem dX6_init_73 : decode cX6_init 73 = .ok (.bipush 7, 2) := by decide +kernel
theorem dX6_init_75 : decode cX6_init 75 = .ok (.newarray .int, 2) := by decide +kernel
theorem dX6_init_77 : decode cX6_init 77 = .ok (.putfield 46, 3) := by decide +kernel
theorem dX6_init_80 : decode cX6_init 80 = .ok (.iconst 0, 1) := by decide +kernel
theorem dX6_init_81 : decode cX6_init 81 = .ok (.istore_n 1, 1) := by decide +kernel
theorem dX6_init_82 : decode cX6_init 82 = .ok (.iload_n 1, 1) := by decide +kernel
theorem dX6_init_83 : decode cX6_init 83 = .ok (.iconst 4, 1) := by decide +kernel
theorem dX6_init_84 : decode cX6_init 84 = .ok (.if_icmp .ge 22, 3) := by decide +kernel
theorem dX6_init_87 : decode cX6_init 87 = .ok (.aload_n 0, 1) := by decide +kernel
theorem dX6_init_88 : decode cX6_init 88 = .ok (.getfield 35, 3) := by decide +kernel
theorem dX6_init_91 : decode cX6_init 91 = .ok (.iload_n 1, 1) := by decide +kernel
theorem dX6_init_92 : decode cX6_init 92 = .ok (.new 33, 3) := by decide +kernel
theorem dX6_init_95 : decode cX6_init 95 = .ok (.dup, 1) := by decide +kernel
theorem dX6_init_96 : decode cX6_init 96 = .ok (.invokespecial 50, 3) := by decide +kernel
theorem dX6_init_99 : decode cX6_init 99 = .ok (.aastore, 1) := by decide +kernel
theorem dX6_init_100 : decode cX6_init 100 = .ok (.iinc 1 1, 3) := by decide +kernel
theorem dX6_init_103 : decode cX6_init 103 = .ok (.goto (-21), 3) := by decide +kernel
theorem dX6_init_106 : decode cX6_init 106 = .ok (.return_, 1) := by decide +kernel
theorem dX6_bird_0 : decode cX6_bird 0 = .ok (.iload_n 1, 1) := by decide +kernel
theorem dX6_bird_1 : decode cX6_bird 1 = .ok (.bipush 6, 2) := by decide +kernel
theorem dX6_bird_3 : decode cX6_bird 3 = .ok (.invokestatic 51, 3) := by decide +kernel
theorem dX6_bird_6 : decode cX6_bird 6 = .ok (.ifCond .ne 10, 3) := by decide +kernel
theorem dX6_bird_9 : decode cX6_bird 9 = .ok (.aload_n 0, 1) := by decide +kernel
theorem dX6_bird_10 : decode cX6_bird 10 = .ok (.ldc 55, 2) := by decide +kernel
theorem dX6_bird_12 : decode cX6_bird 12 = .ok (.invokevirtual 56, 3) := by decide +kernel
theorem dX6_bird_15 : decode cX6_bird 15 = .ok (.ireturn, 1) := by decide +kernel
theorem dX6_bird_16 : decode cX6_bird 16 = .ok (.aload_n 0, 1) := by decide +kernel
theorem dX6_bird_17 : decode cX6_bird 17 = .ok (.getfield 12, 3) := by decide +kernel
theorem dX6_bird_20 : decode cX6_bird 20 = .ok (.getfield 60, 3) := by decide +kernel
theorem dX6_bird_23 : decode cX6_bird 23 = .ok (.bipush 8, 2) := by decide +kernel
theorem dX6_bird_25 : decode cX6_bird 25 = .ok (.if_icmp .lt 10, 3) := by decide +kernel
theorem dX6_bird_28 : decode cX6_bird 28 = .ok (.aload_n 0, 1) := by decide +kernel
theorem dX6_bird_29 : decode cX6_bird 29 = .ok (.ldc 64, 2) := by decide +kernel
theorem dX6_bird_31 : decode cX6_bird 31 = .ok (.invokevirtual 56, 3) := by decide +kernel
theorem dX6_bird_34 : decode cX6_bird 34 = .ok (.ireturn, 1) := by decide +kernel
theorem dX6_bird_35 : decode cX6_bird 35 = .ok (.aload_n 0, 1) := by decide +kernel
theorem dX6_bird_36 : decode cX6_bird 36 = .ok (.getfield 12, 3) := by decide +kernel
theorem dX6_bird_39 : decode cX6_bird 39 = .ok (.iload_n 1, 1) := by decide +kernel
theorem dX6_bird_40 : decode cX6_bird 40 = .ok (.invokevirtual 65, 3) := by decide +kernel
theorem dX6_bird_43 : decode cX6_bird 43 = .ok (.ireturn, 1) := by decide +kernel
theorem dX6_of_0 : decode cX6_of 0 = .ok (.aload_n 0, 1) := by decide +kernel
theorem dX6_of_1 : decode cX6_of 1 = .ok (.getfield 12, 3) := by decide +kernel
theorem dX6_of_4 : decode cX6_of 4 = .ok (.iload_n 1, 1) := by decide +kernel
theorem dX6_of_5 : decode cX6_of 5 = .ok (.invokevirtual 68, 3) := by decide +kernel
theorem dX6_of_8 : decode cX6_of 8 = .ok (.ifCond .eq 12, 3) := by decide +kernel
theorem dX6_of_11 : decode cX6_of 11 = .ok (.iload_n 2, 1) := by decide +kernel
theorem dX6_of_12 : decode cX6_of 12 = .ok (.bipush 8, 2) := by decide +kernel
theorem dX6_of_14 : decode cX6_of 14 = .ok (.invokestatic 51, 3) := by decide +kernel
theorem dX6_of_17 : decode cX6_of 17 = .ok (.ifCond .ne 10, 3) := by decide +kernel
theorem dX6_of_20 : decode cX6_of 20 = .ok (.aload_n 0, 1) := by decide +kernel
theorem dX6_of_21 : decode cX6_of 21 = .ok (.ldc 55, 2) := by decide +kernel
theorem dX6_of_23 : decode cX6_of 23 = .ok (.invokevirtual 56, 3) := by decide +kernel
theorem dX6_of_26 : decode cX6_of 26 = .ok (.ireturn, 1) := by decide +kernel
theorem dX6_of_27 : decode cX6_of 27 = .ok (.aload_n 0, 1) := by decide +kernel
theorem dX6_of_28 : decode cX6_of 28 = .ok (.getfield 12, 3) := by decide +kernel
theorem dX6_of_31 : decode cX6_of 31 = .ok (.getfield 72, 3) := by decide +kernel
theorem dX6_of_34 : decode cX6_of 34 = .ok (.iload_n 1, 1) := by decide +kernel
theorem dX6_of_35 : decode cX6_of 35 = .ok (.aaload, 1) := by decide +kernel
theorem dX6_of_36 : decode cX6_of 36 = .ok (.iload_n 2, 1) := by decide +kernel
theorem dX6_of_37 : decode cX6_of 37 = .ok (.invokevirtual 76, 3) := by decide +kernel
theorem dX6_of_40 : decode cX6_of 40 = .ok (.ireturn, 1) := by decide +kernel
theorem dX6_change_0 : decode cX6_change 0 = .ok (.aload_n 0, 1) := by decide +kernel
theorem dX6_change_1 : decode cX6_change 1 = .ok (.getfield 12, 3) := by decide +kernel
theorem dX6_change_4 : decode cX6_change 4 = .ok (.iload_n 1, 1) := by decide +kernel
theorem dX6_change_5 : decode cX6_change 5 = .ok (.invokevirtual 68, 3) := by decide +kernel
theorem dX6_change_8 : decode cX6_change 8 = .ok (.ifCond .eq 23, 3) := by decide +kernel
theorem dX6_change_11 : decode cX6_change 11 = .ok (.iload_n 2, 1) := by decide +kernel
theorem dX6_change_12 : decode cX6_change 12 = .ok (.bipush 6, 2) := by decide +kernel
theorem dX6_change_14 : decode cX6_change 14 = .ok (.invokestatic 51, 3) := by decide +kernel
theorem dX6_change_17 : decode cX6_change 17 = .ok (.ifCond .eq 14, 3) := by decide +kernel
theorem dX6_change_20 : decode cX6_change 20 = .ok (.iload_n 3, 1) := by decide +kernel
theorem dX6_change_21 : decode cX6_change 21 = .ok (.iload_n 2, 1) := by decide +kernel
theorem dX6_change_22 : decode cX6_change 22 = .ok (.invokestatic 81, 3) := by decide +kernel
theorem dX6_change_25 : decode cX6_change 25 = .ok (.invokestatic 51, 3) := by decide +kernel
theorem dX6_change_28 : decode cX6_change 28 = .ok (.ifCond .ne 10, 3) := by decide +kernel
theorem dX6_change_31 : decode cX6_change 31 = .ok (.aload_n 0, 1) := by decide +kernel
theorem dX6_change_32 : decode cX6_change 32 = .ok (.ldc 55, 2) := by decide +kernel
theorem dX6_change_34 : decode cX6_change 34 = .ok (.invokevirtual 56, 3) := by decide +kernel
theorem dX6_change_37 : decode cX6_change 37 = .ok (.ireturn, 1) := by decide +kernel
theorem dX6_change_38 : decode cX6_change 38 = .ok (.aload_n 0, 1) := by decide +kernel
theorem dX6_change_39 : decode cX6_change 39 = .ok (.getfield 12, 3) := by decide +kernel
theorem dX6_change_42 : decode cX6_change 42 = .ok (.getfield 72, 3) := by decide +kernel
theorem dX6_change_45 : decode cX6_change 45 = .ok (.iload_n 1, 1) := by decide +kernel
theorem dX6_change_46 : decode cX6_change 46 = .ok (.aaload, 1) := by decide +kernel
theorem dX6_change_47 : decode cX6_change 47 = .ok (.iload_n 2, 1) := by decide +kernel
theorem dX6_change_48 : decode cX6_change 48 = .ok (.invokevirtual 76, 3) := by decide +kernel
theorem dX6_change_51 : decode cX6_change 51 = .ok (.istore 4, 2) := by decide +kernel
theorem dX6_change_53 : decode cX6_change 53 = .ok (.aload_n 0, 1) := by decide +kernel
theorem dX6_change_54 : decode cX6_change 54 = .ok (.getfield 12, 3) := by decide +kernel
theorem dX6_change_57 : decode cX6_change 57 = .ok (.getfield 72, 3) := by decide +kernel
theorem dX6_change_60 : decode cX6_change 60 = .ok (.iload_n 1, 1) := by decide +kernel
theorem dX6_change_61 : decode cX6_change 61 = .ok (.aaload, 1) := by decide +kernel
theorem dX6_change_62 : decode cX6_change 62 = .ok (.iload_n 2, 1) := by decide +kernel
theorem dX6_change_63 : decode cX6_change 63 = .ok (.iload_n 3, 1) := by decide +kernel
theorem dX6_change_64 : decode cX6_change 64 = .ok (.invokevirtual 84, 3) := by decide +kernel
theorem dX6_change_67 : decode cX6_change 67 = .ok (.iload 4, 2) := by decide +kernel
theorem dX6_change_69 : decode cX6_change 69 = .ok (.ireturn, 1) := by decide +kernel
theorem dX6_motion_0 : decode cX6_motion 0 = .ok (.iload_n 1, 1) := by decide +kernel
theorem dX6_motion_1 : decode cX6_motion 1 = .ok (.iconst 3, 1) := by decide +kernel
theorem dX6_motion_2 : decode cX6_motion 2 = .ok (.invokestatic 51, 3) := by decide +kernel
theorem dX6_motion_5 : decode cX6_motion 5 = .ok (.ifCond .ne 10, 3) := by decide +kernel
theorem dX6_motion_8 : decode cX6_motion 8 = .ok (.aload_n 0, 1) := by decide +kernel
theorem dX6_motion_9 : decode cX6_motion 9 = .ok (.ldc 55, 2) := by decide +kernel
theorem dX6_motion_11 : decode cX6_motion 11 = .ok (.invokevirtual 56, 3) := by decide +kernel
theorem dX6_motion_14 : decode cX6_motion 14 = .ok (.ireturn, 1) := by decide +kernel
theorem dX6_motion_15 : decode cX6_motion 15 = .ok (.aload_n 0, 1) := by decide +kernel
theorem dX6_motion_16 : decode cX6_motion 16 = .ok (.getfield 12, 3) := by decide +kernel
theorem dX6_motion_19 : decode cX6_motion 19 = .ok (.getfield 88, 3) := by decide +kernel
theorem dX6_motion_22 : decode cX6_motion 22 = .ok (.bipush 8, 2) := by decide +kernel
theorem dX6_motion_24 : decode cX6_motion 24 = .ok (.if_icmp .lt 10, 3) := by decide +kernel
theorem dX6_motion_27 : decode cX6_motion 27 = .ok (.aload_n 0, 1) := by decide +kernel
theorem dX6_motion_28 : decode cX6_motion 28 = .ok (.ldc 64, 2) := by decide +kernel
theorem dX6_motion_30 : decode cX6_motion 30 = .ok (.invokevirtual 56, 3) := by decide +kernel
theorem dX6_motion_33 : decode cX6_motion 33 = .ok (.ireturn, 1) := by decide +kernel
theorem dX6_motion_34 : decode cX6_motion 34 = .ok (.aload_n 0, 1) := by decide +kernel
theorem dX6_motion_35 : decode cX6_motion 35 = .ok (.getfield 12, 3) := by decide +kernel
theorem dX6_motion_38 : decode cX6_motion 38 = .ok (.iload_n 1, 1) := by decide +kernel
theorem dX6_motion_39 : decode cX6_motion 39 = .ok (.invokevirtual 91, 3) := by decide +kernel
theorem dX6_motion_42 : decode cX6_motion 42 = .ok (.ireturn, 1) := by decide +kernel
theorem dX6_told_0 : decode cX6_told 0 = .ok (.aload_n 0, 1) := by decide +kernel
theorem dX6_told_1 : decode cX6_told 1 = .ok (.getfield 12, 3) := by decide +kernel
theorem dX6_told_4 : decode cX6_told 4 = .ok (.iload_n 1, 1) := by decide +kernel
theorem dX6_told_5 : decode cX6_told 5 = .ok (.invokevirtual 94, 3) := by decide +kernel
theorem dX6_told_8 : decode cX6_told 8 = .ok (.ifCond .eq 11, 3) := by decide +kernel
theorem dX6_told_11 : decode cX6_told 11 = .ok (.iload_n 2, 1) := by decide +kernel
theorem dX6_told_12 : decode cX6_told 12 = .ok (.iconst 4, 1) := by decide +kernel
theorem dX6_told_13 : decode cX6_told 13 = .ok (.invokestatic 51, 3) := by decide +kernel
theorem dX6_told_16 : decode cX6_told 16 = .ok (.ifCond .ne 10, 3) := by decide +kernel
theorem dX6_told_19 : decode cX6_told 19 = .ok (.aload_n 0, 1) := by decide +kernel
theorem dX6_told_20 : decode cX6_told 20 = .ok (.ldc 55, 2) := by decide +kernel
theorem dX6_told_22 : decode cX6_told 22 = .ok (.invokevirtual 56, 3) := by decide +kernel
theorem dX6_told_25 : decode cX6_told 25 = .ok (.ireturn, 1) := by decide +kernel
theorem dX6_told_26 : decode cX6_told 26 = .ok (.aload_n 0, 1) := by decide +kernel
theorem dX6_told_27 : decode cX6_told 27 = .ok (.getfield 12, 3) := by decide +kernel
theorem dX6_told_30 : decode cX6_told 30 = .ok (.getfield 97, 3) := by decide +kernel
theorem dX6_told_33 : decode cX6_told 33 = .ok (.iload_n 1, 1) := by decide +kernel
theorem dX6_told_34 : decode cX6_told 34 = .ok (.aaload, 1) := by decide +kernel
theorem dX6_told_35 : decode cX6_told 35 = .ok (.iload_n 2, 1) := by decide +kernel
theorem dX6_told_36 : decode cX6_told 36 = .ok (.invokevirtual 101, 3) := by decide +kernel
theorem dX6_told_39 : decode cX6_told 39 = .ok (.ireturn, 1) := by decide +kernel
theorem dX6_tell_0 : decode cX6_tell 0 = .ok (.aload_n 0, 1) := by decide +kernel
theorem dX6_tell_1 : decode cX6_tell 1 = .ok (.getfield 12, 3) := by decide +kernel
theorem dX6_tell_4 : decode cX6_tell 4 = .ok (.iload_n 1, 1) := by decide +kernel
theorem dX6_tell_5 : decode cX6_tell 5 = .ok (.invokevirtual 94, 3) := by decide +kernel
theorem dX6_tell_8 : decode cX6_tell 8 = .ok (.ifCond .eq 29, 3) := by decide +kernel
theorem dX6_tell_11 : decode cX6_tell 11 = .ok (.iload_n 2, 1) := by decide +kernel
theorem dX6_tell_12 : decode cX6_tell 12 = .ok (.iconst 4, 1) := by decide +kernel
theorem dX6_tell_13 : decode cX6_tell 13 = .ok (.invokestatic 51, 3) := by decide +kernel
theorem dX6_tell_16 : decode cX6_tell 16 = .ok (.ifCond .eq 21, 3) := by decide +kernel
theorem dX6_tell_19 : decode cX6_tell 19 = .ok (.iload_n 3, 1) := by decide +kernel
theorem dX6_tell_20 : decode cX6_tell 20 = .ok (.iload_n 2, 1) := by decide +kernel
theorem dX6_tell_21 : decode cX6_tell 21 = .ok (.aload_n 0, 1) := by decide +kernel
theorem dX6_tell_22 : decode cX6_tell 22 = .ok (.getfield 12, 3) := by decide +kernel
theorem dX6_tell_25 : decode cX6_tell 25 = .ok (.invokevirtual 104, 3) := by decide +kernel
theorem dX6_tell_28 : decode cX6_tell 28 = .ok (.invokestatic 108, 3) := by decide +kernel
theorem dX6_tell_31 : decode cX6_tell 31 = .ok (.invokestatic 51, 3) := by decide +kernel
theorem dX6_tell_34 : decode cX6_tell 34 = .ok (.ifCond .ne 10, 3) := by decide +kernel
theorem dX6_tell_37 : decode cX6_tell 37 = .ok (.aload_n 0, 1) := by decide +kernel
theorem dX6_tell_38 : decode cX6_tell 38 = .ok (.ldc 55, 2) := by decide +kernel
theorem dX6_tell_40 : decode cX6_tell 40 = .ok (.invokevirtual 56, 3) := by decide +kernel
theorem dX6_tell_43 : decode cX6_tell 43 = .ok (.ireturn, 1) := by decide +kernel
theorem dX6_tell_44 : decode cX6_tell 44 = .ok (.aload_n 0, 1) := by decide +kernel
theorem dX6_tell_45 : decode cX6_tell 45 = .ok (.getfield 12, 3) := by decide +kernel
theorem dX6_tell_48 : decode cX6_tell 48 = .ok (.getfield 97, 3) := by decide +kernel
theorem dX6_tell_51 : decode cX6_tell 51 = .ok (.iload_n 1, 1) := by decide +kernel
theorem dX6_tell_52 : decode cX6_tell 52 = .ok (.aaload, 1) := by decide +kernel
theorem dX6_tell_53 : decode cX6_tell 53 = .ok (.iload_n 2, 1) := by decide +kernel
theorem dX6_tell_54 : decode cX6_tell 54 = .ok (.invokevirtual 101, 3) := by decide +kernel
theorem dX6_tell_57 : decode cX6_tell 57 = .ok (.istore 4, 2) := by decide +kernel
theorem dX6_tell_59 : decode cX6_tell 59 = .ok (.aload_n 0, 1) := by decide +kernel
theorem dX6_tell_60 : decode cX6_tell 60 = .ok (.getfield 12, 3) := by decide +kernel
theorem dX6_tell_63 : decode cX6_tell 63 = .ok (.getfield 97, 3) := by decide +kernel
theorem dX6_tell_66 : decode cX6_tell 66 = .ok (.iload_n 1, 1) := by decide +kernel
theorem dX6_tell_67 : decode cX6_tell 67 = .ok (.aaload, 1) := by decide +kernel
theorem dX6_tell_68 : decode cX6_tell 68 = .ok (.iload_n 2, 1) := by decide +kernel
theorem dX6_tell_69 : decode cX6_tell 69 = .ok (.iload_n 3, 1) := by decide +kernel
theorem dX6_tell_70 : decode cX6_tell 70 = .ok (.invokevirtual 111, 3) := by decide +kernel
theorem dX6_tell_73 : decode cX6_tell 73 = .ok (.iload 4, 2) := by decide +kernel
theorem dX6_tell_75 : decode cX6_tell 75 = .ok (.ireturn, 1) := by decide +kernel
theorem dX6_drops_0 : decode cX6_drops 0 = .ok (.aload_n 0, 1) := by decide +kernel
theorem dX6_drops_1 : decode cX6_drops 1 = .ok (.getfield 12, 3) := by decide +kernel
theorem dX6_drops_4 : decode cX6_drops 4 = .ok (.iload_n 1, 1) := by decide +kernel
theorem dX6_drops_5 : decode cX6_drops 5 = .ok (.invokevirtual 68, 3) := by decide +kernel
theorem dX6_drops_8 : decode cX6_drops 8 = .ok (.ifCond .eq 14, 3) := by decide +kernel
theorem dX6_drops_11 : decode cX6_drops 11 = .ok (.aload_n 0, 1) := by decide +kernel
theorem dX6_drops_12 : decode cX6_drops 12 = .ok (.getfield 12, 3) := by decide +kernel
theorem dX6_drops_15 : decode cX6_drops 15 = .ok (.iload_n 2, 1) := by decide +kernel
theorem dX6_drops_16 : decode cX6_drops 16 = .ok (.invokevirtual 94, 3) := by decide +kernel
theorem dX6_drops_19 : decode cX6_drops 19 = .ok (.ifCond .ne 10, 3) := by decide +kernel
theorem dX6_drops_22 : decode cX6_drops 22 = .ok (.aload_n 0, 1) := by decide +kernel
theorem dX6_drops_23 : decode cX6_drops 23 = .ok (.ldc 55, 2) := by decide +kernel
theorem dX6_drops_25 : decode cX6_drops 25 = .ok (.invokevirtual 56, 3) := by decide +kernel
theorem dX6_drops_28 : decode cX6_drops 28 = .ok (.ireturn, 1) := by decide +kernel
theorem dX6_drops_29 : decode cX6_drops 29 = .ok (.aload_n 0, 1) := by decide +kernel
theorem dX6_drops_30 : decode cX6_drops 30 = .ok (.getfield 12, 3) := by decide +kernel
theorem dX6_drops_33 : decode cX6_drops 33 = .ok (.iload_n 1, 1) := by decide +kernel
theorem dX6_drops_34 : decode cX6_drops 34 = .ok (.aload_n 0, 1) := by decide +kernel
theorem dX6_drops_35 : decode cX6_drops 35 = .ok (.getfield 12, 3) := by decide +kernel
theorem dX6_drops_38 : decode cX6_drops 38 = .ok (.getfield 97, 3) := by decide +kernel
theorem dX6_drops_41 : decode cX6_drops 41 = .ok (.iload_n 2, 1) := by decide +kernel
theorem dX6_drops_42 : decode cX6_drops 42 = .ok (.aaload, 1) := by decide +kernel
theorem dX6_drops_43 : decode cX6_drops 43 = .ok (.invokevirtual 112, 3) := by decide +kernel
theorem dX6_drops_46 : decode cX6_drops 46 = .ok (.ireturn, 1) := by decide +kernel
theorem dX6_side_0 : decode cX6_side 0 = .ok (.aload_n 0, 1) := by decide +kernel
theorem dX6_side_1 : decode cX6_side 1 = .ok (.getfield 12, 3) := by decide +kernel
theorem dX6_side_4 : decode cX6_side 4 = .ok (.iload_n 1, 1) := by decide +kernel
theorem dX6_side_5 : decode cX6_side 5 = .ok (.invokevirtual 94, 3) := by decide +kernel
theorem dX6_side_8 : decode cX6_side 8 = .ok (.ifCond .eq 11, 3) := by decide +kernel
theorem dX6_side_11 : decode cX6_side 11 = .ok (.iload_n 2, 1) := by decide +kernel
theorem dX6_side_12 : decode cX6_side 12 = .ok (.iconst 1, 1) := by decide +kernel
theorem dX6_side_13 : decode cX6_side 13 = .ok (.invokestatic 51, 3) := by decide +kernel
theorem dX6_side_16 : decode cX6_side 16 = .ok (.ifCond .ne 10, 3) := by decide +kernel
theorem dX6_side_19 : decode cX6_side 19 = .ok (.aload_n 0, 1) := by decide +kernel
theorem dX6_side_20 : decode cX6_side 20 = .ok (.ldc 55, 2) := by decide +kernel
theorem dX6_side_22 : decode cX6_side 22 = .ok (.invokevirtual 56, 3) := by decide +kernel
theorem dX6_side_25 : decode cX6_side 25 = .ok (.ireturn, 1) := by decide +kernel
theorem dX6_side_26 : decode cX6_side 26 = .ok (.iload_n 2, 1) := by decide +kernel
theorem dX6_side_27 : decode cX6_side 27 = .ok (.iconst 1, 1) := by decide +kernel
theorem dX6_side_28 : decode cX6_side 28 = .ok (.if_icmp .ne 22, 3) := by decide +kernel
theorem dX6_side_31 : decode cX6_side 31 = .ok (.aload_n 0, 1) := by decide +kernel
theorem dX6_side_32 : decode cX6_side 32 = .ok (.getfield 12, 3) := by decide +kernel
theorem dX6_side_35 : decode cX6_side 35 = .ok (.aload_n 0, 1) := by decide +kernel
theorem dX6_side_36 : decode cX6_side 36 = .ok (.getfield 12, 3) := by decide +kernel
theorem dX6_side_39 : decode cX6_side 39 = .ok (.getfield 97, 3) := by decide +kernel
theorem dX6_side_42 : decode cX6_side 42 = .ok (.iload_n 1, 1) := by decide +kernel
theorem dX6_side_43 : decode cX6_side 43 = .ok (.aaload, 1) := by decide +kernel
theorem dX6_side_44 : decode cX6_side 44 = .ok (.invokevirtual 116, 3) := by decide +kernel
theorem dX6_side_47 : decode cX6_side 47 = .ok (.goto 19, 3) := by decide +kernel
theorem dX6_side_50 : decode cX6_side 50 = .ok (.aload_n 0, 1) := by decide +kernel
theorem dX6_side_51 : decode cX6_side 51 = .ok (.getfield 12, 3) := by decide +kernel
theorem dX6_side_54 : decode cX6_side 54 = .ok (.aload_n 0, 1) := by decide +kernel
theorem dX6_side_55 : decode cX6_side 55 = .ok (.getfield 12, 3) := by decide +kernel
theorem dX6_side_58 : decode cX6_side 58 = .ok (.getfield 97, 3) := by decide +kernel
theorem dX6_side_61 : decode cX6_side 61 = .ok (.iload_n 1, 1) := by decide +kernel
theorem dX6_side_62 : decode cX6_side 62 = .ok (.aaload, 1) := by decide +kernel
theorem dX6_side_63 : decode cX6_side 63 = .ok (.invokevirtual 120, 3) := by decide +kernel
theorem dX6_side_66 : decode cX6_side 66 = .ok (.ireturn, 1) := by decide +kernel
theorem dX6_passes_0 : decode cX6_passes 0 = .ok (.aload_n 0, 1) := by decide +kernel
theorem dX6_passes_1 : decode cX6_passes 1 = .ok (.getfield 12, 3) := by decide +kernel
theorem dX6_passes_4 : decode cX6_passes 4 = .ok (.iload_n 1, 1) := by decide +kernel
theorem dX6_passes_5 : decode cX6_passes 5 = .ok (.invokevirtual 94, 3) := by decide +kernel
theorem dX6_passes_8 : decode cX6_passes 8 = .ok (.ifCond .ne 10, 3) := by decide +kernel
theorem dX6_passes_11 : decode cX6_passes 11 = .ok (.aload_n 0, 1) := by decide +kernel
theorem dX6_passes_12 : decode cX6_passes 12 = .ok (.ldc 55, 2) := by decide +kernel
theorem dX6_passes_14 : decode cX6_passes 14 = .ok (.invokevirtual 56, 3) := by decide +kernel
theorem dX6_passes_17 : decode cX6_passes 17 = .ok (.ireturn, 1) := by decide +kernel
theorem dX6_passes_18 : decode cX6_passes 18 = .ok (.aload_n 0, 1) := by decide +kernel
theorem dX6_passes_19 : decode cX6_passes 19 = .ok (.getfield 12, 3) := by decide +kernel
theorem dX6_passes_22 : decode cX6_passes 22 = .ok (.aload_n 0, 1) := by decide +kernel
theorem dX6_passes_23 : decode cX6_passes 23 = .ok (.getfield 12, 3) := by decide +kernel
theorem dX6_passes_26 : decode cX6_passes 26 = .ok (.getfield 97, 3) := by decide +kernel
theorem dX6_passes_29 : decode cX6_passes 29 = .ok (.iload_n 1, 1) := by decide +kernel
theorem dX6_passes_30 : decode cX6_passes 30 = .ok (.aaload, 1) := by decide +kernel
theorem dX6_passes_31 : decode cX6_passes 31 = .ok (.invokevirtual 123, 3) := by decide +kernel
theorem dX6_passes_34 : decode cX6_passes 34 = .ok (.ifCond .eq 7, 3) := by decide +kernel
theorem dX6_passes_37 : decode cX6_passes 37 = .ok (.iconst 1, 1) := by decide +kernel
theorem dX6_passes_38 : decode cX6_passes 38 = .ok (.goto 4, 3) := by decide +kernel
theorem dX6_passes_41 : decode cX6_passes 41 = .ok (.iconst 0, 1) := by decide +kernel
theorem dX6_passes_42 : decode cX6_passes 42 = .ok (.ireturn, 1) := by decide +kernel
theorem dX6_vote_0 : decode cX6_vote 0 = .ok (.aload_n 0, 1) := by decide +kernel
theorem dX6_vote_1 : decode cX6_vote 1 = .ok (.getfield 12, 3) := by decide +kernel
theorem dX6_vote_4 : decode cX6_vote 4 = .ok (.iload_n 1, 1) := by decide +kernel
theorem dX6_vote_5 : decode cX6_vote 5 = .ok (.invokevirtual 94, 3) := by decide +kernel
theorem dX6_vote_8 : decode cX6_vote 8 = .ok (.ifCond .ne 10, 3) := by decide +kernel
theorem dX6_vote_11 : decode cX6_vote 11 = .ok (.aload_n 0, 1) := by decide +kernel
theorem dX6_vote_12 : decode cX6_vote 12 = .ok (.ldc 55, 2) := by decide +kernel
theorem dX6_vote_14 : decode cX6_vote 14 = .ok (.invokevirtual 56, 3) := by decide +kernel
theorem dX6_vote_17 : decode cX6_vote 17 = .ok (.ireturn, 1) := by decide +kernel
theorem dX6_vote_18 : decode cX6_vote 18 = .ok (.aload_n 0, 1) := by decide +kernel
theorem dX6_vote_19 : decode cX6_vote 19 = .ok (.getfield 12, 3) := by decide +kernel
theorem dX6_vote_22 : decode cX6_vote 22 = .ok (.aload_n 0, 1) := by decide +kernel
theorem dX6_vote_23 : decode cX6_vote 23 = .ok (.getfield 12, 3) := by decide +kernel
theorem dX6_vote_26 : decode cX6_vote 26 = .ok (.getfield 97, 3) := by decide +kernel
theorem dX6_vote_29 : decode cX6_vote 29 = .ok (.iload_n 1, 1) := by decide +kernel
theorem dX6_vote_30 : decode cX6_vote 30 = .ok (.aaload, 1) := by decide +kernel
theorem dX6_vote_31 : decode cX6_vote 31 = .ok (.invokevirtual 127, 3) := by decide +kernel
theorem dX6_vote_34 : decode cX6_vote 34 = .ok (.ifCond .eq 7, 3) := by decide +kernel
theorem dX6_vote_37 : decode cX6_vote 37 = .ok (.iconst 1, 1) := by decide +kernel
theorem dX6_vote_38 : decode cX6_vote 38 = .ok (.goto 4, 3) := by decide +kernel
theorem dX6_vote_41 : decode cX6_vote 41 = .ok (.iconst 0, 1) := by decide +kernel
theorem dX6_vote_42 : decode cX6_vote 42 = .ok (.ireturn, 1) := by decide +kernel
theorem dX6_seasons_0 : decode cX6_seasons 0 = .ok (.iload_n 1, 1) := by decide +kernel
theorem dX6_seasons_1 : decode cX6_seasons 1 = .ok (.iconst 1, 1) := by decide +kernel
theorem dX6_seasons_2 : decode cX6_seasons 2 = .ok (.if_icmp .lt 9, 3) := by decide +kernel
theorem dX6_seasons_5 : decode cX6_seasons 5 = .ok (.iload_n 1, 1) := by decide +kernel
theorem dX6_seasons_6 : decode cX6_seasons 6 = .ok (.bipush 40, 2) := by decide +kernel
theorem dX6_seasons_8 : decode cX6_seasons 8 = .ok (.if_icmp .le 10, 3) := by decide +kernel
theorem dX6_seasons_11 : decode cX6_seasons 11 = .ok (.aload_n 0, 1) := by decide +kernel
theorem dX6_seasons_12 : decode cX6_seasons 12 = .ok (.ldc 55, 2) := by decide +kernel
theorem dX6_seasons_14 : decode cX6_seasons 14 = .ok (.invokevirtual 56, 3) := by decide +kernel
theorem dX6_seasons_17 : decode cX6_seasons 17 = .ok (.ireturn, 1) := by decide +kernel
theorem dX6_seasons_18 : decode cX6_seasons 18 = .ok (.aload_n 0, 1) := by decide +kernel
theorem dX6_seasons_19 : decode cX6_seasons 19 = .ok (.getfield 12, 3) := by decide +kernel
theorem dX6_seasons_22 : decode cX6_seasons 22 = .ok (.getfield 130, 3) := by decide +kernel
theorem dX6_seasons_25 : decode cX6_seasons 25 = .ok (.iload_n 1, 1) := by decide +kernel
theorem dX6_seasons_26 : decode cX6_seasons 26 = .ok (.iadd, 1) := by decide +kernel
theorem dX6_seasons_27 : decode cX6_seasons 27 = .ok (.ldc 133, 2) := by decide +kernel
theorem dX6_seasons_29 : decode cX6_seasons 29 = .ok (.if_icmp .le 10, 3) := by decide +kernel
theorem dX6_seasons_32 : decode cX6_seasons 32 = .ok (.aload_n 0, 1) := by decide +kernel
theorem dX6_seasons_33 : decode cX6_seasons 33 = .ok (.ldc 134, 2) := by decide +kernel
theorem dX6_seasons_35 : decode cX6_seasons 35 = .ok (.invokevirtual 56, 3) := by decide +kernel
theorem dX6_seasons_38 : decode cX6_seasons 38 = .ok (.ireturn, 1) := by decide +kernel
theorem dX6_seasons_39 : decode cX6_seasons 39 = .ok (.iconst 0, 1) := by decide +kernel
theorem dX6_seasons_40 : decode cX6_seasons 40 = .ok (.istore_n 2, 1) := by decide +kernel
theorem dX6_seasons_41 : decode cX6_seasons 41 = .ok (.iload_n 2, 1) := by decide +kernel
theorem dX6_seasons_42 : decode cX6_seasons 42 = .ok (.iload_n 1, 1) := by decide +kernel
theorem dX6_seasons_43 : decode cX6_seasons 43 = .ok (.if_icmp .ge 16, 3) := by decide +kernel
theorem dX6_seasons_46 : decode cX6_seasons 46 = .ok (.aload_n 0, 1) := by decide +kernel
theorem dX6_seasons_47 : decode cX6_seasons 47 = .ok (.getfield 12, 3) := by decide +kernel
theorem dX6_seasons_50 : decode cX6_seasons 50 = .ok (.invokevirtual 135, 3) := by decide +kernel
theorem dX6_seasons_53 : decode cX6_seasons 53 = .ok (.iinc 2 1, 3) := by decide +kernel
theorem dX6_seasons_56 : decode cX6_seasons 56 = .ok (.goto (-15), 3) := by decide +kernel
theorem dX6_seasons_59 : decode cX6_seasons 59 = .ok (.aload_n 0, 1) := by decide +kernel
theorem dX6_seasons_60 : decode cX6_seasons 60 = .ok (.getfield 12, 3) := by decide +kernel
theorem dX6_seasons_63 : decode cX6_seasons 63 = .ok (.invokevirtual 138, 3) := by decide +kernel
theorem dX6_seasons_66 : decode cX6_seasons 66 = .ok (.ireturn, 1) := by decide +kernel
theorem dX6_now_0 : decode cX6_now 0 = .ok (.iload_n 1, 1) := by decide +kernel
theorem dX6_now_1 : decode cX6_now 1 = .ok (.bipush 7, 2) := by decide +kernel
theorem dX6_now_3 : decode cX6_now 3 = .ok (.invokestatic 51, 3) := by decide +kernel
theorem dX6_now_6 : decode cX6_now 6 = .ok (.ifCond .ne 10, 3) := by decide +kernel
theorem dX6_now_9 : decode cX6_now 9 = .ok (.aload_n 0, 1) := by decide +kernel
theorem dX6_now_10 : decode cX6_now 10 = .ok (.ldc 55, 2) := by decide +kernel
theorem dX6_now_12 : decode cX6_now 12 = .ok (.invokevirtual 56, 3) := by decide +kernel
theorem dX6_now_15 : decode cX6_now 15 = .ok (.ireturn, 1) := by decide +kernel
theorem dX6_now_16 : decode cX6_now 16 = .ok (.iload_n 1, 1) := by decide +kernel
theorem dX6_now_17 : decode cX6_now 17 = .ok (.tableswitch 63 0 3 #[31, 39, 47, 55], 31) := by decide +kernel
theorem dX6_now_48 : decode cX6_now 48 = .ok (.aload_n 0, 1) := by decide +kernel
theorem dX6_now_49 : decode cX6_now 49 = .ok (.getfield 12, 3) := by decide +kernel
theorem dX6_now_52 : decode cX6_now 52 = .ok (.getfield 130, 3) := by decide +kernel
theorem dX6_now_55 : decode cX6_now 55 = .ok (.ireturn, 1) := by decide +kernel
theorem dX6_now_56 : decode cX6_now 56 = .ok (.aload_n 0, 1) := by decide +kernel
theorem dX6_now_57 : decode cX6_now 57 = .ok (.getfield 12, 3) := by decide +kernel
theorem dX6_now_60 : decode cX6_now 60 = .ok (.invokevirtual 138, 3) := by decide +kernel
theorem dX6_now_63 : decode cX6_now 63 = .ok (.ireturn, 1) := by decide +kernel
theorem dX6_now_64 : decode cX6_now 64 = .ok (.aload_n 0, 1) := by decide +kernel
theorem dX6_now_65 : decode cX6_now 65 = .ok (.getfield 12, 3) := by decide +kernel
theorem dX6_now_68 : decode cX6_now 68 = .ok (.invokevirtual 141, 3) := by decide +kernel
theorem dX6_now_71 : decode cX6_now 71 = .ok (.ireturn, 1) := by decide +kernel
theorem dX6_now_72 : decode cX6_now 72 = .ok (.aload_n 0, 1) := by decide +kernel
theorem dX6_now_73 : decode cX6_now 73 = .ok (.getfield 12, 3) := by decide +kernel
theorem dX6_now_76 : decode cX6_now 76 = .ok (.invokevirtual 144, 3) := by decide +kernel
theorem dX6_now_79 : decode cX6_now 79 = .ok (.ireturn, 1) := by decide +kernel
theorem dX6_now_80 : decode cX6_now 80 = .ok (.aload_n 0, 1) := by decide +kernel
theorem dX6_now_81 : decode cX6_now 81 = .ok (.getfield 12, 3) := by decide +kernel
theorem dX6_now_84 : decode cX6_now 84 = .ok (.getfield 147, 3) := by decide +kernel
theorem dX6_now_87 : decode cX6_now 87 = .ok (.iload_n 1, 1) := by decide +kernel
theorem dX6_now_88 : decode cX6_now 88 = .ok (.iconst 4, 1) := by decide +kernel
theorem dX6_now_89 : decode cX6_now 89 = .ok (.isub, 1) := by decide +kernel
theorem dX6_now_90 : decode cX6_now 90 = .ok (.iaload, 1) := by decide +kernel
theorem dX6_now_91 : decode cX6_now 91 = .ok (.ireturn, 1) := by decide +kernel
theorem dX6_clears_0 : decode cX6_clears 0 = .ok (.iconst 0, 1) := by decide +kernel
theorem dX6_clears_1 : decode cX6_clears 1 = .ok (.istore_n 1, 1) := by decide +kernel
theorem dX6_clears_2 : decode cX6_clears 2 = .ok (.iconst 0, 1) := by decide +kernel
theorem dX6_clears_3 : decode cX6_clears 3 = .ok (.istore_n 2, 1) := by decide +kernel
theorem dX6_clears_4 : decode cX6_clears 4 = .ok (.iload_n 2, 1) := by decide +kernel
theorem dX6_clears_5 : decode cX6_clears 5 = .ok (.iconst 4, 1) := by decide +kernel
theorem dX6_clears_6 : decode cX6_clears 6 = .ok (.if_icmp .ge 31, 3) := by decide +kernel
theorem dX6_clears_9 : decode cX6_clears 9 = .ok (.iload_n 1, 1) := by decide +kernel
theorem dX6_clears_10 : decode cX6_clears 10 = .ok (.aload_n 0, 1) := by decide +kernel
theorem dX6_clears_11 : decode cX6_clears 11 = .ok (.getfield 12, 3) := by decide +kernel
theorem dX6_clears_14 : decode cX6_clears 14 = .ok (.getfield 147, 3) := by decide +kernel
theorem dX6_clears_17 : decode cX6_clears 17 = .ok (.iload_n 2, 1) := by decide +kernel
theorem dX6_clears_18 : decode cX6_clears 18 = .ok (.iaload, 1) := by decide +kernel
theorem dX6_clears_19 : decode cX6_clears 19 = .ok (.iadd, 1) := by decide +kernel
theorem dX6_clears_20 : decode cX6_clears 20 = .ok (.istore_n 1, 1) := by decide +kernel
theorem dX6_clears_21 : decode cX6_clears 21 = .ok (.aload_n 0, 1) := by decide +kernel
theorem dX6_clears_22 : decode cX6_clears 22 = .ok (.getfield 12, 3) := by decide +kernel
theorem dX6_clears_25 : decode cX6_clears 25 = .ok (.getfield 147, 3) := by decide +kernel
theorem dX6_clears_28 : decode cX6_clears 28 = .ok (.iload_n 2, 1) := by decide +kernel
theorem dX6_clears_29 : decode cX6_clears 29 = .ok (.iconst 0, 1) := by decide +kernel
theorem dX6_clears_30 : decode cX6_clears 30 = .ok (.iastore, 1) := by decide +kernel
theorem dX6_clears_31 : decode cX6_clears 31 = .ok (.iinc 2 1, 3) := by decide +kernel
theorem dX6_clears_34 : decode cX6_clears 34 = .ok (.goto (-30), 3) := by decide +kernel
theorem dX6_clears_37 : decode cX6_clears 37 = .ok (.iload_n 1, 1) := by decide +kernel
theorem dX6_clears_38 : decode cX6_clears 38 = .ok (.ireturn, 1) := by decide +kernel
theorem dX6_when_0 : decode cX6_when 0 = .ok (.aload_n 0, 1) := by decide +kernel
theorem dX6_when_1 : decode cX6_when 1 = .ok (.getfield 12, 3) := by decide +kernel
theorem dX6_when_4 : decode cX6_when 4 = .ok (.iload_n 1, 1) := by decide +kernel
theorem dX6_when_5 : decode cX6_when 5 = .ok (.invokevirtual 94, 3) := by decide +kernel
theorem dX6_when_8 : decode cX6_when 8 = .ok (.ifCond .ne 10, 3) := by decide +kernel
theorem dX6_when_11 : decode cX6_when 11 = .ok (.aload_n 0, 1) := by decide +kernel
theorem dX6_when_12 : decode cX6_when 12 = .ok (.ldc 55, 2) := by decide +kernel
theorem dX6_when_14 : decode cX6_when 14 = .ok (.invokevirtual 56, 3) := by decide +kernel
theorem dX6_when_17 : decode cX6_when 17 = .ok (.ireturn, 1) := by decide +kernel
theorem dX6_when_18 : decode cX6_when 18 = .ok (.aload_n 0, 1) := by decide +kernel
theorem dX6_when_19 : decode cX6_when 19 = .ok (.getfield 16, 3) := by decide +kernel
theorem dX6_when_22 : decode cX6_when 22 = .ok (.aload_n 0, 1) := by decide +kernel
theorem dX6_when_23 : decode cX6_when 23 = .ok (.getfield 12, 3) := by decide +kernel
theorem dX6_when_26 : decode cX6_when 26 = .ok (.invokevirtual 150, 3) := by decide +kernel
theorem dX6_when_29 : decode cX6_when 29 = .ok (.iconst 0, 1) := by decide +kernel
theorem dX6_when_30 : decode cX6_when 30 = .ok (.istore_n 2, 1) := by decide +kernel
theorem dX6_when_31 : decode cX6_when 31 = .ok (.iload_n 2, 1) := by decide +kernel
theorem dX6_when_32 : decode cX6_when 32 = .ok (.sipush 200, 3) := by decide +kernel
theorem dX6_when_35 : decode cX6_when 35 = .ok (.if_icmp .gt 37, 3) := by decide +kernel
theorem dX6_when_38 : decode cX6_when 38 = .ok (.aload_n 0, 1) := by decide +kernel
theorem dX6_when_39 : decode cX6_when 39 = .ok (.getfield 16, 3) := by decide +kernel
theorem dX6_when_42 : decode cX6_when 42 = .ok (.aload_n 0, 1) := by decide +kernel
theorem dX6_when_43 : decode cX6_when 43 = .ok (.getfield 16, 3) := by decide +kernel
theorem dX6_when_46 : decode cX6_when 46 = .ok (.getfield 97, 3) := by decide +kernel
theorem dX6_when_49 : decode cX6_when 49 = .ok (.iload_n 1, 1) := by decide +kernel
theorem dX6_when_50 : decode cX6_when 50 = .ok (.aaload, 1) := by decide +kernel
theorem dX6_when_51 : decode cX6_when 51 = .ok (.invokevirtual 123, 3) := by decide +kernel
theorem dX6_when_54 : decode cX6_when 54 = .ok (.ifCond .eq 5, 3) := by decide +kernel
theorem dX6_when_57 : decode cX6_when 57 = .ok (.iload_n 2, 1) := by decide +kernel
theorem dX6_when_58 : decode cX6_when 58 = .ok (.ireturn, 1) := by decide +kernel
theorem dX6_when_59 : decode cX6_when 59 = .ok (.aload_n 0, 1) := by decide +kernel
theorem dX6_when_60 : decode cX6_when 60 = .ok (.getfield 16, 3) := by decide +kernel
theorem dX6_when_63 : decode cX6_when 63 = .ok (.invokevirtual 135, 3) := by decide +kernel
theorem dX6_when_66 : decode cX6_when 66 = .ok (.iinc 2 1, 3) := by decide +kernel
theorem dX6_when_69 : decode cX6_when 69 = .ok (.goto (-38), 3) := by decide +kernel
theorem dX6_when_72 : decode cX6_when 72 = .ok (.aload_n 0, 1) := by decide +kernel
theorem dX6_when_73 : decode cX6_when 73 = .ok (.ldc 154, 2) := by decide +kernel
theorem dX6_when_75 : decode cX6_when 75 = .ok (.invokevirtual 56, 3) := by decide +kernel
theorem dX6_when_78 : decode cX6_when 78 = .ok (.ireturn, 1) := by decide +kernel
theorem dX6_flies_0 : decode cX6_flies 0 = .ok (.aload_n 0, 1) := by decide +kernel
theorem dX6_flies_1 : decode cX6_flies 1 = .ok (.getfield 12, 3) := by decide +kernel
theorem dX6_flies_4 : decode cX6_flies 4 = .ok (.iload_n 1, 1) := by decide +kernel
theorem dX6_flies_5 : decode cX6_flies 5 = .ok (.invokevirtual 68, 3) := by decide +kernel
theorem dX6_flies_8 : decode cX6_flies 8 = .ok (.ifCond .ne 10, 3) := by decide +kernel
theorem dX6_flies_11 : decode cX6_flies 11 = .ok (.aload_n 0, 1) := by decide +kernel
theorem dX6_flies_12 : decode cX6_flies 12 = .ok (.ldc 55, 2) := by decide +kernel
theorem dX6_flies_14 : decode cX6_flies 14 = .ok (.invokevirtual 56, 3) := by decide +kernel
theorem dX6_flies_17 : decode cX6_flies 17 = .ok (.ireturn, 1) := by decide +kernel
theorem dX6_flies_18 : decode cX6_flies 18 = .ok (.aload_n 0, 1) := by decide +kernel
theorem dX6_flies_19 : decode cX6_flies 19 = .ok (.getfield 16, 3) := by decide +kernel
theorem dX6_flies_22 : decode cX6_flies 22 = .ok (.aload_n 0, 1) := by decide +kernel
theorem dX6_flies_23 : decode cX6_flies 23 = .ok (.getfield 12, 3) := by decide +kernel
theorem dX6_flies_26 : decode cX6_flies 26 = .ok (.invokevirtual 150, 3) := by decide +kernel
theorem dX6_flies_29 : decode cX6_flies 29 = .ok (.iconst 0, 1) := by decide +kernel
theorem dX6_flies_30 : decode cX6_flies 30 = .ok (.istore_n 2, 1) := by decide +kernel
theorem dX6_flies_31 : decode cX6_flies 31 = .ok (.iload_n 2, 1) := by decide +kernel
theorem dX6_flies_32 : decode cX6_flies 32 = .ok (.sipush 200, 3) := by decide +kernel
theorem dX6_flies_35 : decode cX6_flies 35 = .ok (.if_icmp .gt 33, 3) := by decide +kernel
theorem dX6_flies_38 : decode cX6_flies 38 = .ok (.aload_n 0, 1) := by decide +kernel
theorem dX6_flies_39 : decode cX6_flies 39 = .ok (.getfield 16, 3) := by decide +kernel
theorem dX6_flies_42 : decode cX6_flies 42 = .ok (.getfield 72, 3) := by decide +kernel
theorem dX6_flies_45 : decode cX6_flies 45 = .ok (.iload_n 1, 1) := by decide +kernel
theorem dX6_flies_46 : decode cX6_flies 46 = .ok (.aaload, 1) := by decide +kernel
theorem dX6_flies_47 : decode cX6_flies 47 = .ok (.invokevirtual 155, 3) := by decide +kernel
theorem dX6_flies_50 : decode cX6_flies 50 = .ok (.ifCond .eq 5, 3) := by decide +kernel
theorem dX6_flies_53 : decode cX6_flies 53 = .ok (.iload_n 2, 1) := by decide +kernel
theorem dX6_flies_54 : decode cX6_flies 54 = .ok (.ireturn, 1) := by decide +kernel
theorem dX6_flies_55 : decode cX6_flies 55 = .ok (.aload_n 0, 1) := by decide +kernel
theorem dX6_flies_56 : decode cX6_flies 56 = .ok (.getfield 16, 3) := by decide +kernel
theorem dX6_flies_59 : decode cX6_flies 59 = .ok (.invokevirtual 135, 3) := by decide +kernel
theorem dX6_flies_62 : decode cX6_flies 62 = .ok (.iinc 2 1, 3) := by decide +kernel
theorem dX6_flies_65 : decode cX6_flies 65 = .ok (.goto (-34), 3) := by decide +kernel
theorem dX6_flies_68 : decode cX6_flies 68 = .ok (.aload_n 0, 1) := by decide +kernel
theorem dX6_flies_69 : decode cX6_flies 69 = .ok (.ldc 154, 2) := by decide +kernel
theorem dX6_flies_71 : decode cX6_flies 71 = .ok (.invokevirtual 56, 3) := by decide +kernel
theorem dX6_flies_74 : decode cX6_flies 74 = .ok (.ireturn, 1) := by decide +kernel
theorem dX6_plucked_0 : decode cX6_plucked 0 = .ok (.aload_n 0, 1) := by decide +kernel
theorem dX6_plucked_1 : decode cX6_plucked 1 = .ok (.getfield 12, 3) := by decide +kernel
theorem dX6_plucked_4 : decode cX6_plucked 4 = .ok (.iload_n 1, 1) := by decide +kernel
theorem dX6_plucked_5 : decode cX6_plucked 5 = .ok (.invokevirtual 94, 3) := by decide +kernel
theorem dX6_plucked_8 : decode cX6_plucked 8 = .ok (.ifCond .ne 10, 3) := by decide +kernel
theorem dX6_plucked_11 : decode cX6_plucked 11 = .ok (.aload_n 0, 1) := by decide +kernel
theorem dX6_plucked_12 : decode cX6_plucked 12 = .ok (.ldc 55, 2) := by decide +kernel
theorem dX6_plucked_14 : decode cX6_plucked 14 = .ok (.invokevirtual 56, 3) := by decide +kernel
theorem dX6_plucked_17 : decode cX6_plucked 17 = .ok (.ireturn, 1) := by decide +kernel
theorem dX6_plucked_18 : decode cX6_plucked 18 = .ok (.aload_n 0, 1) := by decide +kernel
theorem dX6_plucked_19 : decode cX6_plucked 19 = .ok (.getfield 16, 3) := by decide +kernel
theorem dX6_plucked_22 : decode cX6_plucked 22 = .ok (.aload_n 0, 1) := by decide +kernel
theorem dX6_plucked_23 : decode cX6_plucked 23 = .ok (.getfield 12, 3) := by decide +kernel
theorem dX6_plucked_26 : decode cX6_plucked 26 = .ok (.invokevirtual 150, 3) := by decide +kernel
theorem dX6_plucked_29 : decode cX6_plucked 29 = .ok (.aload_n 0, 1) := by decide +kernel
theorem dX6_plucked_30 : decode cX6_plucked 30 = .ok (.getfield 16, 3) := by decide +kernel
theorem dX6_plucked_33 : decode cX6_plucked 33 = .ok (.aload_n 0, 1) := by decide +kernel
theorem dX6_plucked_34 : decode cX6_plucked 34 = .ok (.getfield 16, 3) := by decide +kernel
theorem dX6_plucked_37 : decode cX6_plucked 37 = .ok (.getfield 97, 3) := by decide +kernel
theorem dX6_plucked_40 : decode cX6_plucked 40 = .ok (.iload_n 1, 1) := by decide +kernel
theorem dX6_plucked_41 : decode cX6_plucked 41 = .ok (.aaload, 1) := by decide +kernel
theorem dX6_plucked_42 : decode cX6_plucked 42 = .ok (.invokevirtual 127, 3) := by decide +kernel
theorem dX6_plucked_45 : decode cX6_plucked 45 = .ok (.pop, 1) := by decide +kernel
theorem dX6_plucked_46 : decode cX6_plucked 46 = .ok (.aload_n 0, 1) := by decide +kernel
theorem dX6_plucked_47 : decode cX6_plucked 47 = .ok (.getfield 12, 3) := by decide +kernel
theorem dX6_plucked_50 : decode cX6_plucked 50 = .ok (.invokevirtual 144, 3) := by decide +kernel
theorem dX6_plucked_53 : decode cX6_plucked 53 = .ok (.aload_n 0, 1) := by decide +kernel
theorem dX6_plucked_54 : decode cX6_plucked 54 = .ok (.getfield 16, 3) := by decide +kernel
theorem dX6_plucked_57 : decode cX6_plucked 57 = .ok (.invokevirtual 144, 3) := by decide +kernel
theorem dX6_plucked_60 : decode cX6_plucked 60 = .ok (.iconst (-1), 1) := by decide +kernel
theorem dX6_plucked_61 : decode cX6_plucked 61 = .ok (.ixor, 1) := by decide +kernel
theorem dX6_plucked_62 : decode cX6_plucked 62 = .ok (.iand, 1) := by decide +kernel
theorem dX6_plucked_63 : decode cX6_plucked 63 = .ok (.ireturn, 1) := by decide +kernel
theorem dX6_hinges_0 : decode cX6_hinges 0 = .ok (.aload_n 0, 1) := by decide +kernel
theorem dX6_hinges_1 : decode cX6_hinges 1 = .ok (.getfield 12, 3) := by decide +kernel
theorem dX6_hinges_4 : decode cX6_hinges 4 = .ok (.iload_n 1, 1) := by decide +kernel
theorem dX6_hinges_5 : decode cX6_hinges 5 = .ok (.invokevirtual 94, 3) := by decide +kernel
theorem dX6_hinges_8 : decode cX6_hinges 8 = .ok (.ifCond .ne 10, 3) := by decide +kernel
theorem dX6_hinges_11 : decode cX6_hinges 11 = .ok (.aload_n 0, 1) := by decide +kernel
theorem dX6_hinges_12 : decode cX6_hinges 12 = .ok (.ldc 55, 2) := by decide +kernel
theorem dX6_hinges_14 : decode cX6_hinges 14 = .ok (.invokevirtual 56, 3) := by decide +kernel
theorem dX6_hinges_17 : decode cX6_hinges 17 = .ok (.ireturn, 1) := by decide +kernel
theorem dX6_hinges_18 : decode cX6_hinges 18 = .ok (.aload_n 0, 1) := by decide +kernel
theorem dX6_hinges_19 : decode cX6_hinges 19 = .ok (.getfield 16, 3) := by decide +kernel
theorem dX6_hinges_22 : decode cX6_hinges 22 = .ok (.aload_n 0, 1) := by decide +kernel
theorem dX6_hinges_23 : decode cX6_hinges 23 = .ok (.getfield 12, 3) := by decide +kernel
theorem dX6_hinges_26 : decode cX6_hinges 26 = .ok (.invokevirtual 150, 3) := by decide +kernel
theorem dX6_hinges_29 : decode cX6_hinges 29 = .ok (.aload_n 0, 1) := by decide +kernel
theorem dX6_hinges_30 : decode cX6_hinges 30 = .ok (.getfield 12, 3) := by decide +kernel
theorem dX6_hinges_33 : decode cX6_hinges 33 = .ok (.getfield 97, 3) := by decide +kernel
theorem dX6_hinges_36 : decode cX6_hinges 36 = .ok (.iload_n 1, 1) := by decide +kernel
theorem dX6_hinges_37 : decode cX6_hinges 37 = .ok (.aaload, 1) := by decide +kernel
theorem dX6_hinges_38 : decode cX6_hinges 38 = .ok (.getfield 159, 3) := by decide +kernel
theorem dX6_hinges_41 : decode cX6_hinges 41 = .ok (.istore_n 2, 1) := by decide +kernel
theorem dX6_hinges_42 : decode cX6_hinges 42 = .ok (.aload_n 0, 1) := by decide +kernel
theorem dX6_hinges_43 : decode cX6_hinges 43 = .ok (.getfield 12, 3) := by decide +kernel
theorem dX6_hinges_46 : decode cX6_hinges 46 = .ok (.aload_n 0, 1) := by decide +kernel
theorem dX6_hinges_47 : decode cX6_hinges 47 = .ok (.getfield 12, 3) := by decide +kernel
theorem dX6_hinges_50 : decode cX6_hinges 50 = .ok (.getfield 97, 3) := by decide +kernel
theorem dX6_hinges_53 : decode cX6_hinges 53 = .ok (.iload_n 1, 1) := by decide +kernel
theorem dX6_hinges_54 : decode cX6_hinges 54 = .ok (.aaload, 1) := by decide +kernel
theorem dX6_hinges_55 : decode cX6_hinges 55 = .ok (.invokevirtual 123, 3) := by decide +kernel
theorem dX6_hinges_58 : decode cX6_hinges 58 = .ok (.istore_n 3, 1) := by decide +kernel
theorem dX6_hinges_59 : decode cX6_hinges 59 = .ok (.iconst 0, 1) := by decide +kernel
theorem dX6_hinges_60 : decode cX6_hinges 60 = .ok (.istore 4, 2) := by decide +kernel
theorem dX6_hinges_62 : decode cX6_hinges 62 = .ok (.iconst 0, 1) := by decide +kernel
theorem dX6_hinges_63 : decode cX6_hinges 63 = .ok (.istore 5, 2) := by decide +kernel
theorem dX6_hinges_65 : decode cX6_hinges 65 = .ok (.iload 5, 2) := by decide +kernel
theorem dX6_hinges_67 : decode cX6_hinges 67 = .ok (.aload_n 0, 1) := by decide +kernel
theorem dX6_hinges_68 : decode cX6_hinges 68 = .ok (.getfield 12, 3) := by decide +kernel
theorem dX6_hinges_71 : decode cX6_hinges 71 = .ok (.getfield 60, 3) := by decide +kernel
theorem dX6_hinges_74 : decode cX6_hinges 74 = .ok (.if_icmp .ge 33, 3) := by decide +kernel
theorem dX6_hinges_77 : decode cX6_hinges 77 = .ok (.aload_n 0, 1) := by decide +kernel
theorem dX6_hinges_78 : decode cX6_hinges 78 = .ok (.iload_n 1, 1) := by decide +kernel
theorem dX6_hinges_79 : decode cX6_hinges 79 = .ok (.iload_n 2, 1) := by decide +kernel
theorem dX6_hinges_80 : decode cX6_hinges 80 = .ok (.iconst 1, 1) := by decide +kernel
theorem dX6_hinges_81 : decode cX6_hinges 81 = .ok (.iload 5, 2) := by decide +kernel
theorem dX6_hinges_83 : decode cX6_hinges 83 = .ok (.ishl, 1) := by decide +kernel
theorem dX6_hinges_84 : decode cX6_hinges 84 = .ok (.ixor, 1) := by decide +kernel
theorem dX6_hinges_85 : decode cX6_hinges 85 = .ok (.invokevirtual 162, 3) := by decide +kernel
theorem dX6_hinges_88 : decode cX6_hinges 88 = .ok (.iload_n 3, 1) := by decide +kernel
theorem dX6_hinges_89 : decode cX6_hinges 89 = .ok (.if_icmp .eq 12, 3) := by decide +kernel
theorem dX6_hinges_92 : decode cX6_hinges 92 = .ok (.iload 4, 2) := by decide +kernel
theorem dX6_hinges_94 : decode cX6_hinges 94 = .ok (.iconst 1, 1) := by decide +kernel
theorem dX6_hinges_95 : decode cX6_hinges 95 = .ok (.iload 5, 2) := by decide +kernel
theorem dX6_hinges_97 : decode cX6_hinges 97 = .ok (.ishl, 1) := by decide +kernel
theorem dX6_hinges_98 : decode cX6_hinges 98 = .ok (.ior, 1) := by decide +kernel
theorem dX6_hinges_99 : decode cX6_hinges 99 = .ok (.istore 4, 2) := by decide +kernel
theorem dX6_hinges_101 : decode cX6_hinges 101 = .ok (.iinc 5 1, 3) := by decide +kernel
theorem dX6_hinges_104 : decode cX6_hinges 104 = .ok (.goto (-39), 3) := by decide +kernel
theorem dX6_hinges_107 : decode cX6_hinges 107 = .ok (.iload 4, 2) := by decide +kernel
theorem dX6_hinges_109 : decode cX6_hinges 109 = .ok (.ireturn, 1) := by decide +kernel
theorem dX6_sets_0 : decode cX6_sets 0 = .ok (.aload_n 0, 1) := by decide +kernel
theorem dX6_sets_1 : decode cX6_sets 1 = .ok (.getfield 12, 3) := by decide +kernel
theorem dX6_sets_4 : decode cX6_sets 4 = .ok (.iload_n 1, 1) := by decide +kernel
theorem dX6_sets_5 : decode cX6_sets 5 = .ok (.invokevirtual 94, 3) := by decide +kernel
theorem dX6_sets_8 : decode cX6_sets 8 = .ok (.ifCond .ne 10, 3) := by decide +kernel
theorem dX6_sets_11 : decode cX6_sets 11 = .ok (.aload_n 0, 1) := by decide +kernel
theorem dX6_sets_12 : decode cX6_sets 12 = .ok (.ldc 55, 2) := by decide +kernel
theorem dX6_sets_14 : decode cX6_sets 14 = .ok (.invokevirtual 56, 3) := by decide +kernel
theorem dX6_sets_17 : decode cX6_sets 17 = .ok (.ireturn, 1) := by decide +kernel
theorem dX6_sets_18 : decode cX6_sets 18 = .ok (.aload_n 0, 1) := by decide +kernel
theorem dX6_sets_19 : decode cX6_sets 19 = .ok (.getfield 16, 3) := by decide +kernel
theorem dX6_sets_22 : decode cX6_sets 22 = .ok (.aload_n 0, 1) := by decide +kernel
theorem dX6_sets_23 : decode cX6_sets 23 = .ok (.getfield 12, 3) := by decide +kernel
theorem dX6_sets_26 : decode cX6_sets 26 = .ok (.invokevirtual 150, 3) := by decide +kernel
theorem dX6_sets_29 : decode cX6_sets 29 = .ok (.aload_n 0, 1) := by decide +kernel
theorem dX6_sets_30 : decode cX6_sets 30 = .ok (.getfield 12, 3) := by decide +kernel
theorem dX6_sets_33 : decode cX6_sets 33 = .ok (.invokevirtual 104, 3) := by decide +kernel
theorem dX6_sets_36 : decode cX6_sets 36 = .ok (.istore_n 2, 1) := by decide +kernel
theorem dX6_sets_37 : decode cX6_sets 37 = .ok (.iconst 0, 1) := by decide +kernel
theorem dX6_sets_38 : decode cX6_sets 38 = .ok (.istore_n 3, 1) := by decide +kernel
theorem dX6_sets_39 : decode cX6_sets 39 = .ok (.iconst 0, 1) := by decide +kernel
theorem dX6_sets_40 : decode cX6_sets 40 = .ok (.istore 4, 2) := by decide +kernel
theorem dX6_sets_42 : decode cX6_sets 42 = .ok (.iload 4, 2) := by decide +kernel
theorem dX6_sets_44 : decode cX6_sets 44 = .ok (.iload_n 2, 1) := by decide +kernel
theorem dX6_sets_45 : decode cX6_sets 45 = .ok (.if_icmp .gt 22, 3) := by decide +kernel
theorem dX6_sets_48 : decode cX6_sets 48 = .ok (.aload_n 0, 1) := by decide +kernel
theorem dX6_sets_49 : decode cX6_sets 49 = .ok (.iload_n 1, 1) := by decide +kernel
theorem dX6_sets_50 : decode cX6_sets 50 = .ok (.iload 4, 2) := by decide +kernel
theorem dX6_sets_52 : decode cX6_sets 52 = .ok (.invokevirtual 162, 3) := by decide +kernel
theorem dX6_sets_55 : decode cX6_sets 55 = .ok (.ifCond .eq 6, 3) := by decide +kernel
theorem dX6_sets_58 : decode cX6_sets 58 = .ok (.iinc 3 1, 3) := by decide +kernel
theorem dX6_sets_61 : decode cX6_sets 61 = .ok (.iinc 4 1, 3) := by decide +kernel
theorem dX6_sets_64 : decode cX6_sets 64 = .ok (.goto (-22), 3) := by decide +kernel
theorem dX6_sets_67 : decode cX6_sets 67 = .ok (.iload_n 3, 1) := by decide +kernel
theorem dX6_sets_68 : decode cX6_sets 68 = .ok (.ireturn, 1) := by decide +kernel
theorem dX6_power_0 : decode cX6_power 0 = .ok (.aload_n 0, 1) := by decide +kernel
theorem dX6_power_1 : decode cX6_power 1 = .ok (.getfield 12, 3) := by decide +kernel
theorem dX6_power_4 : decode cX6_power 4 = .ok (.iload_n 1, 1) := by decide +kernel
theorem dX6_power_5 : decode cX6_power 5 = .ok (.invokevirtual 68, 3) := by decide +kernel
theorem dX6_power_8 : decode cX6_power 8 = .ok (.ifCond .eq 14, 3) := by decide +kernel
theorem dX6_power_11 : decode cX6_power 11 = .ok (.aload_n 0, 1) := by decide +kernel
theorem dX6_power_12 : decode cX6_power 12 = .ok (.getfield 12, 3) := by decide +kernel
theorem dX6_power_15 : decode cX6_power 15 = .ok (.iload_n 2, 1) := by decide +kernel
theorem dX6_power_16 : decode cX6_power 16 = .ok (.invokevirtual 94, 3) := by decide +kernel
theorem dX6_power_19 : decode cX6_power 19 = .ok (.ifCond .ne 10, 3) := by decide +kernel
theorem dX6_power_22 : decode cX6_power 22 = .ok (.aload_n 0, 1) := by decide +kernel
theorem dX6_power_23 : decode cX6_power 23 = .ok (.ldc 55, 2) := by decide +kernel
theorem dX6_power_25 : decode cX6_power 25 = .ok (.invokevirtual 56, 3) := by decide +kernel
theorem dX6_power_28 : decode cX6_power 28 = .ok (.ireturn, 1) := by decide +kernel
theorem dX6_power_29 : decode cX6_power 29 = .ok (.aload_n 0, 1) := by decide +kernel
theorem dX6_power_30 : decode cX6_power 30 = .ok (.getfield 16, 3) := by decide +kernel
theorem dX6_power_33 : decode cX6_power 33 = .ok (.aload_n 0, 1) := by decide +kernel
theorem dX6_power_34 : decode cX6_power 34 = .ok (.getfield 12, 3) := by decide +kernel
theorem dX6_power_37 : decode cX6_power 37 = .ok (.invokevirtual 150, 3) := by decide +kernel
theorem dX6_power_40 : decode cX6_power 40 = .ok (.aload_n 0, 1) := by decide +kernel
theorem dX6_power_41 : decode cX6_power 41 = .ok (.getfield 12, 3) := by decide +kernel
theorem dX6_power_44 : decode cX6_power 44 = .ok (.invokevirtual 104, 3) := by decide +kernel
theorem dX6_power_47 : decode cX6_power 47 = .ok (.istore_n 3, 1) := by decide +kernel
theorem dX6_power_48 : decode cX6_power 48 = .ok (.iconst 1, 1) := by decide +kernel
theorem dX6_power_49 : decode cX6_power 49 = .ok (.iload_n 1, 1) := by decide +kernel
theorem dX6_power_50 : decode cX6_power 50 = .ok (.ishl, 1) := by decide +kernel
theorem dX6_power_51 : decode cX6_power 51 = .ok (.istore 4, 2) := by decide +kernel
theorem dX6_power_53 : decode cX6_power 53 = .ok (.iconst 0, 1) := by decide +kernel
theorem dX6_power_54 : decode cX6_power 54 = .ok (.istore 5, 2) := by decide +kernel
theorem dX6_power_56 : decode cX6_power 56 = .ok (.iconst 0, 1) := by decide +kernel
theorem dX6_power_57 : decode cX6_power 57 = .ok (.istore 6, 2) := by decide +kernel
theorem dX6_power_59 : decode cX6_power 59 = .ok (.iload 6, 2) := by decide +kernel
theorem dX6_power_61 : decode cX6_power 61 = .ok (.iload_n 3, 1) := by decide +kernel
theorem dX6_power_62 : decode cX6_power 62 = .ok (.if_icmp .gt 45, 3) := by decide +kernel
theorem dX6_power_65 : decode cX6_power 65 = .ok (.iload 6, 2) := by decide +kernel
theorem dX6_power_67 : decode cX6_power 67 = .ok (.iload 4, 2) := by decide +kernel
theorem dX6_power_69 : decode cX6_power 69 = .ok (.iand, 1) := by decide +kernel
theorem dX6_power_70 : decode cX6_power 70 = .ok (.ifCond .eq 31, 3) := by decide +kernel
theorem dX6_power_73 : decode cX6_power 73 = .ok (.aload_n 0, 1) := by decide +kernel
theorem dX6_power_74 : decode cX6_power 74 = .ok (.iload_n 2, 1) := by decide +kernel
theorem dX6_power_75 : decode cX6_power 75 = .ok (.iload 6, 2) := by decide +kernel
theorem dX6_power_77 : decode cX6_power 77 = .ok (.invokevirtual 162, 3) := by decide +kernel
theorem dX6_power_80 : decode cX6_power 80 = .ok (.ifCond .eq 21, 3) := by decide +kernel
theorem dX6_power_83 : decode cX6_power 83 = .ok (.aload_n 0, 1) := by decide +kernel
theorem dX6_power_84 : decode cX6_power 84 = .ok (.iload_n 2, 1) := by decide +kernel
theorem dX6_power_85 : decode cX6_power 85 = .ok (.iload 6, 2) := by decide +kernel
theorem dX6_power_87 : decode cX6_power 87 = .ok (.iload 4, 2) := by decide +kernel
theorem dX6_power_89 : decode cX6_power 89 = .ok (.iconst (-1), 1) := by decide +kernel
theorem dX6_power_90 : decode cX6_power 90 = .ok (.ixor, 1) := by decide +kernel
theorem dX6_power_91 : decode cX6_power 91 = .ok (.iand, 1) := by decide +kernel
theorem dX6_power_92 : decode cX6_power 92 = .ok (.invokevirtual 162, 3) := by decide +kernel
theorem dX6_power_95 : decode cX6_power 95 = .ok (.ifCond .ne 6, 3) := by decide +kernel
theorem dX6_power_98 : decode cX6_power 98 = .ok (.iinc 5 1, 3) := by decide +kernel
theorem dX6_power_101 : decode cX6_power 101 = .ok (.iinc 6 1, 3) := by decide +kernel
theorem dX6_power_104 : decode cX6_power 104 = .ok (.goto (-45), 3) := by decide +kernel
theorem dX6_power_107 : decode cX6_power 107 = .ok (.iload 5, 2) := by decide +kernel
theorem dX6_power_109 : decode cX6_power 109 = .ok (.ireturn, 1) := by decide +kernel
theorem dX6_won_0 : decode cX6_won 0 = .ok (.aload_n 0, 1) := by decide +kernel
theorem dX6_won_1 : decode cX6_won 1 = .ok (.getfield 12, 3) := by decide +kernel
theorem dX6_won_4 : decode cX6_won 4 = .ok (.iload_n 1, 1) := by decide +kernel
theorem dX6_won_5 : decode cX6_won 5 = .ok (.invokevirtual 94, 3) := by decide +kernel
theorem dX6_won_8 : decode cX6_won 8 = .ok (.ifCond .ne 10, 3) := by decide +kernel
theorem dX6_won_11 : decode cX6_won 11 = .ok (.aload_n 0, 1) := by decide +kernel
theorem dX6_won_12 : decode cX6_won 12 = .ok (.ldc 55, 2) := by decide +kernel
theorem dX6_won_14 : decode cX6_won 14 = .ok (.invokevirtual 56, 3) := by decide +kernel
theorem dX6_won_17 : decode cX6_won 17 = .ok (.ireturn, 1) := by decide +kernel
theorem dX6_won_18 : decode cX6_won 18 = .ok (.aload_n 0, 1) := by decide +kernel
theorem dX6_won_19 : decode cX6_won 19 = .ok (.getfield 16, 3) := by decide +kernel
theorem dX6_won_22 : decode cX6_won 22 = .ok (.aload_n 0, 1) := by decide +kernel
theorem dX6_won_23 : decode cX6_won 23 = .ok (.getfield 12, 3) := by decide +kernel
theorem dX6_won_26 : decode cX6_won 26 = .ok (.invokevirtual 150, 3) := by decide +kernel
theorem dX6_won_29 : decode cX6_won 29 = .ok (.aload_n 0, 1) := by decide +kernel
theorem dX6_won_30 : decode cX6_won 30 = .ok (.getfield 12, 3) := by decide +kernel
theorem dX6_won_33 : decode cX6_won 33 = .ok (.invokevirtual 104, 3) := by decide +kernel
theorem dX6_won_36 : decode cX6_won 36 = .ok (.istore_n 2, 1) := by decide +kernel
theorem dX6_won_37 : decode cX6_won 37 = .ok (.aload_n 0, 1) := by decide +kernel
theorem dX6_won_38 : decode cX6_won 38 = .ok (.getfield 12, 3) := by decide +kernel
theorem dX6_won_41 : decode cX6_won 41 = .ok (.getfield 97, 3) := by decide +kernel
theorem dX6_won_44 : decode cX6_won 44 = .ok (.iload_n 1, 1) := by decide +kernel
theorem dX6_won_45 : decode cX6_won 45 = .ok (.aaload, 1) := by decide +kernel
theorem dX6_won_46 : decode cX6_won 46 = .ok (.getfield 159, 3) := by decide +kernel
theorem dX6_won_49 : decode cX6_won 49 = .ok (.istore_n 3, 1) := by decide +kernel
theorem dX6_won_50 : decode cX6_won 50 = .ok (.ldc 154, 2) := by decide +kernel
theorem dX6_won_52 : decode cX6_won 52 = .ok (.istore 4, 2) := by decide +kernel
theorem dX6_won_54 : decode cX6_won 54 = .ok (.bipush 9, 2) := by decide +kernel
theorem dX6_won_56 : decode cX6_won 56 = .ok (.istore 5, 2) := by decide +kernel
theorem dX6_won_58 : decode cX6_won 58 = .ok (.iconst 0, 1) := by decide +kernel
theorem dX6_won_59 : decode cX6_won 59 = .ok (.istore 6, 2) := by decide +kernel
theorem dX6_won_61 : decode cX6_won 61 = .ok (.iload 6, 2) := by decide +kernel
theorem dX6_won_63 : decode cX6_won 63 = .ok (.iload_n 2, 1) := by decide +kernel
theorem dX6_won_64 : decode cX6_won 64 = .ok (.if_icmp .gt 61, 3) := by decide +kernel
theorem dX6_won_67 : decode cX6_won 67 = .ok (.iload 6, 2) := by decide +kernel
theorem dX6_won_69 : decode cX6_won 69 = .ok (.iload_n 3, 1) := by decide +kernel
theorem dX6_won_70 : decode cX6_won 70 = .ok (.iand, 1) := by decide +kernel
theorem dX6_won_71 : decode cX6_won 71 = .ok (.ifCond .ne 17, 3) := by decide +kernel
theorem dX6_won_74 : decode cX6_won 74 = .ok (.iload 6, 2) := by decide +kernel
theorem dX6_won_76 : decode cX6_won 76 = .ok (.invokestatic 165, 3) := by decide +kernel
theorem dX6_won_79 : decode cX6_won 79 = .ok (.iload 5, 2) := by decide +kernel
theorem dX6_won_81 : decode cX6_won 81 = .ok (.if_icmp .ge 7, 3) := by decide +kernel
theorem dX6_won_84 : decode cX6_won 84 = .ok (.iconst 1, 1) := by decide +kernel
theorem dX6_won_85 : decode cX6_won 85 = .ok (.goto 4, 3) := by decide +kernel
theorem dX6_won_88 : decode cX6_won 88 = .ok (.iconst 0, 1) := by decide +kernel
theorem dX6_won_89 : decode cX6_won 89 = .ok (.istore 7, 2) := by decide +kernel
theorem dX6_won_91 : decode cX6_won 91 = .ok (.iload 7, 2) := by decide +kernel
theorem dX6_won_93 : decode cX6_won 93 = .ok (.ifCond .eq 26, 3) := by decide +kernel
theorem dX6_won_96 : decode cX6_won 96 = .ok (.aload_n 0, 1) := by decide +kernel
theorem dX6_won_97 : decode cX6_won 97 = .ok (.iload_n 1, 1) := by decide +kernel
theorem dX6_won_98 : decode cX6_won 98 = .ok (.iload_n 3, 1) := by decide +kernel
theorem dX6_won_99 : decode cX6_won 99 = .ok (.iload 6, 2) := by decide +kernel
theorem dX6_won_101 : decode cX6_won 101 = .ok (.ior, 1) := by decide +kernel
theorem dX6_won_102 : decode cX6_won 102 = .ok (.invokevirtual 162, 3) := by decide +kernel
theorem dX6_won_105 : decode cX6_won 105 = .ok (.ifCond .eq 14, 3) := by decide +kernel
theorem dX6_won_108 : decode cX6_won 108 = .ok (.iload 6, 2) := by decide +kernel
theorem dX6_won_110 : decode cX6_won 110 = .ok (.istore 4, 2) := by decide +kernel
theorem dX6_won_112 : decode cX6_won 112 = .ok (.iload 6, 2) := by decide +kernel
theorem dX6_won_114 : decode cX6_won 114 = .ok (.invokestatic 165, 3) := by decide +kernel
theorem dX6_won_117 : decode cX6_won 117 = .ok (.istore 5, 2) := by decide +kernel
theorem dX6_won_119 : decode cX6_won 119 = .ok (.iinc 6 1, 3) := by decide +kernel
theorem dX6_won_122 : decode cX6_won 122 = .ok (.goto (-61), 3) := by decide +kernel
theorem dX6_won_125 : decode cX6_won 125 = .ok (.iload 4, 2) := by decide +kernel
theorem dX6_won_127 : decode cX6_won 127 = .ok (.ldc 154, 2) := by decide +kernel
theorem dX6_won_129 : decode cX6_won 129 = .ok (.if_icmp .ne 12, 3) := by decide +kernel
theorem dX6_won_132 : decode cX6_won 132 = .ok (.aload_n 0, 1) := by decide +kernel
theorem dX6_won_133 : decode cX6_won 133 = .ok (.ldc 154, 2) := by decide +kernel
theorem dX6_won_135 : decode cX6_won 135 = .ok (.invokevirtual 56, 3) := by decide +kernel
theorem dX6_won_138 : decode cX6_won 138 = .ok (.goto 5, 3) := by decide +kernel
theorem dX6_won_141 : decode cX6_won 141 = .ok (.iload 4, 2) := by decide +kernel
theorem dX6_won_143 : decode cX6_won 143 = .ok (.ireturn, 1) := by decide +kernel
theorem dX6_colour_0 : decode cX6_colour 0 = .ok (.aload_n 0, 1) := by decide +kernel
theorem dX6_colour_1 : decode cX6_colour 1 = .ok (.getfield 12, 3) := by decide +kernel
theorem dX6_colour_4 : decode cX6_colour 4 = .ok (.iload_n 1, 1) := by decide +kernel
theorem dX6_colour_5 : decode cX6_colour 5 = .ok (.invokevirtual 94, 3) := by decide +kernel
theorem dX6_colour_8 : decode cX6_colour 8 = .ok (.ifCond .ne 10, 3) := by decide +kernel
theorem dX6_colour_11 : decode cX6_colour 11 = .ok (.aload_n 0, 1) := by decide +kernel
theorem dX6_colour_12 : decode cX6_colour 12 = .ok (.ldc 55, 2) := by decide +kernel
theorem dX6_colour_14 : decode cX6_colour 14 = .ok (.invokevirtual 56, 3) := by decide +kernel
theorem dX6_colour_17 : decode cX6_colour 17 = .ok (.ireturn, 1) := by decide +kernel
theorem dX6_colour_18 : decode cX6_colour 18 = .ok (.aload_n 0, 1) := by decide +kernel
theorem dX6_colour_19 : decode cX6_colour 19 = .ok (.getfield 16, 3) := by decide +kernel
theorem dX6_colour_22 : decode cX6_colour 22 = .ok (.aload_n 0, 1) := by decide +kernel
theorem dX6_colour_23 : decode cX6_colour 23 = .ok (.getfield 12, 3) := by decide +kernel
theorem dX6_colour_26 : decode cX6_colour 26 = .ok (.invokevirtual 150, 3) := by decide +kernel
theorem dX6_colour_29 : decode cX6_colour 29 = .ok (.aload_n 0, 1) := by decide +kernel
theorem dX6_colour_30 : decode cX6_colour 30 = .ok (.getfield 16, 3) := by decide +kernel
theorem dX6_colour_33 : decode cX6_colour 33 = .ok (.getfield 97, 3) := by decide +kernel
theorem dX6_colour_36 : decode cX6_colour 36 = .ok (.iload_n 1, 1) := by decide +kernel
theorem dX6_colour_37 : decode cX6_colour 37 = .ok (.aaload, 1) := by decide +kernel
theorem dX6_colour_38 : decode cX6_colour 38 = .ok (.astore_n 2, 1) := by decide +kernel
theorem dX6_colour_39 : decode cX6_colour 39 = .ok (.ldc 154, 2) := by decide +kernel
theorem dX6_colour_41 : decode cX6_colour 41 = .ok (.istore_n 3, 1) := by decide +kernel
theorem dX6_colour_42 : decode cX6_colour 42 = .ok (.iconst 0, 1) := by decide +kernel
theorem dX6_colour_43 : decode cX6_colour 43 = .ok (.istore 4, 2) := by decide +kernel
theorem dX6_colour_45 : decode cX6_colour 45 = .ok (.iconst 0, 1) := by decide +kernel
theorem dX6_colour_46 : decode cX6_colour 46 = .ok (.istore 5, 2) := by decide +kernel
theorem dX6_colour_48 : decode cX6_colour 48 = .ok (.iload 5, 2) := by decide +kernel
theorem dX6_colour_50 : decode cX6_colour 50 = .ok (.iconst 4, 1) := by decide +kernel
theorem dX6_colour_51 : decode cX6_colour 51 = .ok (.if_icmp .ge 56, 3) := by decide +kernel
theorem dX6_colour_54 : decode cX6_colour 54 = .ok (.aload_n 2, 1) := by decide +kernel
theorem dX6_colour_55 : decode cX6_colour 55 = .ok (.iload 5, 2) := by decide +kernel
theorem dX6_colour_57 : decode cX6_colour 57 = .ok (.putfield 170, 3) := by decide +kernel
theorem dX6_colour_60 : decode cX6_colour 60 = .ok (.aload_n 0, 1) := by decide +kernel
theorem dX6_colour_61 : decode cX6_colour 61 = .ok (.getfield 16, 3) := by decide +kernel
theorem dX6_colour_64 : decode cX6_colour 64 = .ok (.aload_n 2, 1) := by decide +kernel
theorem dX6_colour_65 : decode cX6_colour 65 = .ok (.invokevirtual 173, 3) := by decide +kernel
theorem dX6_colour_68 : decode cX6_colour 68 = .ok (.istore 6, 2) := by decide +kernel
theorem dX6_colour_70 : decode cX6_colour 70 = .ok (.aload_n 0, 1) := by decide +kernel
theorem dX6_colour_71 : decode cX6_colour 71 = .ok (.getfield 16, 3) := by decide +kernel
theorem dX6_colour_74 : decode cX6_colour 74 = .ok (.aload_n 2, 1) := by decide +kernel
theorem dX6_colour_75 : decode cX6_colour 75 = .ok (.invokevirtual 123, 3) := by decide +kernel
theorem dX6_colour_78 : decode cX6_colour 78 = .ok (.ifCond .eq 23, 3) := by decide +kernel
theorem dX6_colour_81 : decode cX6_colour 81 = .ok (.iload_n 3, 1) := by decide +kernel
theorem dX6_colour_82 : decode cX6_colour 82 = .ok (.ldc 154, 2) := by decide +kernel
theorem dX6_colour_84 : decode cX6_colour 84 = .ok (.if_icmp .eq 10, 3) := by decide +kernel
theorem dX6_colour_87 : decode cX6_colour 87 = .ok (.iload 6, 2) := by decide +kernel
theorem dX6_colour_89 : decode cX6_colour 89 = .ok (.iload 4, 2) := by decide +kernel
theorem dX6_colour_91 : decode cX6_colour 91 = .ok (.if_icmp .ge 10, 3) := by decide +kernel
theorem dX6_colour_94 : decode cX6_colour 94 = .ok (.iload 5, 2) := by decide +kernel
theorem dX6_colour_96 : decode cX6_colour 96 = .ok (.istore_n 3, 1) := by decide +kernel
theorem dX6_colour_97 : decode cX6_colour 97 = .ok (.iload 6, 2) := by decide +kernel
theorem dX6_colour_99 : decode cX6_colour 99 = .ok (.istore 4, 2) := by decide +kernel
theorem dX6_colour_101 : decode cX6_colour 101 = .ok (.iinc 5 1, 3) := by decide +kernel
theorem dX6_colour_104 : decode cX6_colour 104 = .ok (.goto (-56), 3) := by decide +kernel
theorem dX6_colour_107 : decode cX6_colour 107 = .ok (.iload_n 3, 1) := by decide +kernel
theorem dX6_colour_108 : decode cX6_colour 108 = .ok (.ldc 154, 2) := by decide +kernel
theorem dX6_colour_110 : decode cX6_colour 110 = .ok (.if_icmp .ne 12, 3) := by decide +kernel
theorem dX6_colour_113 : decode cX6_colour 113 = .ok (.aload_n 0, 1) := by decide +kernel
theorem dX6_colour_114 : decode cX6_colour 114 = .ok (.ldc 154, 2) := by decide +kernel
theorem dX6_colour_116 : decode cX6_colour 116 = .ok (.invokevirtual 56, 3) := by decide +kernel
theorem dX6_colour_119 : decode cX6_colour 119 = .ok (.goto 4, 3) := by decide +kernel
theorem dX6_colour_122 : decode cX6_colour 122 = .ok (.iload_n 3, 1) := by decide +kernel
theorem dX6_colour_123 : decode cX6_colour 123 = .ok (.ireturn, 1) := by decide +kernel
theorem dX6_kindFor_0 : decode cX6_kindFor 0 = .ok (.aload_n 0, 1) := by decide +kernel
theorem dX6_kindFor_1 : decode cX6_kindFor 1 = .ok (.getfield 12, 3) := by decide +kernel
theorem dX6_kindFor_4 : decode cX6_kindFor 4 = .ok (.iload_n 1, 1) := by decide +kernel
theorem dX6_kindFor_5 : decode cX6_kindFor 5 = .ok (.invokevirtual 68, 3) := by decide +kernel
theorem dX6_kindFor_8 : decode cX6_kindFor 8 = .ok (.ifCond .ne 10, 3) := by decide +kernel
theorem dX6_kindFor_11 : decode cX6_kindFor 11 = .ok (.aload_n 0, 1) := by decide +kernel
theorem dX6_kindFor_12 : decode cX6_kindFor 12 = .ok (.ldc 55, 2) := by decide +kernel
theorem dX6_kindFor_14 : decode cX6_kindFor 14 = .ok (.invokevirtual 56, 3) := by decide +kernel
theorem dX6_kindFor_17 : decode cX6_kindFor 17 = .ok (.ireturn, 1) := by decide +kernel
theorem dX6_kindFor_18 : decode cX6_kindFor 18 = .ok (.aload_n 0, 1) := by decide +kernel
theorem dX6_kindFor_19 : decode cX6_kindFor 19 = .ok (.getfield 16, 3) := by decide +kernel
theorem dX6_kindFor_22 : decode cX6_kindFor 22 = .ok (.aload_n 0, 1) := by decide +kernel
theorem dX6_kindFor_23 : decode cX6_kindFor 23 = .ok (.getfield 12, 3) := by decide +kernel
theorem dX6_kindFor_26 : decode cX6_kindFor 26 = .ok (.invokevirtual 150, 3) := by decide +kernel
theorem dX6_kindFor_29 : decode cX6_kindFor 29 = .ok (.iconst 0, 1) := by decide +kernel
theorem dX6_kindFor_30 : decode cX6_kindFor 30 = .ok (.istore_n 2, 1) := by decide +kernel
theorem dX6_kindFor_31 : decode cX6_kindFor 31 = .ok (.iconst (-1), 1) := by decide +kernel
theorem dX6_kindFor_32 : decode cX6_kindFor 32 = .ok (.istore_n 3, 1) := by decide +kernel
theorem dX6_kindFor_33 : decode cX6_kindFor 33 = .ok (.iconst 0, 1) := by decide +kernel
theorem dX6_kindFor_34 : decode cX6_kindFor 34 = .ok (.istore 4, 2) := by decide +kernel
theorem dX6_kindFor_36 : decode cX6_kindFor 36 = .ok (.iload 4, 2) := by decide +kernel
theorem dX6_kindFor_38 : decode cX6_kindFor 38 = .ok (.bipush 7, 2) := by decide +kernel
theorem dX6_kindFor_40 : decode cX6_kindFor 40 = .ok (.if_icmp .ge 44, 3) := by decide +kernel
theorem dX6_kindFor_43 : decode cX6_kindFor 43 = .ok (.aload_n 0, 1) := by decide +kernel
theorem dX6_kindFor_44 : decode cX6_kindFor 44 = .ok (.getfield 16, 3) := by decide +kernel
theorem dX6_kindFor_47 : decode cX6_kindFor 47 = .ok (.getfield 72, 3) := by decide +kernel
theorem dX6_kindFor_50 : decode cX6_kindFor 50 = .ok (.iload_n 1, 1) := by decide +kernel
theorem dX6_kindFor_51 : decode cX6_kindFor 51 = .ok (.aaload, 1) := by decide +kernel
theorem dX6_kindFor_52 : decode cX6_kindFor 52 = .ok (.iload 4, 2) := by decide +kernel
theorem dX6_kindFor_54 : decode cX6_kindFor 54 = .ok (.putfield 176, 3) := by decide +kernel
theorem dX6_kindFor_57 : decode cX6_kindFor 57 = .ok (.aload_n 0, 1) := by decide +kernel
theorem dX6_kindFor_58 : decode cX6_kindFor 58 = .ok (.getfield 16, 3) := by decide +kernel
theorem dX6_kindFor_61 : decode cX6_kindFor 61 = .ok (.invokevirtual 179, 3) := by decide +kernel
theorem dX6_kindFor_64 : decode cX6_kindFor 64 = .ok (.istore 5, 2) := by decide +kernel
theorem dX6_kindFor_66 : decode cX6_kindFor 66 = .ok (.iload 5, 2) := by decide +kernel
theorem dX6_kindFor_68 : decode cX6_kindFor 68 = .ok (.iload_n 3, 1) := by decide +kernel
theorem dX6_kindFor_69 : decode cX6_kindFor 69 = .ok (.if_icmp .le 9, 3) := by decide +kernel
theorem dX6_kindFor_72 : decode cX6_kindFor 72 = .ok (.iload 4, 2) := by decide +kernel
theorem dX6_kindFor_74 : decode cX6_kindFor 74 = .ok (.istore_n 2, 1) := by decide +kernel
theorem dX6_kindFor_75 : decode cX6_kindFor 75 = .ok (.iload 5, 2) := by decide +kernel
theorem dX6_kindFor_77 : decode cX6_kindFor 77 = .ok (.istore_n 3, 1) := by decide +kernel
theorem dX6_kindFor_78 : decode cX6_kindFor 78 = .ok (.iinc 4 1, 3) := by decide +kernel
theorem dX6_kindFor_81 : decode cX6_kindFor 81 = .ok (.goto (-45), 3) := by decide +kernel
theorem dX6_kindFor_84 : decode cX6_kindFor 84 = .ok (.iload_n 2, 1) := by decide +kernel
theorem dX6_kindFor_85 : decode cX6_kindFor 85 = .ok (.ireturn, 1) := by decide +kernel
theorem dX6_quorum_0 : decode cX6_quorum 0 = .ok (.aload_n 0, 1) := by decide +kernel
theorem dX6_quorum_1 : decode cX6_quorum 1 = .ok (.getfield 12, 3) := by decide +kernel
theorem dX6_quorum_4 : decode cX6_quorum 4 = .ok (.iload_n 1, 1) := by decide +kernel
theorem dX6_quorum_5 : decode cX6_quorum 5 = .ok (.invokevirtual 94, 3) := by decide +kernel
theorem dX6_quorum_8 : decode cX6_quorum 8 = .ok (.ifCond .ne 10, 3) := by decide +kernel
theorem dX6_quorum_11 : decode cX6_quorum 11 = .ok (.aload_n 0, 1) := by decide +kernel
theorem dX6_quorum_12 : decode cX6_quorum 12 = .ok (.ldc 55, 2) := by decide +kernel
theorem dX6_quorum_14 : decode cX6_quorum 14 = .ok (.invokevirtual 56, 3) := by decide +kernel
theorem dX6_quorum_17 : decode cX6_quorum 17 = .ok (.ireturn, 1) := by decide +kernel
theorem dX6_quorum_18 : decode cX6_quorum 18 = .ok (.aload_n 0, 1) := by decide +kernel
theorem dX6_quorum_19 : decode cX6_quorum 19 = .ok (.getfield 12, 3) := by decide +kernel
theorem dX6_quorum_22 : decode cX6_quorum 22 = .ok (.getfield 97, 3) := by decide +kernel
theorem dX6_quorum_25 : decode cX6_quorum 25 = .ok (.iload_n 1, 1) := by decide +kernel
theorem dX6_quorum_26 : decode cX6_quorum 26 = .ok (.aaload, 1) := by decide +kernel
theorem dX6_quorum_27 : decode cX6_quorum 27 = .ok (.astore_n 2, 1) := by decide +kernel
theorem dX6_quorum_28 : decode cX6_quorum 28 = .ok (.aload_n 0, 1) := by decide +kernel
theorem dX6_quorum_29 : decode cX6_quorum 29 = .ok (.getfield 12, 3) := by decide +kernel
theorem dX6_quorum_32 : decode cX6_quorum 32 = .ok (.aload_n 2, 1) := by decide +kernel
theorem dX6_quorum_33 : decode cX6_quorum 33 = .ok (.invokevirtual 116, 3) := by decide +kernel
theorem dX6_quorum_36 : decode cX6_quorum 36 = .ok (.aload_n 0, 1) := by decide +kernel
theorem dX6_quorum_37 : decode cX6_quorum 37 = .ok (.getfield 12, 3) := by decide +kernel
theorem dX6_quorum_40 : decode cX6_quorum 40 = .ok (.aload_n 2, 1) := by decide +kernel
theorem dX6_quorum_41 : decode cX6_quorum 41 = .ok (.invokevirtual 120, 3) := by decide +kernel
theorem dX6_quorum_44 : decode cX6_quorum 44 = .ok (.if_icmp .gt 10, 3) := by decide +kernel
theorem dX6_quorum_47 : decode cX6_quorum 47 = .ok (.aload_n 0, 1) := by decide +kernel
theorem dX6_quorum_48 : decode cX6_quorum 48 = .ok (.ldc 154, 2) := by decide +kernel
theorem dX6_quorum_50 : decode cX6_quorum 50 = .ok (.invokevirtual 56, 3) := by decide +kernel
theorem dX6_quorum_53 : decode cX6_quorum 53 = .ok (.ireturn, 1) := by decide +kernel
theorem dX6_quorum_54 : decode cX6_quorum 54 = .ok (.bipush 99, 2) := by decide +kernel
theorem dX6_quorum_56 : decode cX6_quorum 56 = .ok (.aload_n 0, 1) := by decide +kernel
theorem dX6_quorum_57 : decode cX6_quorum 57 = .ok (.getfield 12, 3) := by decide +kernel
theorem dX6_quorum_60 : decode cX6_quorum 60 = .ok (.aload_n 2, 1) := by decide +kernel
theorem dX6_quorum_61 : decode cX6_quorum 61 = .ok (.invokevirtual 173, 3) := by decide +kernel
theorem dX6_quorum_64 : decode cX6_quorum 64 = .ok (.invokestatic 182, 3) := by decide +kernel
theorem dX6_quorum_67 : decode cX6_quorum 67 = .ok (.ireturn, 1) := by decide +kernel
theorem dX6_agenda_0 : decode cX6_agenda 0 = .ok (.aload_n 0, 1) := by decide +kernel
theorem dX6_agenda_1 : decode cX6_agenda 1 = .ok (.iload_n 1, 1) := by decide +kernel
theorem dX6_agenda_2 : decode cX6_agenda 2 = .ok (.invokevirtual 187, 3) := by decide +kernel
theorem dX6_agenda_5 : decode cX6_agenda 5 = .ok (.ifCond .ne 10, 3) := by decide +kernel
theorem dX6_agenda_8 : decode cX6_agenda 8 = .ok (.aload_n 0, 1) := by decide +kernel
theorem dX6_agenda_9 : decode cX6_agenda 9 = .ok (.ldc 55, 2) := by decide +kernel
theorem dX6_agenda_11 : decode cX6_agenda 11 = .ok (.invokevirtual 56, 3) := by decide +kernel
theorem dX6_agenda_14 : decode cX6_agenda 14 = .ok (.ireturn, 1) := by decide +kernel
theorem dX6_agenda_15 : decode cX6_agenda 15 = .ok (.aload_n 0, 1) := by decide +kernel
theorem dX6_agenda_16 : decode cX6_agenda 16 = .ok (.getfield 42, 3) := by decide +kernel
theorem dX6_agenda_19 : decode cX6_agenda 19 = .ok (.aload_n 0, 1) := by decide +kernel
theorem dX6_agenda_20 : decode cX6_agenda 20 = .ok (.getfield 12, 3) := by decide +kernel
theorem dX6_agenda_23 : decode cX6_agenda 23 = .ok (.aload_n 0, 1) := by decide +kernel
theorem dX6_agenda_24 : decode cX6_agenda 24 = .ok (.getfield 16, 3) := by decide +kernel
theorem dX6_agenda_27 : decode cX6_agenda 27 = .ok (.iload_n 1, 1) := by decide +kernel
theorem dX6_agenda_28 : decode cX6_agenda 28 = .ok (.invokevirtual 190, 3) := by decide +kernel
theorem dX6_agenda_31 : decode cX6_agenda 31 = .ok (.aload_n 0, 1) := by decide +kernel
theorem dX6_agenda_32 : decode cX6_agenda 32 = .ok (.getfield 42, 3) := by decide +kernel
theorem dX6_agenda_35 : decode cX6_agenda 35 = .ok (.getfield 194, 3) := by decide +kernel
theorem dX6_agenda_38 : decode cX6_agenda 38 = .ok (.ireturn, 1) := by decide +kernel
theorem dX6_ith_0 : decode cX6_ith 0 = .ok (.aload_n 0, 1) := by decide +kernel
theorem dX6_ith_1 : decode cX6_ith 1 = .ok (.iload_n 1, 1) := by decide +kernel
theorem dX6_ith_2 : decode cX6_ith 2 = .ok (.invokevirtual 187, 3) := by decide +kernel
theorem dX6_ith_5 : decode cX6_ith 5 = .ok (.ifCond .eq 16, 3) := by decide +kernel
theorem dX6_ith_8 : decode cX6_ith 8 = .ok (.iload_n 2, 1) := by decide +kernel
theorem dX6_ith_9 : decode cX6_ith 9 = .ok (.iload_n 1, 1) := by decide +kernel
theorem dX6_ith_10 : decode cX6_ith 10 = .ok (.invokestatic 165, 3) := by decide +kernel
theorem dX6_ith_13 : decode cX6_ith 13 = .ok (.iconst 1, 1) := by decide +kernel
theorem dX6_ith_14 : decode cX6_ith 14 = .ok (.isub, 1) := by decide +kernel
theorem dX6_ith_15 : decode cX6_ith 15 = .ok (.invokestatic 51, 3) := by decide +kernel
theorem dX6_ith_18 : decode cX6_ith 18 = .ok (.ifCond .ne 10, 3) := by decide +kernel
theorem dX6_ith_21 : decode cX6_ith 21 = .ok (.aload_n 0, 1) := by decide +kernel
theorem dX6_ith_22 : decode cX6_ith 22 = .ok (.ldc 55, 2) := by decide +kernel
theorem dX6_ith_24 : decode cX6_ith 24 = .ok (.invokevirtual 56, 3) := by decide +kernel
theorem dX6_ith_27 : decode cX6_ith 27 = .ok (.ireturn, 1) := by decide +kernel
theorem dX6_ith_28 : decode cX6_ith 28 = .ok (.aload_n 0, 1) := by decide +kernel
theorem dX6_ith_29 : decode cX6_ith 29 = .ok (.getfield 42, 3) := by decide +kernel
theorem dX6_ith_32 : decode cX6_ith 32 = .ok (.aload_n 0, 1) := by decide +kernel
theorem dX6_ith_33 : decode cX6_ith 33 = .ok (.getfield 12, 3) := by decide +kernel
theorem dX6_ith_36 : decode cX6_ith 36 = .ok (.aload_n 0, 1) := by decide +kernel
theorem dX6_ith_37 : decode cX6_ith 37 = .ok (.getfield 16, 3) := by decide +kernel
theorem dX6_ith_40 : decode cX6_ith 40 = .ok (.iload_n 1, 1) := by decide +kernel
theorem dX6_ith_41 : decode cX6_ith 41 = .ok (.invokevirtual 190, 3) := by decide +kernel
theorem dX6_ith_44 : decode cX6_ith 44 = .ok (.aload_n 0, 1) := by decide +kernel
theorem dX6_ith_45 : decode cX6_ith 45 = .ok (.getfield 42, 3) := by decide +kernel
theorem dX6_ith_48 : decode cX6_ith 48 = .ok (.getfield 197, 3) := by decide +kernel
theorem dX6_ith_51 : decode cX6_ith 51 = .ok (.iload_n 2, 1) := by decide +kernel
theorem dX6_ith_52 : decode cX6_ith 52 = .ok (.iaload, 1) := by decide +kernel
theorem dX6_ith_53 : decode cX6_ith 53 = .ok (.ireturn, 1) := by decide +kernel
theorem dX6_ways_0 : decode cX6_ways 0 = .ok (.aload_n 0, 1) := by decide +kernel
theorem dX6_ways_1 : decode cX6_ways 1 = .ok (.iload_n 1, 1) := by decide +kernel
theorem dX6_ways_2 : decode cX6_ways 2 = .ok (.invokevirtual 187, 3) := by decide +kernel
theorem dX6_ways_5 : decode cX6_ways 5 = .ok (.ifCond .ne 10, 3) := by decide +kernel
theorem dX6_ways_8 : decode cX6_ways 8 = .ok (.aload_n 0, 1) := by decide +kernel
theorem dX6_ways_9 : decode cX6_ways 9 = .ok (.ldc 55, 2) := by decide +kernel
theorem dX6_ways_11 : decode cX6_ways 11 = .ok (.invokevirtual 56, 3) := by decide +kernel
theorem dX6_ways_14 : decode cX6_ways 14 = .ok (.ireturn, 1) := by decide +kernel
theorem dX6_ways_15 : decode cX6_ways 15 = .ok (.aload_n 0, 1) := by decide +kernel
theorem dX6_ways_16 : decode cX6_ways 16 = .ok (.getfield 42, 3) := by decide +kernel
theorem dX6_ways_19 : decode cX6_ways 19 = .ok (.aload_n 0, 1) := by decide +kernel
theorem dX6_ways_20 : decode cX6_ways 20 = .ok (.getfield 12, 3) := by decide +kernel
theorem dX6_ways_23 : decode cX6_ways 23 = .ok (.aload_n 0, 1) := by decide +kernel
theorem dX6_ways_24 : decode cX6_ways 24 = .ok (.getfield 16, 3) := by decide +kernel
theorem dX6_ways_27 : decode cX6_ways 27 = .ok (.iload_n 1, 1) := by decide +kernel
theorem dX6_ways_28 : decode cX6_ways 28 = .ok (.invokevirtual 190, 3) := by decide +kernel
theorem dX6_ways_31 : decode cX6_ways 31 = .ok (.aload_n 0, 1) := by decide +kernel
theorem dX6_ways_32 : decode cX6_ways 32 = .ok (.getfield 42, 3) := by decide +kernel
theorem dX6_ways_35 : decode cX6_ways 35 = .ok (.getfield 200, 3) := by decide +kernel
theorem dX6_ways_38 : decode cX6_ways 38 = .ok (.ireturn, 1) := by decide +kernel
theorem dX6_left_0 : decode cX6_left 0 = .ok (.aload_n 0, 1) := by decide +kernel
theorem dX6_left_1 : decode cX6_left 1 = .ok (.iload_n 1, 1) := by decide +kernel
theorem dX6_left_2 : decode cX6_left 2 = .ok (.invokevirtual 187, 3) := by decide +kernel
theorem dX6_left_5 : decode cX6_left 5 = .ok (.ifCond .ne 10, 3) := by decide +kernel
theorem dX6_left_8 : decode cX6_left 8 = .ok (.aload_n 0, 1) := by decide +kernel
theorem dX6_left_9 : decode cX6_left 9 = .ok (.ldc 55, 2) := by decide +kernel
theorem dX6_left_11 : decode cX6_left 11 = .ok (.invokevirtual 56, 3) := by decide +kernel
theorem dX6_left_14 : decode cX6_left 14 = .ok (.ireturn, 1) := by decide +kernel
theorem dX6_left_15 : decode cX6_left 15 = .ok (.aload_n 0, 1) := by decide +kernel
theorem dX6_left_16 : decode cX6_left 16 = .ok (.getfield 42, 3) := by decide +kernel
theorem dX6_left_19 : decode cX6_left 19 = .ok (.aload_n 0, 1) := by decide +kernel
theorem dX6_left_20 : decode cX6_left 20 = .ok (.getfield 12, 3) := by decide +kernel
theorem dX6_left_23 : decode cX6_left 23 = .ok (.aload_n 0, 1) := by decide +kernel
theorem dX6_left_24 : decode cX6_left 24 = .ok (.getfield 16, 3) := by decide +kernel
theorem dX6_left_27 : decode cX6_left 27 = .ok (.iload_n 1, 1) := by decide +kernel
theorem dX6_left_28 : decode cX6_left 28 = .ok (.invokevirtual 190, 3) := by decide +kernel
theorem dX6_left_31 : decode cX6_left 31 = .ok (.aload_n 0, 1) := by decide +kernel
theorem dX6_left_32 : decode cX6_left 32 = .ok (.getfield 42, 3) := by decide +kernel
theorem dX6_left_35 : decode cX6_left 35 = .ok (.getfield 203, 3) := by decide +kernel
theorem dX6_left_38 : decode cX6_left 38 = .ok (.ireturn, 1) := by decide +kernel
theorem dX6_wind_0 : decode cX6_wind 0 = .ok (.aload_n 0, 1) := by decide +kernel
theorem dX6_wind_1 : decode cX6_wind 1 = .ok (.getfield 12, 3) := by decide +kernel
theorem dX6_wind_4 : decode cX6_wind 4 = .ok (.iload_n 1, 1) := by decide +kernel
theorem dX6_wind_5 : decode cX6_wind 5 = .ok (.invokevirtual 94, 3) := by decide +kernel
theorem dX6_wind_8 : decode cX6_wind 8 = .ok (.ifCond .eq 20, 3) := by decide +kernel
theorem dX6_wind_11 : decode cX6_wind 11 = .ok (.iload_n 2, 1) := by decide +kernel
theorem dX6_wind_12 : decode cX6_wind 12 = .ok (.bipush 10, 2) := by decide +kernel
theorem dX6_wind_14 : decode cX6_wind 14 = .ok (.invokestatic 51, 3) := by decide +kernel
theorem dX6_wind_17 : decode cX6_wind 17 = .ok (.ifCond .eq 11, 3) := by decide +kernel
theorem dX6_wind_20 : decode cX6_wind 20 = .ok (.iload_n 3, 1) := by decide +kernel
theorem dX6_wind_21 : decode cX6_wind 21 = .ok (.iconst 1, 1) := by decide +kernel
theorem dX6_wind_22 : decode cX6_wind 22 = .ok (.invokestatic 51, 3) := by decide +kernel
theorem dX6_wind_25 : decode cX6_wind 25 = .ok (.ifCond .ne 11, 3) := by decide +kernel
theorem dX6_wind_28 : decode cX6_wind 28 = .ok (.aload_n 0, 1) := by decide +kernel
theorem dX6_wind_29 : decode cX6_wind 29 = .ok (.ldc 55, 2) := by decide +kernel
theorem dX6_wind_31 : decode cX6_wind 31 = .ok (.invokevirtual 56, 3) := by decide +kernel
theorem dX6_wind_34 : decode cX6_wind 34 = .ok (.i2l, 1) := by decide +kernel
theorem dX6_wind_35 : decode cX6_wind 35 = .ok (.lreturn, 1) := by decide +kernel
theorem dX6_wind_36 : decode cX6_wind 36 = .ok (.aload_n 0, 1) := by decide +kernel
theorem dX6_wind_37 : decode cX6_wind 37 = .ok (.getfield 12, 3) := by decide +kernel
theorem dX6_wind_40 : decode cX6_wind 40 = .ok (.aload_n 0, 1) := by decide +kernel
theorem dX6_wind_41 : decode cX6_wind 41 = .ok (.getfield 12, 3) := by decide +kernel
theorem dX6_wind_44 : decode cX6_wind 44 = .ok (.getfield 97, 3) := by decide +kernel
theorem dX6_wind_47 : decode cX6_wind 47 = .ok (.iload_n 1, 1) := by decide +kernel
theorem dX6_wind_48 : decode cX6_wind 48 = .ok (.aaload, 1) := by decide +kernel
theorem dX6_wind_49 : decode cX6_wind 49 = .ok (.invokevirtual 173, 3) := by decide +kernel
theorem dX6_wind_52 : decode cX6_wind 52 = .ok (.istore 4, 2) := by decide +kernel
theorem dX6_wind_54 : decode cX6_wind 54 = .ok (.iload 4, 2) := by decide +kernel
theorem dX6_wind_56 : decode cX6_wind 56 = .ok (.bipush 15, 2) := by decide +kernel
theorem dX6_wind_58 : decode cX6_wind 58 = .ok (.if_icmp .le 11, 3) := by decide +kernel
theorem dX6_wind_61 : decode cX6_wind 61 = .ok (.aload_n 0, 1) := by decide +kernel
theorem dX6_wind_62 : decode cX6_wind 62 = .ok (.ldc 206, 2) := by decide +kernel
theorem dX6_wind_64 : decode cX6_wind 64 = .ok (.invokevirtual 56, 3) := by decide +kernel
theorem dX6_wind_67 : decode cX6_wind 67 = .ok (.i2l, 1) := by decide +kernel
theorem dX6_wind_68 : decode cX6_wind 68 = .ok (.lreturn, 1) := by decide +kernel
theorem dX6_wind_69 : decode cX6_wind 69 = .ok (.bipush 10, 2) := by decide +kernel
theorem dX6_wind_71 : decode cX6_wind 71 = .ok (.iload_n 2, 1) := by decide +kernel
theorem dX6_wind_72 : decode cX6_wind 72 = .ok (.isub, 1) := by decide +kernel
theorem dX6_wind_73 : decode cX6_wind 73 = .ok (.bipush 10, 2) := by decide +kernel
theorem dX6_wind_75 : decode cX6_wind 75 = .ok (.invokestatic 207, 3) := by decide +kernel
theorem dX6_wind_78 : decode cX6_wind 78 = .ok (.istore 5, 2) := by decide +kernel
theorem dX6_wind_80 : decode cX6_wind 80 = .ok (.iload_n 3, 1) := by decide +kernel
theorem dX6_wind_81 : decode cX6_wind 81 = .ok (.ifCond .ne 10, 3) := by decide +kernel
theorem dX6_wind_84 : decode cX6_wind 84 = .ok (.bipush 10, 2) := by decide +kernel
theorem dX6_wind_86 : decode cX6_wind 86 = .ok (.iload_n 2, 1) := by decide +kernel
theorem dX6_wind_87 : decode cX6_wind 87 = .ok (.isub, 1) := by decide +kernel
theorem dX6_wind_88 : decode cX6_wind 88 = .ok (.goto 5, 3) := by decide +kernel
theorem dX6_wind_91 : decode cX6_wind 91 = .ok (.bipush 10, 2) := by decide +kernel
theorem dX6_wind_93 : decode cX6_wind 93 = .ok (.istore 6, 2) := by decide +kernel
theorem dX6_wind_95 : decode cX6_wind 95 = .ok (.iload 6, 2) := by decide +kernel
theorem dX6_wind_97 : decode cX6_wind 97 = .ok (.iload 5, 2) := by decide +kernel
theorem dX6_wind_99 : decode cX6_wind 99 = .ok (.idiv, 1) := by decide +kernel
theorem dX6_wind_100 : decode cX6_wind 100 = .ok (.iload 4, 2) := by decide +kernel
theorem dX6_wind_102 : decode cX6_wind 102 = .ok (.invokestatic 210, 3) := by decide +kernel
theorem dX6_wind_105 : decode cX6_wind 105 = .ok (.lreturn, 1) := by decide +kernel
theorem dX6_fits_0 : decode cX6_fits 0 = .ok (.iload_n 1, 1) := by decide +kernel
theorem dX6_fits_1 : decode cX6_fits 1 = .ok (.iconst 3, 1) := by decide +kernel
theorem dX6_fits_2 : decode cX6_fits 2 = .ok (.invokestatic 51, 3) := by decide +kernel
theorem dX6_fits_5 : decode cX6_fits 5 = .ok (.ifCond .ne 10, 3) := by decide +kernel
theorem dX6_fits_8 : decode cX6_fits 8 = .ok (.aload_n 0, 1) := by decide +kernel
theorem dX6_fits_9 : decode cX6_fits 9 = .ok (.ldc 55, 2) := by decide +kernel
theorem dX6_fits_11 : decode cX6_fits 11 = .ok (.invokevirtual 56, 3) := by decide +kernel
theorem dX6_fits_14 : decode cX6_fits 14 = .ok (.ireturn, 1) := by decide +kernel
theorem dX6_fits_15 : decode cX6_fits 15 = .ok (.aload_n 0, 1) := by decide +kernel
theorem dX6_fits_16 : decode cX6_fits 16 = .ok (.getfield 35, 3) := by decide +kernel
theorem dX6_fits_19 : decode cX6_fits 19 = .ok (.iload_n 1, 1) := by decide +kernel
theorem dX6_fits_20 : decode cX6_fits 20 = .ok (.aaload, 1) := by decide +kernel
theorem dX6_fits_21 : decode cX6_fits 21 = .ok (.astore_n 2, 1) := by decide +kernel
theorem dX6_fits_22 : decode cX6_fits 22 = .ok (.aload_n 2, 1) := by decide +kernel
theorem dX6_fits_23 : decode cX6_fits 23 = .ok (.invokevirtual 214, 3) := by decide +kernel
theorem dX6_fits_26 : decode cX6_fits 26 = .ok (.ifCond .eq 10, 3) := by decide +kernel
theorem dX6_fits_29 : decode cX6_fits 29 = .ok (.aload_n 0, 1) := by decide +kernel
theorem dX6_fits_30 : decode cX6_fits 30 = .ok (.ldc 217, 2) := by decide +kernel
theorem dX6_fits_32 : decode cX6_fits 32 = .ok (.invokevirtual 56, 3) := by decide +kernel
theorem dX6_fits_35 : decode cX6_fits 35 = .ok (.ireturn, 1) := by decide +kernel
theorem dX6_fits_36 : decode cX6_fits 36 = .ok (.iconst 0, 1) := by decide +kernel
theorem dX6_fits_37 : decode cX6_fits 37 = .ok (.istore_n 3, 1) := by decide +kernel
theorem dX6_fits_38 : decode cX6_fits 38 = .ok (.iconst 0, 1) := by decide +kernel
theorem dX6_fits_39 : decode cX6_fits 39 = .ok (.istore 4, 2) := by decide +kernel
theorem dX6_fits_41 : decode cX6_fits 41 = .ok (.iload 4, 2) := by decide +kernel
theorem dX6_fits_43 : decode cX6_fits 43 = .ok (.aload_n 0, 1) := by decide +kernel
theorem dX6_fits_44 : decode cX6_fits 44 = .ok (.getfield 12, 3) := by decide +kernel
theorem dX6_fits_47 : decode cX6_fits 47 = .ok (.getfield 88, 3) := by decide +kernel
theorem dX6_fits_50 : decode cX6_fits 50 = .ok (.if_icmp .ge 62, 3) := by decide +kernel
theorem dX6_fits_53 : decode cX6_fits 53 = .ok (.aload_n 0, 1) := by decide +kernel
theorem dX6_fits_54 : decode cX6_fits 54 = .ok (.getfield 12, 3) := by decide +kernel
theorem dX6_fits_57 : decode cX6_fits 57 = .ok (.getfield 97, 3) := by decide +kernel
theorem dX6_fits_60 : decode cX6_fits 60 = .ok (.iload 4, 2) := by decide +kernel
theorem dX6_fits_62 : decode cX6_fits 62 = .ok (.aaload, 1) := by decide +kernel
theorem dX6_fits_63 : decode cX6_fits 63 = .ok (.astore 5, 2) := by decide +kernel
theorem dX6_fits_65 : decode cX6_fits 65 = .ok (.aload_n 2, 1) := by decide +kernel
theorem dX6_fits_66 : decode cX6_fits 66 = .ok (.iconst 0, 1) := by decide +kernel
theorem dX6_fits_67 : decode cX6_fits 67 = .ok (.aload_n 0, 1) := by decide +kernel
theorem dX6_fits_68 : decode cX6_fits 68 = .ok (.getfield 12, 3) := by decide +kernel
theorem dX6_fits_71 : decode cX6_fits 71 = .ok (.aload 5, 2) := by decide +kernel
theorem dX6_fits_73 : decode cX6_fits 73 = .ok (.invokevirtual 116, 3) := by decide +kernel
theorem dX6_fits_76 : decode cX6_fits 76 = .ok (.invokevirtual 218, 3) := by decide +kernel
theorem dX6_fits_79 : decode cX6_fits 79 = .ok (.ifCond .eq 27, 3) := by decide +kernel
theorem dX6_fits_82 : decode cX6_fits 82 = .ok (.aload_n 2, 1) := by decide +kernel
theorem dX6_fits_83 : decode cX6_fits 83 = .ok (.iconst 1, 1) := by decide +kernel
theorem dX6_fits_84 : decode cX6_fits 84 = .ok (.aload_n 0, 1) := by decide +kernel
theorem dX6_fits_85 : decode cX6_fits 85 = .ok (.getfield 12, 3) := by decide +kernel
theorem dX6_fits_88 : decode cX6_fits 88 = .ok (.aload 5, 2) := by decide +kernel
theorem dX6_fits_90 : decode cX6_fits 90 = .ok (.invokevirtual 120, 3) := by decide +kernel
theorem dX6_fits_93 : decode cX6_fits 93 = .ok (.invokevirtual 218, 3) := by decide +kernel
theorem dX6_fits_96 : decode cX6_fits 96 = .ok (.ifCond .eq 10, 3) := by decide +kernel
theorem dX6_fits_99 : decode cX6_fits 99 = .ok (.iload_n 3, 1) := by decide +kernel
theorem dX6_fits_100 : decode cX6_fits 100 = .ok (.iconst 1, 1) := by decide +kernel
theorem dX6_fits_101 : decode cX6_fits 101 = .ok (.iload 4, 2) := by decide +kernel
theorem dX6_fits_103 : decode cX6_fits 103 = .ok (.ishl, 1) := by decide +kernel
theorem dX6_fits_104 : decode cX6_fits 104 = .ok (.ior, 1) := by decide +kernel
theorem dX6_fits_105 : decode cX6_fits 105 = .ok (.istore_n 3, 1) := by decide +kernel
theorem dX6_fits_106 : decode cX6_fits 106 = .ok (.iinc 4 1, 3) := by decide +kernel
theorem dX6_fits_109 : decode cX6_fits 109 = .ok (.goto (-68), 3) := by decide +kernel
theorem dX6_fits_112 : decode cX6_fits 112 = .ok (.iload_n 3, 1) := by decide +kernel
theorem dX6_fits_113 : decode cX6_fits 113 = .ok (.ireturn, 1) := by decide +kernel
theorem dX6_stolen_0 : decode cX6_stolen 0 = .ok (.iload_n 1, 1) := by decide +kernel
theorem dX6_stolen_1 : decode cX6_stolen 1 = .ok (.iconst 3, 1) := by decide +kernel
theorem dX6_stolen_2 : decode cX6_stolen 2 = .ok (.invokestatic 51, 3) := by decide +kernel
theorem dX6_stolen_5 : decode cX6_stolen 5 = .ok (.ifCond .ne 10, 3) := by decide +kernel
theorem dX6_stolen_8 : decode cX6_stolen 8 = .ok (.aload_n 0, 1) := by decide +kernel
theorem dX6_stolen_9 : decode cX6_stolen 9 = .ok (.ldc 55, 2) := by decide +kernel
theorem dX6_stolen_11 : decode cX6_stolen 11 = .ok (.invokevirtual 56, 3) := by decide +kernel
theorem dX6_stolen_14 : decode cX6_stolen 14 = .ok (.ireturn, 1) := by decide +kernel
theorem dX6_stolen_15 : decode cX6_stolen 15 = .ok (.aload_n 0, 1) := by decide +kernel
theorem dX6_stolen_16 : decode cX6_stolen 16 = .ok (.getfield 35, 3) := by decide +kernel
theorem dX6_stolen_19 : decode cX6_stolen 19 = .ok (.iload_n 1, 1) := by decide +kernel
theorem dX6_stolen_20 : decode cX6_stolen 20 = .ok (.aaload, 1) := by decide +kernel
theorem dX6_stolen_21 : decode cX6_stolen 21 = .ok (.invokevirtual 214, 3) := by decide +kernel
theorem dX6_stolen_24 : decode cX6_stolen 24 = .ok (.ifCond .eq 10, 3) := by decide +kernel
theorem dX6_stolen_27 : decode cX6_stolen 27 = .ok (.aload_n 0, 1) := by decide +kernel
theorem dX6_stolen_28 : decode cX6_stolen 28 = .ok (.ldc 217, 2) := by decide +kernel
theorem dX6_stolen_30 : decode cX6_stolen 30 = .ok (.invokevirtual 56, 3) := by decide +kernel
theorem dX6_stolen_33 : decode cX6_stolen 33 = .ok (.ireturn, 1) := by decide +kernel
theorem dX6_stolen_34 : decode cX6_stolen 34 = .ok (.iload_n 2, 1) := by decide +kernel
theorem dX6_stolen_35 : decode cX6_stolen 35 = .ok (.bipush 9, 2) := by decide +kernel
theorem dX6_stolen_37 : decode cX6_stolen 37 = .ok (.invokestatic 51, 3) := by decide +kernel
theorem dX6_stolen_40 : decode cX6_stolen 40 = .ok (.ifCond .ne 10, 3) := by decide +kernel
theorem dX6_stolen_43 : decode cX6_stolen 43 = .ok (.aload_n 0, 1) := by decide +kernel
theorem dX6_stolen_44 : decode cX6_stolen 44 = .ok (.ldc 55, 2) := by decide +kernel
theorem dX6_stolen_46 : decode cX6_stolen 46 = .ok (.invokevirtual 56, 3) := by decide +kernel
theorem dX6_stolen_49 : decode cX6_stolen 49 = .ok (.ireturn, 1) := by decide +kernel
theorem dX6_stolen_50 : decode cX6_stolen 50 = .ok (.iconst 0, 1) := by decide +kernel
theorem dX6_stolen_51 : decode cX6_stolen 51 = .ok (.istore_n 3, 1) := by decide +kernel
theorem dX6_stolen_52 : decode cX6_stolen 52 = .ok (.iconst 0, 1) := by decide +kernel
theorem dX6_stolen_53 : decode cX6_stolen 53 = .ok (.istore 4, 2) := by decide +kernel
theorem dX6_stolen_55 : decode cX6_stolen 55 = .ok (.iload 4, 2) := by decide +kernel
theorem dX6_stolen_57 : decode cX6_stolen 57 = .ok (.aload_n 0, 1) := by decide +kernel
theorem dX6_stolen_58 : decode cX6_stolen 58 = .ok (.getfield 12, 3) := by decide +kernel
theorem dX6_stolen_61 : decode cX6_stolen 61 = .ok (.getfield 60, 3) := by decide +kernel
theorem dX6_stolen_64 : decode cX6_stolen 64 = .ok (.if_icmp .ge 39, 3) := by decide +kernel
theorem dX6_stolen_67 : decode cX6_stolen 67 = .ok (.aload_n 0, 1) := by decide +kernel
theorem dX6_stolen_68 : decode cX6_stolen 68 = .ok (.getfield 12, 3) := by decide +kernel
theorem dX6_stolen_71 : decode cX6_stolen 71 = .ok (.getfield 72, 3) := by decide +kernel
theorem dX6_stolen_74 : decode cX6_stolen 74 = .ok (.iload 4, 2) := by decide +kernel
theorem dX6_stolen_76 : decode cX6_stolen 76 = .ok (.aaload, 1) := by decide +kernel
theorem dX6_stolen_77 : decode cX6_stolen 77 = .ok (.iload_n 2, 1) := by decide +kernel
theorem dX6_stolen_78 : decode cX6_stolen 78 = .ok (.aload_n 0, 1) := by decide +kernel
theorem dX6_stolen_79 : decode cX6_stolen 79 = .ok (.getfield 35, 3) := by decide +kernel
theorem dX6_stolen_82 : decode cX6_stolen 82 = .ok (.iload_n 1, 1) := by decide +kernel
theorem dX6_stolen_83 : decode cX6_stolen 83 = .ok (.aaload, 1) := by decide +kernel
theorem dX6_stolen_84 : decode cX6_stolen 84 = .ok (.invokestatic 221, 3) := by decide +kernel
theorem dX6_stolen_87 : decode cX6_stolen 87 = .ok (.ifCond .eq 10, 3) := by decide +kernel
theorem dX6_stolen_90 : decode cX6_stolen 90 = .ok (.iload_n 3, 1) := by decide +kernel
theorem dX6_stolen_91 : decode cX6_stolen 91 = .ok (.iconst 1, 1) := by decide +kernel
theorem dX6_stolen_92 : decode cX6_stolen 92 = .ok (.iload 4, 2) := by decide +kernel
theorem dX6_stolen_94 : decode cX6_stolen 94 = .ok (.ishl, 1) := by decide +kernel
theorem dX6_stolen_95 : decode cX6_stolen 95 = .ok (.ior, 1) := by decide +kernel
theorem dX6_stolen_96 : decode cX6_stolen 96 = .ok (.istore_n 3, 1) := by decide +kernel
theorem dX6_stolen_97 : decode cX6_stolen 97 = .ok (.iinc 4 1, 3) := by decide +kernel
theorem dX6_stolen_100 : decode cX6_stolen 100 = .ok (.goto (-45), 3) := by decide +kernel
theorem dX6_stolen_103 : decode cX6_stolen 103 = .ok (.iload_n 3, 1) := by decide +kernel
theorem dX6_stolen_104 : decode cX6_stolen 104 = .ok (.ireturn, 1) := by decide +kernel
theorem dX6_years_0 : decode cX6_years 0 = .ok (.iload_n 1, 1) := by decide +kernel
theorem dX6_years_1 : decode cX6_years 1 = .ok (.iconst 1, 1) := by decide +kernel
theorem dX6_years_2 : decode cX6_years 2 = .ok (.if_icmp .lt 9, 3) := by decide +kernel
theorem dX6_years_5 : decode cX6_years 5 = .ok (.iload_n 1, 1) := by decide +kernel
theorem dX6_years_6 : decode cX6_years 6 = .ok (.bipush 20, 2) := by decide +kernel
theorem dX6_years_8 : decode cX6_years 8 = .ok (.if_icmp .le 10, 3) := by decide +kernel
theorem dX6_years_11 : decode cX6_years 11 = .ok (.aload_n 0, 1) := by decide +kernel
theorem dX6_years_12 : decode cX6_years 12 = .ok (.ldc 55, 2) := by decide +kernel
theorem dX6_years_14 : decode cX6_years 14 = .ok (.invokevirtual 56, 3) := by decide +kernel
theorem dX6_years_17 : decode cX6_years 17 = .ok (.ireturn, 1) := by decide +kernel
theorem dX6_years_18 : decode cX6_years 18 = .ok (.aload_n 0, 1) := by decide +kernel
theorem dX6_years_19 : decode cX6_years 19 = .ok (.getfield 12, 3) := by decide +kernel
theorem dX6_years_22 : decode cX6_years 22 = .ok (.getfield 130, 3) := by decide +kernel
theorem dX6_years_25 : decode cX6_years 25 = .ok (.iload_n 1, 1) := by decide +kernel
theorem dX6_years_26 : decode cX6_years 26 = .ok (.iadd, 1) := by decide +kernel
theorem dX6_years_27 : decode cX6_years 27 = .ok (.ldc 133, 2) := by decide +kernel
theorem dX6_years_29 : decode cX6_years 29 = .ok (.if_icmp .le 10, 3) := by decide +kernel
theorem dX6_years_32 : decode cX6_years 32 = .ok (.aload_n 0, 1) := by decide +kernel
theorem dX6_years_33 : decode cX6_years 33 = .ok (.ldc 134, 2) := by decide +kernel
theorem dX6_years_35 : decode cX6_years 35 = .ok (.invokevirtual 56, 3) := by decide +kernel
theorem dX6_years_38 : decode cX6_years 38 = .ok (.ireturn, 1) := by decide +kernel
theorem dX6_years_39 : decode cX6_years 39 = .ok (.iconst 0, 1) := by decide +kernel
theorem dX6_years_40 : decode cX6_years 40 = .ok (.istore_n 2, 1) := by decide +kernel
theorem dX6_years_41 : decode cX6_years 41 = .ok (.iconst 0, 1) := by decide +kernel
theorem dX6_years_42 : decode cX6_years 42 = .ok (.istore_n 3, 1) := by decide +kernel
theorem dX6_years_43 : decode cX6_years 43 = .ok (.iload_n 3, 1) := by decide +kernel
theorem dX6_years_44 : decode cX6_years 44 = .ok (.iload_n 1, 1) := by decide +kernel
theorem dX6_years_45 : decode cX6_years 45 = .ok (.if_icmp .ge 62, 3) := by decide +kernel
theorem dX6_years_48 : decode cX6_years 48 = .ok (.aload_n 0, 1) := by decide +kernel
theorem dX6_years_49 : decode cX6_years 49 = .ok (.getfield 12, 3) := by decide +kernel
theorem dX6_years_52 : decode cX6_years 52 = .ok (.invokevirtual 135, 3) := by decide +kernel
theorem dX6_years_55 : decode cX6_years 55 = .ok (.aload_n 0, 1) := by decide +kernel
theorem dX6_years_56 : decode cX6_years 56 = .ok (.getfield 12, 3) := by decide +kernel
theorem dX6_years_59 : decode cX6_years 59 = .ok (.getfield 88, 3) := by decide +kernel
theorem dX6_years_62 : decode cX6_years 62 = .ok (.ifCond .le 39, 3) := by decide +kernel
theorem dX6_years_65 : decode cX6_years 65 = .ok (.aload_n 0, 1) := by decide +kernel
theorem dX6_years_66 : decode cX6_years 66 = .ok (.getfield 12, 3) := by decide +kernel
theorem dX6_years_69 : decode cX6_years 69 = .ok (.aload_n 0, 1) := by decide +kernel
theorem dX6_years_70 : decode cX6_years 70 = .ok (.getfield 12, 3) := by decide +kernel
theorem dX6_years_73 : decode cX6_years 73 = .ok (.getfield 97, 3) := by decide +kernel
theorem dX6_years_76 : decode cX6_years 76 = .ok (.aload_n 0, 1) := by decide +kernel
theorem dX6_years_77 : decode cX6_years 77 = .ok (.getfield 12, 3) := by decide +kernel
theorem dX6_years_80 : decode cX6_years 80 = .ok (.invokevirtual 225, 3) := by decide +kernel
theorem dX6_years_83 : decode cX6_years 83 = .ok (.aload_n 0, 1) := by decide +kernel
theorem dX6_years_84 : decode cX6_years 84 = .ok (.getfield 12, 3) := by decide +kernel
theorem dX6_years_87 : decode cX6_years 87 = .ok (.getfield 88, 3) := by decide +kernel
theorem dX6_years_90 : decode cX6_years 90 = .ok (.irem, 1) := by decide +kernel
theorem dX6_years_91 : decode cX6_years 91 = .ok (.aaload, 1) := by decide +kernel
theorem dX6_years_92 : decode cX6_years 92 = .ok (.invokevirtual 127, 3) := by decide +kernel
theorem dX6_years_95 : decode cX6_years 95 = .ok (.ifCond .eq 6, 3) := by decide +kernel
theorem dX6_years_98 : decode cX6_years 98 = .ok (.iinc 2 1, 3) := by decide +kernel
theorem dX6_years_101 : decode cX6_years 101 = .ok (.iinc 3 1, 3) := by decide +kernel
theorem dX6_years_104 : decode cX6_years 104 = .ok (.goto (-61), 3) := by decide +kernel
theorem dX6_years_107 : decode cX6_years 107 = .ok (.iload_n 2, 1) := by decide +kernel
theorem dX6_years_108 : decode cX6_years 108 = .ok (.ireturn, 1) := by decide +kernel
theorem dX6_seed_0 : decode cX6_seed 0 = .ok (.aload_n 0, 1) := by decide +kernel
theorem dX6_seed_1 : decode cX6_seed 1 = .ok (.getfield 12, 3) := by decide +kernel
theorem dX6_seed_4 : decode cX6_seed 4 = .ok (.getfield 228, 3) := by decide +kernel
theorem dX6_seed_7 : decode cX6_seed 7 = .ok (.istore_n 2, 1) := by decide +kernel
theorem dX6_seed_8 : decode cX6_seed 8 = .ok (.aload_n 0, 1) := by decide +kernel
theorem dX6_seed_9 : decode cX6_seed 9 = .ok (.getfield 12, 3) := by decide +kernel
theorem dX6_seed_12 : decode cX6_seed 12 = .ok (.iload_n 1, 1) := by decide +kernel
theorem dX6_seed_13 : decode cX6_seed 13 = .ok (.putfield 228, 3) := by decide +kernel
theorem dX6_seed_16 : decode cX6_seed 16 = .ok (.iload_n 2, 1) := by decide +kernel
theorem dX6_seed_17 : decode cX6_seed 17 = .ok (.ireturn, 1) := by decide +kernel
theorem dX6_feed_0 : decode cX6_feed 0 = .ok (.iload_n 2, 1) := by decide +kernel
theorem dX6_feed_1 : decode cX6_feed 1 = .ok (.iconst 1, 1) := by decide +kernel
theorem dX6_feed_2 : decode cX6_feed 2 = .ok (.if_icmp .lt 8, 3) := by decide +kernel
theorem dX6_feed_5 : decode cX6_feed 5 = .ok (.iload_n 2, 1) := by decide +kernel
theorem dX6_feed_6 : decode cX6_feed 6 = .ok (.iconst 4, 1) := by decide +kernel
theorem dX6_feed_7 : decode cX6_feed 7 = .ok (.if_icmp .le 10, 3) := by decide +kernel
theorem dX6_feed_10 : decode cX6_feed 10 = .ok (.aload_n 0, 1) := by decide +kernel
theorem dX6_feed_11 : decode cX6_feed 11 = .ok (.ldc 55, 2) := by decide +kernel
theorem dX6_feed_13 : decode cX6_feed 13 = .ok (.invokevirtual 56, 3) := by decide +kernel
theorem dX6_feed_16 : decode cX6_feed 16 = .ok (.ireturn, 1) := by decide +kernel
theorem dX6_feed_17 : decode cX6_feed 17 = .ok (.aload_n 0, 1) := by decide +kernel
theorem dX6_feed_18 : decode cX6_feed 18 = .ok (.getfield 29, 3) := by decide +kernel
theorem dX6_feed_21 : decode cX6_feed 21 = .ok (.getfield 231, 3) := by decide +kernel
theorem dX6_feed_24 : decode cX6_feed 24 = .ok (.iload_n 2, 1) := by decide +kernel
theorem dX6_feed_25 : decode cX6_feed 25 = .ok (.iadd, 1) := by decide +kernel
theorem dX6_feed_26 : decode cX6_feed 26 = .ok (.bipush 120, 2) := by decide +kernel
theorem dX6_feed_28 : decode cX6_feed 28 = .ok (.if_icmp .le 10, 3) := by decide +kernel
theorem dX6_feed_31 : decode cX6_feed 31 = .ok (.aload_n 0, 1) := by decide +kernel
theorem dX6_feed_32 : decode cX6_feed 32 = .ok (.ldc 64, 2) := by decide +kernel
theorem dX6_feed_34 : decode cX6_feed 34 = .ok (.invokevirtual 56, 3) := by decide +kernel
theorem dX6_feed_37 : decode cX6_feed 37 = .ok (.ireturn, 1) := by decide +kernel
theorem dX6_feed_38 : decode cX6_feed 38 = .ok (.iload_n 2, 1) := by decide +kernel
theorem dX6_feed_39 : decode cX6_feed 39 = .ok (.iconst 1, 1) := by decide +kernel
theorem dX6_feed_40 : decode cX6_feed 40 = .ok (.isub, 1) := by decide +kernel
theorem dX6_feed_41 : decode cX6_feed 41 = .ok (.istore_n 3, 1) := by decide +kernel
theorem dX6_feed_42 : decode cX6_feed 42 = .ok (.iload_n 3, 1) := by decide +kernel
theorem dX6_feed_43 : decode cX6_feed 43 = .ok (.ifCond .lt 26, 3) := by decide +kernel
theorem dX6_feed_46 : decode cX6_feed 46 = .ok (.aload_n 0, 1) := by decide +kernel
theorem dX6_feed_47 : decode cX6_feed 47 = .ok (.getfield 29, 3) := by decide +kernel
theorem dX6_feed_50 : decode cX6_feed 50 = .ok (.iload_n 1, 1) := by decide +kernel
theorem dX6_feed_51 : decode cX6_feed 51 = .ok (.bipush 8, 2) := by decide +kernel
theorem dX6_feed_53 : decode cX6_feed 53 = .ok (.iload_n 3, 1) := by decide +kernel
theorem dX6_feed_54 : decode cX6_feed 54 = .ok (.imul, 1) := by decide +kernel
theorem dX6_feed_55 : decode cX6_feed 55 = .ok (.iushr, 1) := by decide +kernel
theorem dX6_feed_56 : decode cX6_feed 56 = .ok (.sipush 255, 3) := by decide +kernel
theorem dX6_feed_59 : decode cX6_feed 59 = .ok (.iand, 1) := by decide +kernel
theorem dX6_feed_60 : decode cX6_feed 60 = .ok (.invokevirtual 234, 3) := by decide +kernel
theorem dX6_feed_63 : decode cX6_feed 63 = .ok (.iinc 3 (-1), 3) := by decide +kernel
theorem dX6_feed_66 : decode cX6_feed 66 = .ok (.goto (-24), 3) := by decide +kernel
theorem dX6_feed_69 : decode cX6_feed 69 = .ok (.aload_n 0, 1) := by decide +kernel
theorem dX6_feed_70 : decode cX6_feed 70 = .ok (.getfield 29, 3) := by decide +kernel
theorem dX6_feed_73 : decode cX6_feed 73 = .ok (.getfield 231, 3) := by decide +kernel
theorem dX6_feed_76 : decode cX6_feed 76 = .ok (.ireturn, 1) := by decide +kernel
theorem dX6_wipe_0 : decode cX6_wipe 0 = .ok (.aload_n 0, 1) := by decide +kernel
theorem dX6_wipe_1 : decode cX6_wipe 1 = .ok (.getfield 29, 3) := by decide +kernel
theorem dX6_wipe_4 : decode cX6_wipe 4 = .ok (.getfield 231, 3) := by decide +kernel
theorem dX6_wipe_7 : decode cX6_wipe 7 = .ok (.istore_n 1, 1) := by decide +kernel
theorem dX6_wipe_8 : decode cX6_wipe 8 = .ok (.aload_n 0, 1) := by decide +kernel
theorem dX6_wipe_9 : decode cX6_wipe 9 = .ok (.getfield 29, 3) := by decide +kernel
theorem dX6_wipe_12 : decode cX6_wipe 12 = .ok (.iconst 0, 1) := by decide +kernel
theorem dX6_wipe_13 : decode cX6_wipe 13 = .ok (.putfield 231, 3) := by decide +kernel
theorem dX6_wipe_16 : decode cX6_wipe 16 = .ok (.iload_n 1, 1) := by decide +kernel
theorem dX6_wipe_17 : decode cX6_wipe 17 = .ok (.ireturn, 1) := by decide +kernel
theorem dX6_text_0 : decode cX6_text 0 = .ok (.aload_n 0, 1) := by decide +kernel
theorem dX6_text_1 : decode cX6_text 1 = .ok (.getfield 16, 3) := by decide +kernel
theorem dX6_text_4 : decode cX6_text 4 = .ok (.aload_n 0, 1) := by decide +kernel
theorem dX6_text_5 : decode cX6_text 5 = .ok (.getfield 12, 3) := by decide +kernel
theorem dX6_text_8 : decode cX6_text 8 = .ok (.invokevirtual 150, 3) := by decide +kernel
theorem dX6_text_11 : decode cX6_text 11 = .ok (.aload_n 0, 1) := by decide +kernel
theorem dX6_text_12 : decode cX6_text 12 = .ok (.getfield 29, 3) := by decide +kernel
theorem dX6_text_15 : decode cX6_text 15 = .ok (.aload_n 0, 1) := by decide +kernel
theorem dX6_text_16 : decode cX6_text 16 = .ok (.getfield 16, 3) := by decide +kernel
theorem dX6_text_19 : decode cX6_text 19 = .ok (.invokevirtual 238, 3) := by decide +kernel
theorem dX6_text_22 : decode cX6_text 22 = .ok (.istore_n 1, 1) := by decide +kernel
theorem dX6_text_23 : decode cX6_text 23 = .ok (.aload_n 0, 1) := by decide +kernel
theorem dX6_text_24 : decode cX6_text 24 = .ok (.getfield 29, 3) := by decide +kernel
theorem dX6_text_27 : decode cX6_text 27 = .ok (.iconst 0, 1) := by decide +kernel
theorem dX6_text_28 : decode cX6_text 28 = .ok (.putfield 231, 3) := by decide +kernel
theorem dX6_text_31 : decode cX6_text 31 = .ok (.iload_n 1, 1) := by decide +kernel
theorem dX6_text_32 : decode cX6_text 32 = .ok (.ifCond .lt 14, 3) := by decide +kernel
theorem dX6_text_35 : decode cX6_text 35 = .ok (.aload_n 0, 1) := by decide +kernel
theorem dX6_text_36 : decode cX6_text 36 = .ok (.getfield 12, 3) := by decide +kernel
theorem dX6_text_39 : decode cX6_text 39 = .ok (.aload_n 0, 1) := by decide +kernel
theorem dX6_text_40 : decode cX6_text 40 = .ok (.getfield 16, 3) := by decide +kernel
theorem dX6_text_43 : decode cX6_text 43 = .ok (.invokevirtual 150, 3) := by decide +kernel
theorem dX6_text_46 : decode cX6_text 46 = .ok (.iload_n 1, 1) := by decide +kernel
theorem dX6_text_47 : decode cX6_text 47 = .ok (.ireturn, 1) := by decide +kernel
theorem dX6_hold_0 : decode cX6_hold 0 = .ok (.iload_n 1, 1) := by decide +kernel
theorem dX6_hold_1 : decode cX6_hold 1 = .ok (.bipush 9, 2) := by decide +kernel
theorem dX6_hold_3 : decode cX6_hold 3 = .ok (.invokestatic 51, 3) := by decide +kernel
theorem dX6_hold_6 : decode cX6_hold 6 = .ok (.ifCond .eq 19, 3) := by decide +kernel
theorem dX6_hold_9 : decode cX6_hold 9 = .ok (.iload_n 2, 1) := by decide +kernel
theorem dX6_hold_10 : decode cX6_hold 10 = .ok (.iconst (-1), 1) := by decide +kernel
theorem dX6_hold_11 : decode cX6_hold 11 = .ok (.if_icmp .eq 21, 3) := by decide +kernel
theorem dX6_hold_14 : decode cX6_hold 14 = .ok (.aload_n 0, 1) := by decide +kernel
theorem dX6_hold_15 : decode cX6_hold 15 = .ok (.getfield 12, 3) := by decide +kernel
theorem dX6_hold_18 : decode cX6_hold 18 = .ok (.iload_n 2, 1) := by decide +kernel
theorem dX6_hold_19 : decode cX6_hold 19 = .ok (.invokevirtual 68, 3) := by decide +kernel
theorem dX6_hold_22 : decode cX6_hold 22 = .ok (.ifCond .ne 10, 3) := by decide +kernel
theorem dX6_hold_25 : decode cX6_hold 25 = .ok (.aload_n 0, 1) := by decide +kernel
theorem dX6_hold_26 : decode cX6_hold 26 = .ok (.ldc 55, 2) := by decide +kernel
theorem dX6_hold_28 : decode cX6_hold 28 = .ok (.invokevirtual 56, 3) := by decide +kernel
theorem dX6_hold_31 : decode cX6_hold 31 = .ok (.ireturn, 1) := by decide +kernel
theorem dX6_hold_32 : decode cX6_hold 32 = .ok (.aload_n 0, 1) := by decide +kernel
theorem dX6_hold_33 : decode cX6_hold 33 = .ok (.getfield 12, 3) := by decide +kernel
theorem dX6_hold_36 : decode cX6_hold 36 = .ok (.getfield 242, 3) := by decide +kernel
theorem dX6_hold_39 : decode cX6_hold 39 = .ok (.iload_n 1, 1) := by decide +kernel
theorem dX6_hold_40 : decode cX6_hold 40 = .ok (.iload_n 2, 1) := by decide +kernel
theorem dX6_hold_41 : decode cX6_hold 41 = .ok (.iastore, 1) := by decide +kernel
theorem dX6_hold_42 : decode cX6_hold 42 = .ok (.iconst 1, 1) := by decide +kernel
theorem dX6_hold_43 : decode cX6_hold 43 = .ok (.ireturn, 1) := by decide +kernel
theorem dX6_as_0 : decode cX6_as 0 = .ok (.iload_n 1, 1) := by decide +kernel
theorem dX6_as_1 : decode cX6_as 1 = .ok (.bipush 9, 2) := by decide +kernel
theorem dX6_as_3 : decode cX6_as 3 = .ok (.invokestatic 51, 3) := by decide +kernel
theorem dX6_as_6 : decode cX6_as 6 = .ok (.ifCond .eq 12, 3) := by decide +kernel
theorem dX6_as_9 : decode cX6_as 9 = .ok (.iload_n 2, 1) := by decide +kernel
theorem dX6_as_10 : decode cX6_as 10 = .ok (.bipush 6, 2) := by decide +kernel
theorem dX6_as_12 : decode cX6_as 12 = .ok (.invokestatic 51, 3) := by decide +kernel
theorem dX6_as_15 : decode cX6_as 15 = .ok (.ifCond .ne 10, 3) := by decide +kernel
theorem dX6_as_18 : decode cX6_as 18 = .ok (.aload_n 0, 1) := by decide +kernel
theorem dX6_as_19 : decode cX6_as 19 = .ok (.ldc 55, 2) := by decide +kernel
theorem dX6_as_21 : decode cX6_as 21 = .ok (.invokevirtual 56, 3) := by decide +kernel
theorem dX6_as_24 : decode cX6_as 24 = .ok (.ireturn, 1) := by decide +kernel
theorem dX6_as_25 : decode cX6_as 25 = .ok (.aload_n 0, 1) := by decide +kernel
theorem dX6_as_26 : decode cX6_as 26 = .ok (.getfield 12, 3) := by decide +kernel
theorem dX6_as_29 : decode cX6_as 29 = .ok (.getfield 242, 3) := by decide +kernel
theorem dX6_as_32 : decode cX6_as 32 = .ok (.iload_n 1, 1) := by decide +kernel
theorem dX6_as_33 : decode cX6_as 33 = .ok (.iaload, 1) := by decide +kernel
theorem dX6_as_34 : decode cX6_as 34 = .ok (.istore_n 3, 1) := by decide +kernel
theorem dX6_as_35 : decode cX6_as 35 = .ok (.aload_n 0, 1) := by decide +kernel
theorem dX6_as_36 : decode cX6_as 36 = .ok (.getfield 12, 3) := by decide +kernel
theorem dX6_as_39 : decode cX6_as 39 = .ok (.iload_n 3, 1) := by decide +kernel
theorem dX6_as_40 : decode cX6_as 40 = .ok (.invokevirtual 68, 3) := by decide +kernel
theorem dX6_as_43 : decode cX6_as 43 = .ok (.ifCond .ne 10, 3) := by decide +kernel
theorem dX6_as_46 : decode cX6_as 46 = .ok (.aload_n 0, 1) := by decide +kernel
theorem dX6_as_47 : decode cX6_as 47 = .ok (.ldc 217, 2) := by decide +kernel
theorem dX6_as_49 : decode cX6_as 49 = .ok (.invokevirtual 56, 3) := by decide +kernel
theorem dX6_as_52 : decode cX6_as 52 = .ok (.ireturn, 1) := by decide +kernel
theorem dX6_as_53 : decode cX6_as 53 = .ok (.aload_n 0, 1) := by decide +kernel
theorem dX6_as_54 : decode cX6_as 54 = .ok (.getfield 12, 3) := by decide +kernel
theorem dX6_as_57 : decode cX6_as 57 = .ok (.getfield 72, 3) := by decide +kernel
theorem dX6_as_60 : decode cX6_as 60 = .ok (.iload_n 3, 1) := by decide +kernel
theorem dX6_as_61 : decode cX6_as 61 = .ok (.aaload, 1) := by decide +kernel
theorem dX6_as_62 : decode cX6_as 62 = .ok (.iload_n 2, 1) := by decide +kernel
theorem dX6_as_63 : decode cX6_as 63 = .ok (.invokevirtual 245, 3) := by decide +kernel
theorem dX6_as_66 : decode cX6_as 66 = .ok (.ifCond .eq 7, 3) := by decide +kernel
theorem dX6_as_69 : decode cX6_as 69 = .ok (.iload_n 3, 1) := by decide +kernel
theorem dX6_as_70 : decode cX6_as 70 = .ok (.goto 9, 3) := by decide +kernel
theorem dX6_as_73 : decode cX6_as 73 = .ok (.aload_n 0, 1) := by decide +kernel
theorem dX6_as_74 : decode cX6_as 74 = .ok (.ldc 248, 2) := by decide +kernel
theorem dX6_as_76 : decode cX6_as 76 = .ok (.invokevirtual 56, 3) := by decide +kernel
theorem dX6_as_79 : decode cX6_as 79 = .ok (.ireturn, 1) := by decide +kernel
theorem dX6_sheet_0 : decode cX6_sheet 0 = .ok (.iload_n 1, 1) := by decide +kernel
theorem dX6_sheet_1 : decode cX6_sheet 1 = .ok (.iconst 3, 1) := by decide +kernel
theorem dX6_sheet_2 : decode cX6_sheet 2 = .ok (.invokestatic 51, 3) := by decide +kernel
theorem dX6_sheet_5 : decode cX6_sheet 5 = .ok (.ifCond .eq 10, 3) := by decide +kernel
theorem dX6_sheet_8 : decode cX6_sheet 8 = .ok (.iload_n 2, 1) := by decide +kernel
theorem dX6_sheet_9 : decode cX6_sheet 9 = .ok (.invokestatic 249, 3) := by decide +kernel
theorem dX6_sheet_12 : decode cX6_sheet 12 = .ok (.ifCond .ne 10, 3) := by decide +kernel
theorem dX6_sheet_15 : decode cX6_sheet 15 = .ok (.aload_n 0, 1) := by decide +kernel
theorem dX6_sheet_16 : decode cX6_sheet 16 = .ok (.ldc 55, 2) := by decide +kernel
theorem dX6_sheet_18 : decode cX6_sheet 18 = .ok (.invokevirtual 56, 3) := by decide +kernel
theorem dX6_sheet_21 : decode cX6_sheet 21 = .ok (.ireturn, 1) := by decide +kernel
theorem dX6_sheet_22 : decode cX6_sheet 22 = .ok (.iload_n 3, 1) := by decide +kernel
theorem dX6_sheet_23 : decode cX6_sheet 23 = .ok (.ifCond .ge 10, 3) := by decide +kernel
theorem dX6_sheet_26 : decode cX6_sheet 26 = .ok (.aload_n 0, 1) := by decide +kernel
theorem dX6_sheet_27 : decode cX6_sheet 27 = .ok (.ldc 206, 2) := by decide +kernel
theorem dX6_sheet_29 : decode cX6_sheet 29 = .ok (.invokevirtual 56, 3) := by decide +kernel
theorem dX6_sheet_32 : decode cX6_sheet 32 = .ok (.ireturn, 1) := by decide +kernel
theorem dX6_sheet_33 : decode cX6_sheet 33 = .ok (.iload_n 3, 1) := by decide +kernel
theorem dX6_sheet_34 : decode cX6_sheet 34 = .ok (.bipush 40, 2) := by decide +kernel
theorem dX6_sheet_36 : decode cX6_sheet 36 = .ok (.if_icmp .le 10, 3) := by decide +kernel
theorem dX6_sheet_39 : decode cX6_sheet 39 = .ok (.aload_n 0, 1) := by decide +kernel
theorem dX6_sheet_40 : decode cX6_sheet 40 = .ok (.ldc 55, 2) := by decide +kernel
theorem dX6_sheet_42 : decode cX6_sheet 42 = .ok (.invokevirtual 56, 3) := by decide +kernel
theorem dX6_sheet_45 : decode cX6_sheet 45 = .ok (.ireturn, 1) := by decide +kernel
theorem dX6_sheet_46 : decode cX6_sheet 46 = .ok (.aload_n 0, 1) := by decide +kernel
theorem dX6_sheet_47 : decode cX6_sheet 47 = .ok (.getfield 35, 3) := by decide +kernel
theorem dX6_sheet_50 : decode cX6_sheet 50 = .ok (.iload_n 1, 1) := by decide +kernel
theorem dX6_sheet_51 : decode cX6_sheet 51 = .ok (.aaload, 1) := by decide +kernel
theorem dX6_sheet_52 : decode cX6_sheet 52 = .ok (.iload_n 2, 1) := by decide +kernel
theorem dX6_sheet_53 : decode cX6_sheet 53 = .ok (.iload_n 3, 1) := by decide +kernel
theorem dX6_sheet_54 : decode cX6_sheet 54 = .ok (.invokevirtual 252, 3) := by decide +kernel
theorem dX6_sheet_57 : decode cX6_sheet 57 = .ok (.aload_n 0, 1) := by decide +kernel
theorem dX6_sheet_58 : decode cX6_sheet 58 = .ok (.getfield 35, 3) := by decide +kernel
theorem dX6_sheet_61 : decode cX6_sheet 61 = .ok (.iload_n 1, 1) := by decide +kernel
theorem dX6_sheet_62 : decode cX6_sheet 62 = .ok (.aaload, 1) := by decide +kernel
theorem dX6_sheet_63 : decode cX6_sheet 63 = .ok (.getfield 255, 3) := by decide +kernel
theorem dX6_sheet_66 : decode cX6_sheet 66 = .ok (.ireturn, 1) := by decide +kernel
theorem dX6_write_0 : decode cX6_write 0 = .ok (.iload_n 1, 1) := by decide +kernel
theorem dX6_write_1 : decode cX6_write 1 = .ok (.iconst 3, 1) := by decide +kernel
theorem dX6_write_2 : decode cX6_write 2 = .ok (.invokestatic 51, 3) := by decide +kernel
theorem dX6_write_5 : decode cX6_write 5 = .ok (.ifCond .ne 10, 3) := by decide +kernel
theorem dX6_write_8 : decode cX6_write 8 = .ok (.aload_n 0, 1) := by decide +kernel
theorem dX6_write_9 : decode cX6_write 9 = .ok (.ldc 55, 2) := by decide +kernel
theorem dX6_write_11 : decode cX6_write 11 = .ok (.invokevirtual 56, 3) := by decide +kernel
theorem dX6_write_14 : decode cX6_write 14 = .ok (.ireturn, 1) := by decide +kernel
theorem dX6_write_15 : decode cX6_write 15 = .ok (.aload_n 0, 1) := by decide +kernel
theorem dX6_write_16 : decode cX6_write 16 = .ok (.getfield 35, 3) := by decide +kernel
theorem dX6_write_19 : decode cX6_write 19 = .ok (.iload_n 1, 1) := by decide +kernel
theorem dX6_write_20 : decode cX6_write 20 = .ok (.aaload, 1) := by decide +kernel
theorem dX6_write_21 : decode cX6_write 21 = .ok (.invokevirtual 214, 3) := by decide +kernel
theorem dX6_write_24 : decode cX6_write 24 = .ok (.ifCond .eq 10, 3) := by decide +kernel
theorem dX6_write_27 : decode cX6_write 27 = .ok (.aload_n 0, 1) := by decide +kernel
theorem dX6_write_28 : decode cX6_write 28 = .ok (.ldc 217, 2) := by decide +kernel
theorem dX6_write_30 : decode cX6_write 30 = .ok (.invokevirtual 56, 3) := by decide +kernel
theorem dX6_write_33 : decode cX6_write 33 = .ok (.ireturn, 1) := by decide +kernel
theorem dX6_write_34 : decode cX6_write 34 = .ok (.iload_n 2, 1) := by decide +kernel
theorem dX6_write_35 : decode cX6_write 35 = .ok (.aload_n 0, 1) := by decide +kernel
theorem dX6_write_36 : decode cX6_write 36 = .ok (.getfield 35, 3) := by decide +kernel
theorem dX6_write_39 : decode cX6_write 39 = .ok (.iload_n 1, 1) := by decide +kernel
theorem dX6_write_40 : decode cX6_write 40 = .ok (.aaload, 1) := by decide +kernel
theorem dX6_write_41 : decode cX6_write 41 = .ok (.getfield 255, 3) := by decide +kernel
theorem dX6_write_44 : decode cX6_write 44 = .ok (.iconst 1, 1) := by decide +kernel
theorem dX6_write_45 : decode cX6_write 45 = .ok (.isub, 1) := by decide +kernel
theorem dX6_write_46 : decode cX6_write 46 = .ok (.invokestatic 51, 3) := by decide +kernel
theorem dX6_write_49 : decode cX6_write 49 = .ok (.ifCond .ne 10, 3) := by decide +kernel
theorem dX6_write_52 : decode cX6_write 52 = .ok (.aload_n 0, 1) := by decide +kernel
theorem dX6_write_53 : decode cX6_write 53 = .ok (.ldc 55, 2) := by decide +kernel
theorem dX6_write_55 : decode cX6_write 55 = .ok (.invokevirtual 56, 3) := by decide +kernel
theorem dX6_write_58 : decode cX6_write 58 = .ok (.ireturn, 1) := by decide +kernel
theorem dX6_write_59 : decode cX6_write 59 = .ok (.aload_n 0, 1) := by decide +kernel
theorem dX6_write_60 : decode cX6_write 60 = .ok (.getfield 35, 3) := by decide +kernel
theorem dX6_write_63 : decode cX6_write 63 = .ok (.iload_n 1, 1) := by decide +kernel
theorem dX6_write_64 : decode cX6_write 64 = .ok (.aaload, 1) := by decide +kernel
theorem dX6_write_65 : decode cX6_write 65 = .ok (.iload_n 2, 1) := by decide +kernel
theorem dX6_write_66 : decode cX6_write 66 = .ok (.iload_n 3, 1) := by decide +kernel
theorem dX6_write_67 : decode cX6_write 67 = .ok (.invokevirtual 258, 3) := by decide +kernel
theorem dX6_write_70 : decode cX6_write 70 = .ok (.iconst 1, 1) := by decide +kernel
theorem dX6_write_71 : decode cX6_write 71 = .ok (.ireturn, 1) := by decide +kernel
theorem dX6_copy_0 : decode cX6_copy 0 = .ok (.iload_n 1, 1) := by decide +kernel
theorem dX6_copy_1 : decode cX6_copy 1 = .ok (.iconst 3, 1) := by decide +kernel
theorem dX6_copy_2 : decode cX6_copy 2 = .ok (.invokestatic 51, 3) := by decide +kernel
theorem dX6_copy_5 : decode cX6_copy 5 = .ok (.ifCond .eq 11, 3) := by decide +kernel
theorem dX6_copy_8 : decode cX6_copy 8 = .ok (.iload_n 3, 1) := by decide +kernel
theorem dX6_copy_9 : decode cX6_copy 9 = .ok (.iconst 3, 1) := by decide +kernel
theorem dX6_copy_10 : decode cX6_copy 10 = .ok (.invokestatic 51, 3) := by decide +kernel
theorem dX6_copy_13 : decode cX6_copy 13 = .ok (.ifCond .ne 10, 3) := by decide +kernel
theorem dX6_copy_16 : decode cX6_copy 16 = .ok (.aload_n 0, 1) := by decide +kernel
theorem dX6_copy_17 : decode cX6_copy 17 = .ok (.ldc 55, 2) := by decide +kernel
theorem dX6_copy_19 : decode cX6_copy 19 = .ok (.invokevirtual 56, 3) := by decide +kernel
theorem dX6_copy_22 : decode cX6_copy 22 = .ok (.ireturn, 1) := by decide +kernel
theorem dX6_copy_23 : decode cX6_copy 23 = .ok (.aload_n 0, 1) := by decide +kernel
theorem dX6_copy_24 : decode cX6_copy 24 = .ok (.getfield 35, 3) := by decide +kernel
theorem dX6_copy_27 : decode cX6_copy 27 = .ok (.iload_n 1, 1) := by decide +kernel
theorem dX6_copy_28 : decode cX6_copy 28 = .ok (.aaload, 1) := by decide +kernel
theorem dX6_copy_29 : decode cX6_copy 29 = .ok (.astore 6, 2) := by decide +kernel
theorem dX6_copy_31 : decode cX6_copy 31 = .ok (.aload_n 0, 1) := by decide +kernel
theorem dX6_copy_32 : decode cX6_copy 32 = .ok (.getfield 35, 3) := by decide +kernel
theorem dX6_copy_35 : decode cX6_copy 35 = .ok (.iload_n 3, 1) := by decide +kernel
theorem dX6_copy_36 : decode cX6_copy 36 = .ok (.aaload, 1) := by decide +kernel
theorem dX6_copy_37 : decode cX6_copy 37 = .ok (.astore 7, 2) := by decide +kernel
theorem dX6_copy_39 : decode cX6_copy 39 = .ok (.aload 6, 2) := by decide +kernel
theorem dX6_copy_41 : decode cX6_copy 41 = .ok (.invokevirtual 214, 3) := by decide +kernel
theorem dX6_copy_44 : decode cX6_copy 44 = .ok (.ifCond .ne 11, 3) := by decide +kernel
theorem dX6_copy_47 : decode cX6_copy 47 = .ok (.aload 7, 2) := by decide +kernel
theorem dX6_copy_49 : decode cX6_copy 49 = .ok (.invokevirtual 214, 3) := by decide +kernel
theorem dX6_copy_52 : decode cX6_copy 52 = .ok (.ifCond .eq 10, 3) := by decide +kernel
theorem dX6_copy_55 : decode cX6_copy 55 = .ok (.aload_n 0, 1) := by decide +kernel
theorem dX6_copy_56 : decode cX6_copy 56 = .ok (.ldc 217, 2) := by decide +kernel
theorem dX6_copy_58 : decode cX6_copy 58 = .ok (.invokevirtual 56, 3) := by decide +kernel
theorem dX6_copy_61 : decode cX6_copy 61 = .ok (.ireturn, 1) := by decide +kernel
theorem dX6_copy_62 : decode cX6_copy 62 = .ok (.aload 6, 2) := by decide +kernel
theorem dX6_copy_64 : decode cX6_copy 64 = .ok (.getfield 261, 3) := by decide +kernel
theorem dX6_copy_67 : decode cX6_copy 67 = .ok (.aload 7, 2) := by decide +kernel
theorem dX6_copy_69 : decode cX6_copy 69 = .ok (.getfield 261, 3) := by decide +kernel
theorem dX6_copy_72 : decode cX6_copy 72 = .ok (.if_icmp .eq 10, 3) := by decide +kernel
theorem dX6_copy_75 : decode cX6_copy 75 = .ok (.aload_n 0, 1) := by decide +kernel
theorem dX6_copy_76 : decode cX6_copy 76 = .ok (.ldc 248, 2) := by decide +kernel
theorem dX6_copy_78 : decode cX6_copy 78 = .ok (.invokevirtual 56, 3) := by decide +kernel
theorem dX6_copy_81 : decode cX6_copy 81 = .ok (.ireturn, 1) := by decide +kernel
theorem dX6_copy_82 : decode cX6_copy 82 = .ok (.aload 6, 2) := by decide +kernel
theorem dX6_copy_84 : decode cX6_copy 84 = .ok (.iload_n 2, 1) := by decide +kernel
theorem dX6_copy_85 : decode cX6_copy 85 = .ok (.iload 5, 2) := by decide +kernel
theorem dX6_copy_87 : decode cX6_copy 87 = .ok (.invokevirtual 264, 3) := by decide +kernel
theorem dX6_copy_90 : decode cX6_copy 90 = .ok (.ifCond .eq 15, 3) := by decide +kernel
theorem dX6_copy_93 : decode cX6_copy 93 = .ok (.aload 7, 2) := by decide +kernel
theorem dX6_copy_95 : decode cX6_copy 95 = .ok (.iload 4, 2) := by decide +kernel
theorem dX6_copy_97 : decode cX6_copy 97 = .ok (.iload 5, 2) := by decide +kernel
theorem dX6_copy_99 : decode cX6_copy 99 = .ok (.invokevirtual 264, 3) := by decide +kernel
theorem dX6_copy_102 : decode cX6_copy 102 = .ok (.ifCond .ne 10, 3) := by decide +kernel
theorem dX6_copy_105 : decode cX6_copy 105 = .ok (.aload_n 0, 1) := by decide +kernel
theorem dX6_copy_106 : decode cX6_copy 106 = .ok (.ldc 55, 2) := by decide +kernel
theorem dX6_copy_108 : decode cX6_copy 108 = .ok (.invokevirtual 56, 3) := by decide +kernel
theorem dX6_copy_111 : decode cX6_copy 111 = .ok (.ireturn, 1) := by decide +kernel
theorem dX6_copy_112 : decode cX6_copy 112 = .ok (.aload 6, 2) := by decide +kernel
theorem dX6_copy_114 : decode cX6_copy 114 = .ok (.getfield 267, 3) := by decide +kernel
theorem dX6_copy_117 : decode cX6_copy 117 = .ok (.iload_n 2, 1) := by decide +kernel
theorem dX6_copy_118 : decode cX6_copy 118 = .ok (.aload 7, 2) := by decide +kernel
theorem dX6_copy_120 : decode cX6_copy 120 = .ok (.getfield 267, 3) := by decide +kernel
theorem dX6_copy_123 : decode cX6_copy 123 = .ok (.iload 4, 2) := by decide +kernel
theorem dX6_copy_125 : decode cX6_copy 125 = .ok (.iload 5, 2) := by decide +kernel
theorem dX6_copy_127 : decode cX6_copy 127 = .ok (.invokestatic 270, 3) := by decide +kernel
theorem dX6_copy_130 : decode cX6_copy 130 = .ok (.iload 5, 2) := by decide +kernel
theorem dX6_copy_132 : decode cX6_copy 132 = .ok (.ireturn, 1) := by decide +kernel
theorem dX6_load_0 : decode cX6_load 0 = .ok (.iload_n 1, 1) := by decide +kernel
theorem dX6_load_1 : decode cX6_load 1 = .ok (.iconst 3, 1) := by decide +kernel
theorem dX6_load_2 : decode cX6_load 2 = .ok (.invokestatic 51, 3) := by decide +kernel
theorem dX6_load_5 : decode cX6_load 5 = .ok (.ifCond .ne 10, 3) := by decide +kernel
theorem dX6_load_8 : decode cX6_load 8 = .ok (.aload_n 0, 1) := by decide +kernel
theorem dX6_load_9 : decode cX6_load 9 = .ok (.ldc 55, 2) := by decide +kernel
theorem dX6_load_11 : decode cX6_load 11 = .ok (.invokevirtual 56, 3) := by decide +kernel
theorem dX6_load_14 : decode cX6_load 14 = .ok (.ireturn, 1) := by decide +kernel
theorem dX6_load_15 : decode cX6_load 15 = .ok (.aload_n 0, 1) := by decide +kernel
theorem dX6_load_16 : decode cX6_load 16 = .ok (.getfield 35, 3) := by decide +kernel
theorem dX6_load_19 : decode cX6_load 19 = .ok (.iload_n 1, 1) := by decide +kernel
theorem dX6_load_20 : decode cX6_load 20 = .ok (.aaload, 1) := by decide +kernel
theorem dX6_load_21 : decode cX6_load 21 = .ok (.astore_n 2, 1) := by decide +kernel
theorem dX6_load_22 : decode cX6_load 22 = .ok (.aload_n 2, 1) := by decide +kernel
theorem dX6_load_23 : decode cX6_load 23 = .ok (.invokevirtual 214, 3) := by decide +kernel
theorem dX6_load_26 : decode cX6_load 26 = .ok (.ifCond .eq 10, 3) := by decide +kernel
theorem dX6_load_29 : decode cX6_load 29 = .ok (.aload_n 0, 1) := by decide +kernel
theorem dX6_load_30 : decode cX6_load 30 = .ok (.ldc 217, 2) := by decide +kernel
theorem dX6_load_32 : decode cX6_load 32 = .ok (.invokevirtual 56, 3) := by decide +kernel
theorem dX6_load_35 : decode cX6_load 35 = .ok (.ireturn, 1) := by decide +kernel
theorem dX6_load_36 : decode cX6_load 36 = .ok (.iconst 0, 1) := by decide +kernel
theorem dX6_load_37 : decode cX6_load 37 = .ok (.istore_n 3, 1) := by decide +kernel
theorem dX6_load_38 : decode cX6_load 38 = .ok (.iload_n 3, 1) := by decide +kernel
theorem dX6_load_39 : decode cX6_load 39 = .ok (.aload_n 2, 1) := by decide +kernel
theorem dX6_load_40 : decode cX6_load 40 = .ok (.getfield 255, 3) := by decide +kernel
theorem dX6_load_43 : decode cX6_load 43 = .ok (.if_icmp .ge 54, 3) := by decide +kernel
theorem dX6_load_46 : decode cX6_load 46 = .ok (.iload_n 3, 1) := by decide +kernel
theorem dX6_load_47 : decode cX6_load 47 = .ok (.aload_n 0, 1) := by decide +kernel
theorem dX6_load_48 : decode cX6_load 48 = .ok (.getfield 12, 3) := by decide +kernel
theorem dX6_load_51 : decode cX6_load 51 = .ok (.getfield 60, 3) := by decide +kernel
theorem dX6_load_54 : decode cX6_load 54 = .ok (.if_icmp .ge 43, 3) := by decide +kernel
theorem dX6_load_57 : decode cX6_load 57 = .ok (.aload_n 2, 1) := by decide +kernel
theorem dX6_load_58 : decode cX6_load 58 = .ok (.getfield 267, 3) := by decide +kernel
theorem dX6_load_61 : decode cX6_load 61 = .ok (.iload_n 3, 1) := by decide +kernel
theorem dX6_load_62 : decode cX6_load 62 = .ok (.iaload, 1) := by decide +kernel
theorem dX6_load_63 : decode cX6_load 63 = .ok (.bipush 99, 2) := by decide +kernel
theorem dX6_load_65 : decode cX6_load 65 = .ok (.invokestatic 51, 3) := by decide +kernel
theorem dX6_load_68 : decode cX6_load 68 = .ok (.ifCond .eq 29, 3) := by decide +kernel
theorem dX6_load_71 : decode cX6_load 71 = .ok (.aload_n 0, 1) := by decide +kernel
theorem dX6_load_72 : decode cX6_load 72 = .ok (.getfield 12, 3) := by decide +kernel
theorem dX6_load_75 : decode cX6_load 75 = .ok (.getfield 72, 3) := by decide +kernel
theorem dX6_load_78 : decode cX6_load 78 = .ok (.iload_n 3, 1) := by decide +kernel
theorem dX6_load_79 : decode cX6_load 79 = .ok (.aaload, 1) := by decide +kernel
theorem dX6_load_80 : decode cX6_load 80 = .ok (.getfield 276, 3) := by decide +kernel
theorem dX6_load_83 : decode cX6_load 83 = .ok (.iconst 0, 1) := by decide +kernel
theorem dX6_load_84 : decode cX6_load 84 = .ok (.aload_n 2, 1) := by decide +kernel
theorem dX6_load_85 : decode cX6_load 85 = .ok (.getfield 267, 3) := by decide +kernel
theorem dX6_load_88 : decode cX6_load 88 = .ok (.iload_n 3, 1) := by decide +kernel
theorem dX6_load_89 : decode cX6_load 89 = .ok (.iaload, 1) := by decide +kernel
theorem dX6_load_90 : decode cX6_load 90 = .ok (.iastore, 1) := by decide +kernel
theorem dX6_load_91 : decode cX6_load 91 = .ok (.iinc 3 1, 3) := by decide +kernel
theorem dX6_load_94 : decode cX6_load 94 = .ok (.goto (-56), 3) := by decide +kernel
theorem dX6_load_97 : decode cX6_load 97 = .ok (.iload_n 3, 1) := by decide +kernel
theorem dX6_load_98 : decode cX6_load 98 = .ok (.ireturn, 1) := by decide +kernel
theorem dX6_judge_0 : decode cX6_judge 0 = .ok (.iload_n 1, 1) := by decide +kernel
theorem dX6_judge_1 : decode cX6_judge 1 = .ok (.iconst 3, 1) := by decide +kernel
theorem dX6_judge_2 : decode cX6_judge 2 = .ok (.invokestatic 51, 3) := by decide +kernel
theorem dX6_judge_5 : decode cX6_judge 5 = .ok (.ifCond .ne 10, 3) := by decide +kernel
theorem dX6_judge_8 : decode cX6_judge 8 = .ok (.aload_n 0, 1) := by decide +kernel
theorem dX6_judge_9 : decode cX6_judge 9 = .ok (.ldc 55, 2) := by decide +kernel
theorem dX6_judge_11 : decode cX6_judge 11 = .ok (.invokevirtual 56, 3) := by decide +kernel
theorem dX6_judge_14 : decode cX6_judge 14 = .ok (.ireturn, 1) := by decide +kernel
theorem dX6_judge_15 : decode cX6_judge 15 = .ok (.aload_n 0, 1) := by decide +kernel
theorem dX6_judge_16 : decode cX6_judge 16 = .ok (.getfield 35, 3) := by decide +kernel
theorem dX6_judge_19 : decode cX6_judge 19 = .ok (.iload_n 1, 1) := by decide +kernel
theorem dX6_judge_20 : decode cX6_judge 20 = .ok (.aaload, 1) := by decide +kernel
theorem dX6_judge_21 : decode cX6_judge 21 = .ok (.astore_n 2, 1) := by decide +kernel
theorem dX6_judge_22 : decode cX6_judge 22 = .ok (.aload_n 2, 1) := by decide +kernel
theorem dX6_judge_23 : decode cX6_judge 23 = .ok (.invokevirtual 214, 3) := by decide +kernel
theorem dX6_judge_26 : decode cX6_judge 26 = .ok (.ifCond .eq 10, 3) := by decide +kernel
theorem dX6_judge_29 : decode cX6_judge 29 = .ok (.aload_n 0, 1) := by decide +kernel
theorem dX6_judge_30 : decode cX6_judge 30 = .ok (.ldc 217, 2) := by decide +kernel
theorem dX6_judge_32 : decode cX6_judge 32 = .ok (.invokevirtual 56, 3) := by decide +kernel
theorem dX6_judge_35 : decode cX6_judge 35 = .ok (.ireturn, 1) := by decide +kernel
theorem dX6_judge_36 : decode cX6_judge 36 = .ok (.iconst 0, 1) := by decide +kernel
theorem dX6_judge_37 : decode cX6_judge 37 = .ok (.istore_n 3, 1) := by decide +kernel
theorem dX6_judge_38 : decode cX6_judge 38 = .ok (.iload_n 3, 1) := by decide +kernel
theorem dX6_judge_39 : decode cX6_judge 39 = .ok (.aload_n 2, 1) := by decide +kernel
theorem dX6_judge_40 : decode cX6_judge 40 = .ok (.getfield 255, 3) := by decide +kernel
theorem dX6_judge_43 : decode cX6_judge 43 = .ok (.if_icmp .ge 32, 3) := by decide +kernel
theorem dX6_judge_46 : decode cX6_judge 46 = .ok (.aload_n 0, 1) := by decide +kernel
theorem dX6_judge_47 : decode cX6_judge 47 = .ok (.getfield 12, 3) := by decide +kernel
theorem dX6_judge_50 : decode cX6_judge 50 = .ok (.aload_n 2, 1) := by decide +kernel
theorem dX6_judge_51 : decode cX6_judge 51 = .ok (.getfield 267, 3) := by decide +kernel
theorem dX6_judge_54 : decode cX6_judge 54 = .ok (.iload_n 3, 1) := by decide +kernel
theorem dX6_judge_55 : decode cX6_judge 55 = .ok (.iaload, 1) := by decide +kernel
theorem dX6_judge_56 : decode cX6_judge 56 = .ok (.invokevirtual 94, 3) := by decide +kernel
theorem dX6_judge_59 : decode cX6_judge 59 = .ok (.ifCond .ne 10, 3) := by decide +kernel
theorem dX6_judge_62 : decode cX6_judge 62 = .ok (.aload_n 0, 1) := by decide +kernel
theorem dX6_judge_63 : decode cX6_judge 63 = .ok (.ldc 134, 2) := by decide +kernel
theorem dX6_judge_65 : decode cX6_judge 65 = .ok (.invokevirtual 56, 3) := by decide +kernel
theorem dX6_judge_68 : decode cX6_judge 68 = .ok (.ireturn, 1) := by decide +kernel
theorem dX6_judge_69 : decode cX6_judge 69 = .ok (.iinc 3 1, 3) := by decide +kernel
theorem dX6_judge_72 : decode cX6_judge 72 = .ok (.goto (-34), 3) := by decide +kernel
theorem dX6_judge_75 : decode cX6_judge 75 = .ok (.aload_n 0, 1) := by decide +kernel
theorem dX6_judge_76 : decode cX6_judge 76 = .ok (.getfield 16, 3) := by decide +kernel
theorem dX6_judge_79 : decode cX6_judge 79 = .ok (.aload_n 0, 1) := by decide +kernel
theorem dX6_judge_80 : decode cX6_judge 80 = .ok (.getfield 12, 3) := by decide +kernel
theorem dX6_judge_83 : decode cX6_judge 83 = .ok (.invokevirtual 150, 3) := by decide +kernel
theorem dX6_judge_86 : decode cX6_judge 86 = .ok (.aload_n 0, 1) := by decide +kernel
theorem dX6_judge_87 : decode cX6_judge 87 = .ok (.getfield 16, 3) := by decide +kernel
theorem dX6_judge_90 : decode cX6_judge 90 = .ok (.aload_n 2, 1) := by decide +kernel
theorem dX6_judge_91 : decode cX6_judge 91 = .ok (.getfield 267, 3) := by decide +kernel
theorem dX6_judge_94 : decode cX6_judge 94 = .ok (.aload_n 2, 1) := by decide +kernel
theorem dX6_judge_95 : decode cX6_judge 95 = .ok (.getfield 255, 3) := by decide +kernel
theorem dX6_judge_98 : decode cX6_judge 98 = .ok (.invokevirtual 279, 3) := by decide +kernel
theorem dX6_judge_101 : decode cX6_judge 101 = .ok (.ireturn, 1) := by decide +kernel
theorem dX6_image_0 : decode cX6_image 0 = .ok (.aload_n 0, 1) := by decide +kernel
theorem dX6_image_1 : decode cX6_image 1 = .ok (.getfield 19, 3) := by decide +kernel
theorem dX6_image_4 : decode cX6_image 4 = .ok (.aload_n 0, 1) := by decide +kernel
theorem dX6_image_5 : decode cX6_image 5 = .ok (.getfield 12, 3) := by decide +kernel
theorem dX6_image_8 : decode cX6_image 8 = .ok (.invokevirtual 150, 3) := by decide +kernel
theorem dX6_image_11 : decode cX6_image 11 = .ok (.aload_n 0, 1) := by decide +kernel
theorem dX6_image_12 : decode cX6_image 12 = .ok (.iconst 1, 1) := by decide +kernel
theorem dX6_image_13 : decode cX6_image 13 = .ok (.putfield 22, 3) := by decide +kernel
theorem dX6_image_16 : decode cX6_image 16 = .ok (.iconst 1, 1) := by decide +kernel
theorem dX6_image_17 : decode cX6_image 17 = .ok (.ireturn, 1) := by decide +kernel
theorem dX6_undo_0 : decode cX6_undo 0 = .ok (.aload_n 0, 1) := by decide +kernel
theorem dX6_undo_1 : decode cX6_undo 1 = .ok (.getfield 22, 3) := by decide +kernel
theorem dX6_undo_4 : decode cX6_undo 4 = .ok (.ifCond .ne 10, 3) := by decide +kernel
theorem dX6_undo_7 : decode cX6_undo 7 = .ok (.aload_n 0, 1) := by decide +kernel
theorem dX6_undo_8 : decode cX6_undo 8 = .ok (.ldc 154, 2) := by decide +kernel
theorem dX6_undo_10 : decode cX6_undo 10 = .ok (.invokevirtual 56, 3) := by decide +kernel
theorem dX6_undo_13 : decode cX6_undo 13 = .ok (.ireturn, 1) := by decide +kernel
theorem dX6_undo_14 : decode cX6_undo 14 = .ok (.aload_n 0, 1) := by decide +kernel
theorem dX6_undo_15 : decode cX6_undo 15 = .ok (.getfield 12, 3) := by decide +kernel
theorem dX6_undo_18 : decode cX6_undo 18 = .ok (.aload_n 0, 1) := by decide +kernel
theorem dX6_undo_19 : decode cX6_undo 19 = .ok (.getfield 19, 3) := by decide +kernel
theorem dX6_undo_22 : decode cX6_undo 22 = .ok (.invokevirtual 150, 3) := by decide +kernel
theorem dX6_undo_25 : decode cX6_undo 25 = .ok (.aload_n 0, 1) := by decide +kernel
theorem dX6_undo_26 : decode cX6_undo 26 = .ok (.getfield 12, 3) := by decide +kernel
theorem dX6_undo_29 : decode cX6_undo 29 = .ok (.getfield 130, 3) := by decide +kernel
theorem dX6_undo_32 : decode cX6_undo 32 = .ok (.ireturn, 1) := by decide +kernel
theorem dX6_tear_0 : decode cX6_tear 0 = .ok (.aload_n 0, 1) := by decide +kernel
theorem dX6_tear_1 : decode cX6_tear 1 = .ok (.getfield 22, 3) := by decide +kernel
theorem dX6_tear_4 : decode cX6_tear 4 = .ok (.ifCond .eq 7, 3) := by decide +kernel
theorem dX6_tear_7 : decode cX6_tear 7 = .ok (.iconst 1, 1) := by decide +kernel
theorem dX6_tear_8 : decode cX6_tear 8 = .ok (.goto 4, 3) := by decide +kernel
theorem dX6_tear_11 : decode cX6_tear 11 = .ok (.iconst 0, 1) := by decide +kernel
theorem dX6_tear_12 : decode cX6_tear 12 = .ok (.istore_n 1, 1) := by decide +kernel
theorem dX6_tear_13 : decode cX6_tear 13 = .ok (.aload_n 0, 1) := by decide +kernel
theorem dX6_tear_14 : decode cX6_tear 14 = .ok (.iconst 0, 1) := by decide +kernel
theorem dX6_tear_15 : decode cX6_tear 15 = .ok (.putfield 22, 3) := by decide +kernel
theorem dX6_tear_18 : decode cX6_tear 18 = .ok (.iload_n 1, 1) := by decide +kernel
theorem dX6_tear_19 : decode cX6_tear 19 = .ok (.ireturn, 1) := by decide +kernel
theorem dX6_count_0 : decode cX6_count 0 = .ok (.iload_n 1, 1) := by decide +kernel
theorem dX6_count_1 : decode cX6_count 1 = .ok (.tableswitch 114 0 7 #[47, 55, 63, 71, 82, 90, 98, 106], 47) := by decide +kernel
theorem dX6_count_48 : decode cX6_count 48 = .ok (.aload_n 0, 1) := by decide +kernel
theorem dX6_count_49 : decode cX6_count 49 = .ok (.getfield 12, 3) := by decide +kernel
theorem dX6_count_52 : decode cX6_count 52 = .ok (.getfield 130, 3) := by decide +kernel
theorem dX6_count_55 : decode cX6_count 55 = .ok (.ireturn, 1) := by decide +kernel
theorem dX6_count_56 : decode cX6_count 56 = .ok (.aload_n 0, 1) := by decide +kernel
theorem dX6_count_57 : decode cX6_count 57 = .ok (.getfield 12, 3) := by decide +kernel
theorem dX6_count_60 : decode cX6_count 60 = .ok (.getfield 60, 3) := by decide +kernel
theorem dX6_count_63 : decode cX6_count 63 = .ok (.ireturn, 1) := by decide +kernel
theorem dX6_count_64 : decode cX6_count 64 = .ok (.aload_n 0, 1) := by decide +kernel
theorem dX6_count_65 : decode cX6_count 65 = .ok (.getfield 12, 3) := by decide +kernel
theorem dX6_count_68 : decode cX6_count 68 = .ok (.getfield 88, 3) := by decide +kernel
theorem dX6_count_71 : decode cX6_count 71 = .ok (.ireturn, 1) := by decide +kernel
theorem dX6_count_72 : decode cX6_count 72 = .ok (.aload_n 0, 1) := by decide +kernel
theorem dX6_count_73 : decode cX6_count 73 = .ok (.getfield 12, 3) := by decide +kernel
theorem dX6_count_76 : decode cX6_count 76 = .ok (.invokevirtual 141, 3) := by decide +kernel
theorem dX6_count_79 : decode cX6_count 79 = .ok (.invokestatic 165, 3) := by decide +kernel
theorem dX6_count_82 : decode cX6_count 82 = .ok (.ireturn, 1) := by decide +kernel
theorem dX6_count_83 : decode cX6_count 83 = .ok (.aload_n 0, 1) := by decide +kernel
theorem dX6_count_84 : decode cX6_count 84 = .ok (.getfield 12, 3) := by decide +kernel
theorem dX6_count_87 : decode cX6_count 87 = .ok (.invokevirtual 138, 3) := by decide +kernel
theorem dX6_count_90 : decode cX6_count 90 = .ok (.ireturn, 1) := by decide +kernel
theorem dX6_count_91 : decode cX6_count 91 = .ok (.aload_n 0, 1) := by decide +kernel
theorem dX6_count_92 : decode cX6_count 92 = .ok (.getfield 29, 3) := by decide +kernel
theorem dX6_count_95 : decode cX6_count 95 = .ok (.getfield 231, 3) := by decide +kernel
theorem dX6_count_98 : decode cX6_count 98 = .ok (.ireturn, 1) := by decide +kernel
theorem dX6_count_99 : decode cX6_count 99 = .ok (.aload_n 0, 1) := by decide +kernel
theorem dX6_count_100 : decode cX6_count 100 = .ok (.getfield 12, 3) := by decide +kernel
theorem dX6_count_103 : decode cX6_count 103 = .ok (.getfield 228, 3) := by decide +kernel
theorem dX6_count_106 : decode cX6_count 106 = .ok (.ireturn, 1) := by decide +kernel
theorem dX6_count_107 : decode cX6_count 107 = .ok (.aload_n 0, 1) := by decide +kernel
theorem dX6_count_108 : decode cX6_count 108 = .ok (.getfield 12, 3) := by decide +kernel
theorem dX6_count_111 : decode cX6_count 111 = .ok (.invokevirtual 283, 3) := by decide +kernel
theorem dX6_count_114 : decode cX6_count 114 = .ok (.ireturn, 1) := by decide +kernel
theorem dX6_count_115 : decode cX6_count 115 = .ok (.aload_n 0, 1) := by decide +kernel
theorem dX6_count_116 : decode cX6_count 116 = .ok (.ldc 55, 2) := by decide +kernel
theorem dX6_count_118 : decode cX6_count 118 = .ok (.invokevirtual 56, 3) := by decide +kernel
theorem dX6_count_121 : decode cX6_count 121 = .ok (.ireturn, 1) := by decide +kernel
theorem dX6_status_0 : decode cX6_status 0 = .ok (.iload_n 1, 1) := by decide +kernel
theorem dX6_status_1 : decode cX6_status 1 = .ok (.iconst (-1), 1) := by decide +kernel
theorem dX6_status_2 : decode cX6_status 2 = .ok (.if_icmp .ne 30, 3) := by decide +kernel
theorem dX6_status_5 : decode cX6_status 5 = .ok (.iconst 0, 1) := by decide +kernel
theorem dX6_status_6 : decode cX6_status 6 = .ok (.istore_n 2, 1) := by decide +kernel
theorem dX6_status_7 : decode cX6_status 7 = .ok (.iconst 0, 1) := by decide +kernel
theorem dX6_status_8 : decode cX6_status 8 = .ok (.istore_n 3, 1) := by decide +kernel
theorem dX6_status_9 : decode cX6_status 9 = .ok (.iload_n 3, 1) := by decide +kernel
theorem dX6_status_10 : decode cX6_status 10 = .ok (.bipush 7, 2) := by decide +kernel
theorem dX6_status_12 : decode cX6_status 12 = .ok (.if_icmp .ge 18, 3) := by decide +kernel
theorem dX6_status_15 : decode cX6_status 15 = .ok (.iload_n 2, 1) := by decide +kernel
theorem dX6_status_16 : decode cX6_status 16 = .ok (.aload_n 0, 1) := by decide +kernel
theorem dX6_status_17 : decode cX6_status 17 = .ok (.getfield 46, 3) := by decide +kernel
theorem dX6_status_20 : decode cX6_status 20 = .ok (.iload_n 3, 1) := by decide +kernel
theorem dX6_status_21 : decode cX6_status 21 = .ok (.iaload, 1) := by decide +kernel
theorem dX6_status_22 : decode cX6_status 22 = .ok (.iadd, 1) := by decide +kernel
theorem dX6_status_23 : decode cX6_status 23 = .ok (.istore_n 2, 1) := by decide +kernel
theorem dX6_status_24 : decode cX6_status 24 = .ok (.iinc 3 1, 3) := by decide +kernel
theorem dX6_status_27 : decode cX6_status 27 = .ok (.goto (-18), 3) := by decide +kernel
theorem dX6_status_30 : decode cX6_status 30 = .ok (.iload_n 2, 1) := by decide +kernel
theorem dX6_status_31 : decode cX6_status 31 = .ok (.ireturn, 1) := by decide +kernel
theorem dX6_status_32 : decode cX6_status 32 = .ok (.iload_n 1, 1) := by decide +kernel
theorem dX6_status_33 : decode cX6_status 33 = .ok (.bipush 6, 2) := by decide +kernel
theorem dX6_status_35 : decode cX6_status 35 = .ok (.invokestatic 51, 3) := by decide +kernel
theorem dX6_status_38 : decode cX6_status 38 = .ok (.ifCond .eq 12, 3) := by decide +kernel
theorem dX6_status_41 : decode cX6_status 41 = .ok (.aload_n 0, 1) := by decide +kernel
theorem dX6_status_42 : decode cX6_status 42 = .ok (.getfield 46, 3) := by decide +kernel
theorem dX6_status_45 : decode cX6_status 45 = .ok (.iload_n 1, 1) := by decide +kernel
theorem dX6_status_46 : decode cX6_status 46 = .ok (.iaload, 1) := by decide +kernel
theorem dX6_status_47 : decode cX6_status 47 = .ok (.goto 9, 3) := by decide +kernel
theorem dX6_status_50 : decode cX6_status 50 = .ok (.aload_n 0, 1) := by decide +kernel
theorem dX6_status_51 : decode cX6_status 51 = .ok (.ldc 55, 2) := by decide +kernel
theorem dX6_status_53 : decode cX6_status 53 = .ok (.invokevirtual 56, 3) := by decide +kernel
theorem dX6_status_56 : decode cX6_status 56 = .ok (.ireturn, 1) := by decide +kernel
theorem dX6_finding_0 : decode cX6_finding 0 = .ok (.ldc 55, 2) := by decide +kernel
theorem dX6_finding_2 : decode cX6_finding 2 = .ok (.iload_n 1, 1) := by decide +kernel
theorem dX6_finding_3 : decode cX6_finding 3 = .ok (.isub, 1) := by decide +kernel
theorem dX6_finding_4 : decode cX6_finding 4 = .ok (.istore_n 2, 1) := by decide +kernel
theorem dX6_finding_5 : decode cX6_finding 5 = .ok (.iload_n 2, 1) := by decide +kernel
theorem dX6_finding_6 : decode cX6_finding 6 = .ok (.bipush 6, 2) := by decide +kernel
theorem dX6_finding_8 : decode cX6_finding 8 = .ok (.invokestatic 51, 3) := by decide +kernel
theorem dX6_finding_11 : decode cX6_finding 11 = .ok (.ifCond .eq 13, 3) := by decide +kernel
theorem dX6_finding_14 : decode cX6_finding 14 = .ok (.aload_n 0, 1) := by decide +kernel
theorem dX6_finding_15 : decode cX6_finding 15 = .ok (.getfield 46, 3) := by decide +kernel
theorem dX6_finding_18 : decode cX6_finding 18 = .ok (.iload_n 2, 1) := by decide +kernel
theorem dX6_finding_19 : decode cX6_finding 19 = .ok (.dup2, 1) := by decide +kernel
theorem dX6_finding_20 : decode cX6_finding 20 = .ok (.iaload, 1) := by decide +kernel
theorem dX6_finding_21 : decode cX6_finding 21 = .ok (.iconst 1, 1) := by decide +kernel
theorem dX6_finding_22 : decode cX6_finding 22 = .ok (.iadd, 1) := by decide +kernel
theorem dX6_finding_23 : decode cX6_finding 23 = .ok (.iastore, 1) := by decide +kernel
theorem dX6_finding_24 : decode cX6_finding 24 = .ok (.iload_n 1, 1) := by decide +kernel
theorem dX6_finding_25 : decode cX6_finding 25 = .ok (.ireturn, 1) := by decide +kernel
theorem dX6_isUpTo_0 : decode cX6_isUpTo 0 = .ok (.iload_n 0, 1) := by decide +kernel
theorem dX6_isUpTo_1 : decode cX6_isUpTo 1 = .ok (.ifCond .lt 12, 3) := by decide +kernel
theorem dX6_isUpTo_4 : decode cX6_isUpTo 4 = .ok (.iload_n 0, 1) := by decide +kernel
theorem dX6_isUpTo_5 : decode cX6_isUpTo 5 = .ok (.iload_n 1, 1) := by decide +kernel
theorem dX6_isUpTo_6 : decode cX6_isUpTo 6 = .ok (.if_icmp .gt 7, 3) := by decide +kernel
theorem dX6_isUpTo_9 : decode cX6_isUpTo 9 = .ok (.iconst 1, 1) := by decide +kernel
theorem dX6_isUpTo_10 : decode cX6_isUpTo 10 = .ok (.goto 4, 3) := by decide +kernel
theorem dX6_isUpTo_13 : decode cX6_isUpTo 13 = .ok (.iconst 0, 1) := by decide +kernel
theorem dX6_isUpTo_14 : decode cX6_isUpTo 14 = .ok (.ireturn, 1) := by decide +kernel
theorem dX6_isAgenda_0 : decode cX6_isAgenda 0 = .ok (.iload_n 1, 1) := by decide +kernel
theorem dX6_isAgenda_1 : decode cX6_isAgenda 1 = .ok (.aload_n 0, 1) := by decide +kernel
theorem dX6_isAgenda_2 : decode cX6_isAgenda 2 = .ok (.getfield 12, 3) := by decide +kernel
theorem dX6_isAgenda_5 : decode cX6_isAgenda 5 = .ok (.invokevirtual 286, 3) := by decide +kernel
theorem dX6_isAgenda_8 : decode cX6_isAgenda 8 = .ok (.invokestatic 51, 3) := by decide +kernel
theorem dX6_isAgenda_11 : decode cX6_isAgenda 11 = .ok (.ifCond .eq 15, 3) := by decide +kernel
theorem dX6_isAgenda_14 : decode cX6_isAgenda 14 = .ok (.iload_n 1, 1) := by decide +kernel
theorem dX6_isAgenda_15 : decode cX6_isAgenda 15 = .ok (.invokestatic 165, 3) := by decide +kernel
theorem dX6_isAgenda_18 : decode cX6_isAgenda 18 = .ok (.iconst 5, 1) := by decide +kernel
theorem dX6_isAgenda_19 : decode cX6_isAgenda 19 = .ok (.if_icmp .gt 7, 3) := by decide +kernel
theorem dX6_isAgenda_22 : decode cX6_isAgenda 22 = .ok (.iconst 1, 1) := by decide +kernel
theorem dX6_isAgenda_23 : decode cX6_isAgenda 23 = .ok (.goto 4, 3) := by decide +kernel
theorem dX6_isAgenda_26 : decode cX6_isAgenda 26 = .ok (.iconst 0, 1) := by decide +kernel
theorem dX6_isAgenda_27 : decode cX6_isAgenda 27 = .ok (.ireturn, 1) := by decide +kernel
theorem dX6_tryWants_0 : decode cX6_tryWants 0 = .ok (.aload_n 0, 1) := by decide +kernel
theorem dX6_tryWants_1 : decode cX6_tryWants 1 = .ok (.getfield 16, 3) := by decide +kernel
theorem dX6_tryWants_4 : decode cX6_tryWants 4 = .ok (.getfield 97, 3) := by decide +kernel
theorem dX6_tryWants_7 : decode cX6_tryWants 7 = .ok (.iload_n 1, 1) := by decide +kernel
theorem dX6_tryWants_8 : decode cX6_tryWants 8 = .ok (.aaload, 1) := by decide +kernel
theorem dX6_tryWants_9 : decode cX6_tryWants 9 = .ok (.iload_n 2, 1) := by decide +kernel
theorem dX6_tryWants_10 : decode cX6_tryWants 10 = .ok (.putfield 159, 3) := by decide +kernel
theorem dX6_tryWants_13 : decode cX6_tryWants 13 = .ok (.aload_n 0, 1) := by decide +kernel
theorem dX6_tryWants_14 : decode cX6_tryWants 14 = .ok (.getfield 16, 3) := by decide +kernel
theorem dX6_tryWants_17 : decode cX6_tryWants 17 = .ok (.aload_n 0, 1) := by decide +kernel
theorem dX6_tryWants_18 : decode cX6_tryWants 18 = .ok (.getfield 16, 3) := by decide +kernel
theorem dX6_tryWants_21 : decode cX6_tryWants 21 = .ok (.getfield 97, 3) := by decide +kernel
theorem dX6_tryWants_24 : decode cX6_tryWants 24 = .ok (.iload_n 1, 1) := by decide +kernel
theorem dX6_tryWants_25 : decode cX6_tryWants 25 = .ok (.aaload, 1) := by decide +kernel
theorem dX6_tryWants_26 : decode cX6_tryWants 26 = .ok (.invokevirtual 123, 3) := by decide +kernel
theorem dX6_tryWants_29 : decode cX6_tryWants 29 = .ok (.ireturn, 1) := by decide +kernel
theorem dX6_isRobbed_0 : decode cX6_isRobbed 0 = .ok (.iconst 0, 1) := by decide +kernel
theorem dX6_isRobbed_1 : decode cX6_isRobbed 1 = .ok (.istore_n 3, 1) := by decide +kernel
theorem dX6_isRobbed_2 : decode cX6_isRobbed 2 = .ok (.iload_n 3, 1) := by decide +kernel
theorem dX6_isRobbed_3 : decode cX6_isRobbed 3 = .ok (.iconst 4, 1) := by decide +kernel
theorem dX6_isRobbed_4 : decode cX6_isRobbed 4 = .ok (.if_icmp .ge 31, 3) := by decide +kernel
theorem dX6_isRobbed_7 : decode cX6_isRobbed 7 = .ok (.aload_n 2, 1) := by decide +kernel
theorem dX6_isRobbed_8 : decode cX6_isRobbed 8 = .ok (.iload_n 3, 1) := by decide +kernel
theorem dX6_isRobbed_9 : decode cX6_isRobbed 9 = .ok (.iconst 0, 1) := by decide +kernel
theorem dX6_isRobbed_10 : decode cX6_isRobbed 10 = .ok (.aload_n 0, 1) := by decide +kernel
theorem dX6_isRobbed_11 : decode cX6_isRobbed 11 = .ok (.getfield 276, 3) := by decide +kernel
theorem dX6_isRobbed_14 : decode cX6_isRobbed 14 = .ok (.iload_n 3, 1) := by decide +kernel
theorem dX6_isRobbed_15 : decode cX6_isRobbed 15 = .ok (.iaload, 1) := by decide +kernel
theorem dX6_isRobbed_16 : decode cX6_isRobbed 16 = .ok (.iload_n 1, 1) := by decide +kernel
theorem dX6_isRobbed_17 : decode cX6_isRobbed 17 = .ok (.isub, 1) := by decide +kernel
theorem dX6_isRobbed_18 : decode cX6_isRobbed 18 = .ok (.invokestatic 289, 3) := by decide +kernel
theorem dX6_isRobbed_21 : decode cX6_isRobbed 21 = .ok (.invokevirtual 218, 3) := by decide +kernel
theorem dX6_isRobbed_24 : decode cX6_isRobbed 24 = .ok (.ifCond .ne 5, 3) := by decide +kernel
theorem dX6_isRobbed_27 : decode cX6_isRobbed 27 = .ok (.iconst 0, 1) := by decide +kernel
theorem dX6_isRobbed_28 : decode cX6_isRobbed 28 = .ok (.ireturn, 1) := by decide +kernel
theorem dX6_isRobbed_29 : decode cX6_isRobbed 29 = .ok (.iinc 3 1, 3) := by decide +kernel
theorem dX6_isRobbed_32 : decode cX6_isRobbed 32 = .ok (.goto (-30), 3) := by decide +kernel
theorem dX6_isRobbed_35 : decode cX6_isRobbed 35 = .ok (.iconst 1, 1) := by decide +kernel
theorem dX6_isRobbed_36 : decode cX6_isRobbed 36 = .ok (.ireturn, 1) := by decide +kernel
theorem dX6_commonDivisor_0 : decode cX6_commonDivisor 0 = .ok (.iload_n 1, 1) := by decide +kernel
theorem dX6_commonDivisor_1 : decode cX6_commonDivisor 1 = .ok (.istore_n 2, 1) := by decide +kernel
theorem dX6_commonDivisor_2 : decode cX6_commonDivisor 2 = .ok (.iload_n 2, 1) := by decide +kernel
theorem dX6_commonDivisor_3 : decode cX6_commonDivisor 3 = .ok (.iconst 1, 1) := by decide +kernel
theorem dX6_commonDivisor_4 : decode cX6_commonDivisor 4 = .ok (.if_icmp .le 23, 3) := by decide +kernel
theorem dX6_commonDivisor_7 : decode cX6_commonDivisor 7 = .ok (.iload_n 0, 1) := by decide +kernel
theorem dX6_commonDivisor_8 : decode cX6_commonDivisor 8 = .ok (.iload_n 2, 1) := by decide +kernel
theorem dX6_commonDivisor_9 : decode cX6_commonDivisor 9 = .ok (.irem, 1) := by decide +kernel
theorem dX6_commonDivisor_10 : decode cX6_commonDivisor 10 = .ok (.ifCond .ne 11, 3) := by decide +kernel
theorem dX6_commonDivisor_13 : decode cX6_commonDivisor 13 = .ok (.iload_n 1, 1) := by decide +kernel
theorem dX6_commonDivisor_14 : decode cX6_commonDivisor 14 = .ok (.iload_n 2, 1) := by decide +kernel
theorem dX6_commonDivisor_15 : decode cX6_commonDivisor 15 = .ok (.irem, 1) := by decide +kernel
theorem dX6_commonDivisor_16 : decode cX6_commonDivisor 16 = .ok (.ifCond .ne 5, 3) := by decide +kernel
theorem dX6_commonDivisor_19 : decode cX6_commonDivisor 19 = .ok (.iload_n 2, 1) := by decide +kernel
theorem dX6_commonDivisor_20 : decode cX6_commonDivisor 20 = .ok (.ireturn, 1) := by decide +kernel
theorem dX6_commonDivisor_21 : decode cX6_commonDivisor 21 = .ok (.iinc 2 (-1), 3) := by decide +kernel
theorem dX6_commonDivisor_24 : decode cX6_commonDivisor 24 = .ok (.goto (-22), 3) := by decide +kernel
theorem dX6_commonDivisor_27 : decode cX6_commonDivisor 27 = .ok (.iconst 1, 1) := by decide +kernel
theorem dX6_commonDivisor_28 : decode cX6_commonDivisor 28 = .ok (.ireturn, 1) := by decide +kernel
theorem dX6_powerOf_0 : decode cX6_powerOf 0 = .ok (.lconst 1, 1) := by decide +kernel
theorem dX6_powerOf_1 : decode cX6_powerOf 1 = .ok (.lstore_n 2, 1) := by decide +kernel
theorem dX6_powerOf_2 : decode cX6_powerOf 2 = .ok (.iconst 0, 1) := by decide +kernel
theorem dX6_powerOf_3 : decode cX6_powerOf 3 = .ok (.istore 4, 2) := by decide +kernel
theorem dX6_powerOf_5 : decode cX6_powerOf 5 = .ok (.iload 4, 2) := by decide +kernel
theorem dX6_powerOf_7 : decode cX6_powerOf 7 = .ok (.iload_n 1, 1) := by decide +kernel
theorem dX6_powerOf_8 : decode cX6_powerOf 8 = .ok (.if_icmp .ge 14, 3) := by decide +kernel
theorem dX6_powerOf_11 : decode cX6_powerOf 11 = .ok (.lload_n 2, 1) := by decide +kernel
theorem dX6_powerOf_12 : decode cX6_powerOf 12 = .ok (.iload_n 0, 1) := by decide +kernel
theorem dX6_powerOf_13 : decode cX6_powerOf 13 = .ok (.i2l, 1) := by decide +kernel
theorem dX6_powerOf_14 : decode cX6_powerOf 14 = .ok (.lmul, 1) := by decide +kernel
theorem dX6_powerOf_15 : decode cX6_powerOf 15 = .ok (.lstore_n 2, 1) := by decide +kernel
theorem dX6_powerOf_16 : decode cX6_powerOf 16 = .ok (.iinc 4 1, 3) := by decide +kernel
theorem dX6_powerOf_19 : decode cX6_powerOf 19 = .ok (.goto (-14), 3) := by decide +kernel
theorem dX6_powerOf_22 : decode cX6_powerOf 22 = .ok (.lload_n 2, 1) := by decide +kernel
theorem dX6_powerOf_23 : decode cX6_powerOf 23 = .ok (.lreturn, 1) := by decide +kernel
