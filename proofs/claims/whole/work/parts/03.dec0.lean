theorem dX0_init_0 : decode cX0_init 0 = .ok (.aload_n 0, 1) := by decide +kernel
theorem dX0_init_1 : decode cX0_init 1 = .ok (.invokespecial 3, 3) := by decide +kernel
theorem dX0_init_4 : decode cX0_init 4 = .ok (.aload_n 0, 1) := by decide +kernel
theorem dX0_init_5 : decode cX0_init 5 = .ok (.iconst 4, 1) := by decide +kernel
theorem dX0_init_6 : decode cX0_init 6 = .ok (.newarray .int, 2) := by decide +kernel
theorem dX0_init_8 : decode cX0_init 8 = .ok (.putfield 9, 3) := by decide +kernel
theorem dX0_init_11 : decode cX0_init 11 = .ok (.return_, 1) := by decide +kernel
theorem dX0_hatch_0 : decode cX0_hatch 0 = .ok (.aload_n 0, 1) := by decide +kernel
theorem dX0_hatch_1 : decode cX0_hatch 1 = .ok (.iload_n 1, 1) := by decide +kernel
theorem dX0_hatch_2 : decode cX0_hatch 2 = .ok (.putfield 15, 3) := by decide +kernel
theorem dX0_hatch_5 : decode cX0_hatch 5 = .ok (.aload_n 0, 1) := by decide +kernel
theorem dX0_hatch_6 : decode cX0_hatch 6 = .ok (.iconst 2, 1) := by decide +kernel
theorem dX0_hatch_7 : decode cX0_hatch 7 = .ok (.putfield 19, 3) := by decide +kernel
theorem dX0_hatch_10 : decode cX0_hatch 10 = .ok (.aload_n 0, 1) := by decide +kernel
theorem dX0_hatch_11 : decode cX0_hatch 11 = .ok (.iconst 1, 1) := by decide +kernel
theorem dX0_hatch_12 : decode cX0_hatch 12 = .ok (.putfield 22, 3) := by decide +kernel
theorem dX0_hatch_15 : decode cX0_hatch 15 = .ok (.aload_n 0, 1) := by decide +kernel
theorem dX0_hatch_16 : decode cX0_hatch 16 = .ok (.getfield 9, 3) := by decide +kernel
theorem dX0_hatch_19 : decode cX0_hatch 19 = .ok (.iconst 0, 1) := by decide +kernel
theorem dX0_hatch_20 : decode cX0_hatch 20 = .ok (.invokestatic 25, 3) := by decide +kernel
theorem dX0_hatch_23 : decode cX0_hatch 23 = .ok (.return_, 1) := by decide +kernel
theorem dX0_become_0 : decode cX0_become 0 = .ok (.aload_n 0, 1) := by decide +kernel
theorem dX0_become_1 : decode cX0_become 1 = .ok (.aload_n 1, 1) := by decide +kernel
theorem dX0_become_2 : decode cX0_become 2 = .ok (.getfield 15, 3) := by decide +kernel
theorem dX0_become_5 : decode cX0_become 5 = .ok (.putfield 15, 3) := by decide +kernel
theorem dX0_become_8 : decode cX0_become 8 = .ok (.aload_n 0, 1) := by decide +kernel
theorem dX0_become_9 : decode cX0_become 9 = .ok (.aload_n 1, 1) := by decide +kernel
theorem dX0_become_10 : decode cX0_become 10 = .ok (.getfield 19, 3) := by decide +kernel
theorem dX0_become_13 : decode cX0_become 13 = .ok (.putfield 19, 3) := by decide +kernel
theorem dX0_become_16 : decode cX0_become 16 = .ok (.aload_n 0, 1) := by decide +kernel
theorem dX0_become_17 : decode cX0_become 17 = .ok (.aload_n 1, 1) := by decide +kernel
theorem dX0_become_18 : decode cX0_become 18 = .ok (.getfield 22, 3) := by decide +kernel
theorem dX0_become_21 : decode cX0_become 21 = .ok (.putfield 22, 3) := by decide +kernel
theorem dX0_become_24 : decode cX0_become 24 = .ok (.aload_n 1, 1) := by decide +kernel
theorem dX0_become_25 : decode cX0_become 25 = .ok (.getfield 9, 3) := by decide +kernel
theorem dX0_become_28 : decode cX0_become 28 = .ok (.iconst 0, 1) := by decide +kernel
theorem dX0_become_29 : decode cX0_become 29 = .ok (.aload_n 0, 1) := by decide +kernel
theorem dX0_become_30 : decode cX0_become 30 = .ok (.getfield 9, 3) := by decide +kernel
theorem dX0_become_33 : decode cX0_become 33 = .ok (.iconst 0, 1) := by decide +kernel
theorem dX0_become_34 : decode cX0_become 34 = .ok (.iconst 4, 1) := by decide +kernel
theorem dX0_become_35 : decode cX0_become 35 = .ok (.invokestatic 31, 3) := by decide +kernel
theorem dX0_become_38 : decode cX0_become 38 = .ok (.return_, 1) := by decide +kernel
theorem dX0_mostOf_0 : decode cX0_mostOf 0 = .ok (.iload_n 0, 1) := by decide +kernel
theorem dX0_mostOf_1 : decode cX0_mostOf 1 = .ok (.tableswitch 36 0 2 #[27, 30, 33], 27) := by decide +kernel
theorem dX0_mostOf_28 : decode cX0_mostOf 28 = .ok (.bipush 6, 2) := by decide +kernel
theorem dX0_mostOf_30 : decode cX0_mostOf 30 = .ok (.ireturn, 1) := by decide +kernel
theorem dX0_mostOf_31 : decode cX0_mostOf 31 = .ok (.bipush 99, 2) := by decide +kernel
theorem dX0_mostOf_33 : decode cX0_mostOf 33 = .ok (.ireturn, 1) := by decide +kernel
theorem dX0_mostOf_34 : decode cX0_mostOf 34 = .ok (.bipush 9, 2) := by decide +kernel
theorem dX0_mostOf_36 : decode cX0_mostOf 36 = .ok (.ireturn, 1) := by decide +kernel
theorem dX0_mostOf_37 : decode cX0_mostOf 37 = .ok (.bipush 99, 2) := by decide +kernel
theorem dX0_mostOf_39 : decode cX0_mostOf 39 = .ok (.ireturn, 1) := by decide +kernel
theorem dX0_feature_0 : decode cX0_feature 0 = .ok (.iload_n 1, 1) := by decide +kernel
theorem dX0_feature_1 : decode cX0_feature 1 = .ok (.tableswitch 84 0 8 #[51, 56, 61, 84, 84, 84, 84, 66, 71], 51) := by decide +kernel
theorem dX0_feature_52 : decode cX0_feature 52 = .ok (.aload_n 0, 1) := by decide +kernel
theorem dX0_feature_53 : decode cX0_feature 53 = .ok (.getfield 15, 3) := by decide +kernel
theorem dX0_feature_56 : decode cX0_feature 56 = .ok (.ireturn, 1) := by decide +kernel
theorem dX0_feature_57 : decode cX0_feature 57 = .ok (.aload_n 0, 1) := by decide +kernel
theorem dX0_feature_58 : decode cX0_feature 58 = .ok (.getfield 19, 3) := by decide +kernel
theorem dX0_feature_61 : decode cX0_feature 61 = .ok (.ireturn, 1) := by decide +kernel
theorem dX0_feature_62 : decode cX0_feature 62 = .ok (.aload_n 0, 1) := by decide +kernel
theorem dX0_feature_63 : decode cX0_feature 63 = .ok (.getfield 22, 3) := by decide +kernel
theorem dX0_feature_66 : decode cX0_feature 66 = .ok (.ireturn, 1) := by decide +kernel
theorem dX0_feature_67 : decode cX0_feature 67 = .ok (.aload_n 0, 1) := by decide +kernel
theorem dX0_feature_68 : decode cX0_feature 68 = .ok (.invokevirtual 37, 3) := by decide +kernel
theorem dX0_feature_71 : decode cX0_feature 71 = .ok (.ireturn, 1) := by decide +kernel
theorem dX0_feature_72 : decode cX0_feature 72 = .ok (.aload_n 0, 1) := by decide +kernel
theorem dX0_feature_73 : decode cX0_feature 73 = .ok (.invokevirtual 41, 3) := by decide +kernel
theorem dX0_feature_76 : decode cX0_feature 76 = .ok (.ifCond .eq 7, 3) := by decide +kernel
theorem dX0_feature_79 : decode cX0_feature 79 = .ok (.iconst 1, 1) := by decide +kernel
theorem dX0_feature_80 : decode cX0_feature 80 = .ok (.goto 4, 3) := by decide +kernel
theorem dX0_feature_83 : decode cX0_feature 83 = .ok (.iconst 0, 1) := by decide +kernel
theorem dX0_feature_84 : decode cX0_feature 84 = .ok (.ireturn, 1) := by decide +kernel
theorem dX0_feature_85 : decode cX0_feature 85 = .ok (.iload_n 1, 1) := by decide +kernel
theorem dX0_feature_86 : decode cX0_feature 86 = .ok (.iconst 3, 1) := by decide +kernel
theorem dX0_feature_87 : decode cX0_feature 87 = .ok (.isub, 1) := by decide +kernel
theorem dX0_feature_88 : decode cX0_feature 88 = .ok (.istore_n 2, 1) := by decide +kernel
theorem dX0_feature_89 : decode cX0_feature 89 = .ok (.iload_n 2, 1) := by decide +kernel
theorem dX0_feature_90 : decode cX0_feature 90 = .ok (.iconst 3, 1) := by decide +kernel
theorem dX0_feature_91 : decode cX0_feature 91 = .ok (.invokestatic 45, 3) := by decide +kernel
theorem dX0_feature_94 : decode cX0_feature 94 = .ok (.ifCond .eq 12, 3) := by decide +kernel
theorem dX0_feature_97 : decode cX0_feature 97 = .ok (.aload_n 0, 1) := by decide +kernel
theorem dX0_feature_98 : decode cX0_feature 98 = .ok (.getfield 9, 3) := by decide +kernel
theorem dX0_feature_101 : decode cX0_feature 101 = .ok (.iload_n 2, 1) := by decide +kernel
theorem dX0_feature_102 : decode cX0_feature 102 = .ok (.iaload, 1) := by decide +kernel
theorem dX0_feature_103 : decode cX0_feature 103 = .ok (.goto 4, 3) := by decide +kernel
theorem dX0_feature_106 : decode cX0_feature 106 = .ok (.iconst 0, 1) := by decide +kernel
theorem dX0_feature_107 : decode cX0_feature 107 = .ok (.ireturn, 1) := by decide +kernel
theorem dX0_setFeature_0 : decode cX0_setFeature 0 = .ok (.iload_n 1, 1) := by decide +kernel
theorem dX0_setFeature_1 : decode cX0_setFeature 1 = .ok (.iconst 3, 1) := by decide +kernel
theorem dX0_setFeature_2 : decode cX0_setFeature 2 = .ok (.isub, 1) := by decide +kernel
theorem dX0_setFeature_3 : decode cX0_setFeature 3 = .ok (.istore_n 3, 1) := by decide +kernel
theorem dX0_setFeature_4 : decode cX0_setFeature 4 = .ok (.iload_n 1, 1) := by decide +kernel
theorem dX0_setFeature_5 : decode cX0_setFeature 5 = .ok (.ifCond .ne 11, 3) := by decide +kernel
theorem dX0_setFeature_8 : decode cX0_setFeature 8 = .ok (.aload_n 0, 1) := by decide +kernel
theorem dX0_setFeature_9 : decode cX0_setFeature 9 = .ok (.iload_n 2, 1) := by decide +kernel
theorem dX0_setFeature_10 : decode cX0_setFeature 10 = .ok (.putfield 15, 3) := by decide +kernel
theorem dX0_setFeature_13 : decode cX0_setFeature 13 = .ok (.goto 44, 3) := by decide +kernel
theorem dX0_setFeature_16 : decode cX0_setFeature 16 = .ok (.iload_n 1, 1) := by decide +kernel
theorem dX0_setFeature_17 : decode cX0_setFeature 17 = .ok (.iconst 1, 1) := by decide +kernel
theorem dX0_setFeature_18 : decode cX0_setFeature 18 = .ok (.if_icmp .ne 11, 3) := by decide +kernel
theorem dX0_setFeature_21 : decode cX0_setFeature 21 = .ok (.aload_n 0, 1) := by decide +kernel
theorem dX0_setFeature_22 : decode cX0_setFeature 22 = .ok (.iload_n 2, 1) := by decide +kernel
theorem dX0_setFeature_23 : decode cX0_setFeature 23 = .ok (.putfield 19, 3) := by decide +kernel
theorem dX0_setFeature_26 : decode cX0_setFeature 26 = .ok (.goto 31, 3) := by decide +kernel
theorem dX0_setFeature_29 : decode cX0_setFeature 29 = .ok (.iload_n 1, 1) := by decide +kernel
theorem dX0_setFeature_30 : decode cX0_setFeature 30 = .ok (.iconst 2, 1) := by decide +kernel
theorem dX0_setFeature_31 : decode cX0_setFeature 31 = .ok (.if_icmp .ne 11, 3) := by decide +kernel
theorem dX0_setFeature_34 : decode cX0_setFeature 34 = .ok (.aload_n 0, 1) := by decide +kernel
theorem dX0_setFeature_35 : decode cX0_setFeature 35 = .ok (.iload_n 2, 1) := by decide +kernel
theorem dX0_setFeature_36 : decode cX0_setFeature 36 = .ok (.putfield 22, 3) := by decide +kernel
theorem dX0_setFeature_39 : decode cX0_setFeature 39 = .ok (.goto 18, 3) := by decide +kernel
theorem dX0_setFeature_42 : decode cX0_setFeature 42 = .ok (.iload_n 3, 1) := by decide +kernel
theorem dX0_setFeature_43 : decode cX0_setFeature 43 = .ok (.iconst 3, 1) := by decide +kernel
theorem dX0_setFeature_44 : decode cX0_setFeature 44 = .ok (.invokestatic 45, 3) := by decide +kernel
theorem dX0_setFeature_47 : decode cX0_setFeature 47 = .ok (.ifCond .eq 10, 3) := by decide +kernel
theorem dX0_setFeature_50 : decode cX0_setFeature 50 = .ok (.aload_n 0, 1) := by decide +kernel
theorem dX0_setFeature_51 : decode cX0_setFeature 51 = .ok (.getfield 9, 3) := by decide +kernel
theorem dX0_setFeature_54 : decode cX0_setFeature 54 = .ok (.iload_n 3, 1) := by decide +kernel
theorem dX0_setFeature_55 : decode cX0_setFeature 55 = .ok (.iload_n 2, 1) := by decide +kernel
theorem dX0_setFeature_56 : decode cX0_setFeature 56 = .ok (.iastore, 1) := by decide +kernel
theorem dX0_setFeature_57 : decode cX0_setFeature 57 = .ok (.return_, 1) := by decide +kernel
theorem dX0_allFeathers_0 : decode cX0_allFeathers 0 = .ok (.iconst 0, 1) := by decide +kernel
theorem dX0_allFeathers_1 : decode cX0_allFeathers 1 = .ok (.istore_n 1, 1) := by decide +kernel
theorem dX0_allFeathers_2 : decode cX0_allFeathers 2 = .ok (.iconst 0, 1) := by decide +kernel
theorem dX0_allFeathers_3 : decode cX0_allFeathers 3 = .ok (.istore_n 2, 1) := by decide +kernel
theorem dX0_allFeathers_4 : decode cX0_allFeathers 4 = .ok (.iload_n 2, 1) := by decide +kernel
theorem dX0_allFeathers_5 : decode cX0_allFeathers 5 = .ok (.iconst 4, 1) := by decide +kernel
theorem dX0_allFeathers_6 : decode cX0_allFeathers 6 = .ok (.if_icmp .ge 18, 3) := by decide +kernel
theorem dX0_allFeathers_9 : decode cX0_allFeathers 9 = .ok (.iload_n 1, 1) := by decide +kernel
theorem dX0_allFeathers_10 : decode cX0_allFeathers 10 = .ok (.aload_n 0, 1) := by decide +kernel
theorem dX0_allFeathers_11 : decode cX0_allFeathers 11 = .ok (.getfield 9, 3) := by decide +kernel
theorem dX0_allFeathers_14 : decode cX0_allFeathers 14 = .ok (.iload_n 2, 1) := by decide +kernel
theorem dX0_allFeathers_15 : decode cX0_allFeathers 15 = .ok (.iaload, 1) := by decide +kernel
theorem dX0_allFeathers_16 : decode cX0_allFeathers 16 = .ok (.iadd, 1) := by decide +kernel
theorem dX0_allFeathers_17 : decode cX0_allFeathers 17 = .ok (.istore_n 1, 1) := by decide +kernel
theorem dX0_allFeathers_18 : decode cX0_allFeathers 18 = .ok (.iinc 2 1, 3) := by decide +kernel
theorem dX0_allFeathers_21 : decode cX0_allFeathers 21 = .ok (.goto (-17), 3) := by decide +kernel
theorem dX0_allFeathers_24 : decode cX0_allFeathers 24 = .ok (.iload_n 1, 1) := by decide +kernel
theorem dX0_allFeathers_25 : decode cX0_allFeathers 25 = .ok (.ireturn, 1) := by decide +kernel
theorem dX0_canFly_0 : decode cX0_canFly 0 = .ok (.aload_n 0, 1) := by decide +kernel
theorem dX0_canFly_1 : decode cX0_canFly 1 = .ok (.invokevirtual 37, 3) := by decide +kernel
theorem dX0_canFly_4 : decode cX0_canFly 4 = .ok (.aload_n 0, 1) := by decide +kernel
theorem dX0_canFly_5 : decode cX0_canFly 5 = .ok (.getfield 19, 3) := by decide +kernel
theorem dX0_canFly_8 : decode cX0_canFly 8 = .ok (.if_icmp .lt 7, 3) := by decide +kernel
theorem dX0_canFly_11 : decode cX0_canFly 11 = .ok (.iconst 1, 1) := by decide +kernel
theorem dX0_canFly_12 : decode cX0_canFly 12 = .ok (.goto 4, 3) := by decide +kernel
theorem dX0_canFly_15 : decode cX0_canFly 15 = .ok (.iconst 0, 1) := by decide +kernel
theorem dX0_canFly_16 : decode cX0_canFly 16 = .ok (.ireturn, 1) := by decide +kernel
theorem dX0_isA_0 : decode cX0_isA 0 = .ok (.aload_n 0, 1) := by decide +kernel
theorem dX0_isA_1 : decode cX0_isA 1 = .ok (.getfield 15, 3) := by decide +kernel
theorem dX0_isA_4 : decode cX0_isA 4 = .ok (.istore_n 2, 1) := by decide +kernel
theorem dX0_isA_5 : decode cX0_isA 5 = .ok (.iconst 0, 1) := by decide +kernel
theorem dX0_isA_6 : decode cX0_isA 6 = .ok (.istore_n 3, 1) := by decide +kernel
theorem dX0_isA_7 : decode cX0_isA 7 = .ok (.iload_n 3, 1) := by decide +kernel
theorem dX0_isA_8 : decode cX0_isA 8 = .ok (.bipush 7, 2) := by decide +kernel
theorem dX0_isA_10 : decode cX0_isA 10 = .ok (.if_icmp .ge 32, 3) := by decide +kernel
theorem dX0_isA_13 : decode cX0_isA 13 = .ok (.iload_n 2, 1) := by decide +kernel
theorem dX0_isA_14 : decode cX0_isA 14 = .ok (.ifCond .lt 28, 3) := by decide +kernel
theorem dX0_isA_17 : decode cX0_isA 17 = .ok (.iload_n 2, 1) := by decide +kernel
theorem dX0_isA_18 : decode cX0_isA 18 = .ok (.bipush 7, 2) := by decide +kernel
theorem dX0_isA_20 : decode cX0_isA 20 = .ok (.if_icmp .ge 22, 3) := by decide +kernel
theorem dX0_isA_23 : decode cX0_isA 23 = .ok (.iload_n 2, 1) := by decide +kernel
theorem dX0_isA_24 : decode cX0_isA 24 = .ok (.iload_n 1, 1) := by decide +kernel
theorem dX0_isA_25 : decode cX0_isA 25 = .ok (.if_icmp .ne 5, 3) := by decide +kernel
theorem dX0_isA_28 : decode cX0_isA 28 = .ok (.iconst 1, 1) := by decide +kernel
theorem dX0_isA_29 : decode cX0_isA 29 = .ok (.ireturn, 1) := by decide +kernel
theorem dX0_isA_30 : decode cX0_isA 30 = .ok (.getstatic 49, 3) := by decide +kernel
theorem dX0_isA_33 : decode cX0_isA 33 = .ok (.iload_n 2, 1) := by decide +kernel
theorem dX0_isA_34 : decode cX0_isA 34 = .ok (.iaload, 1) := by decide +kernel
theorem dX0_isA_35 : decode cX0_isA 35 = .ok (.istore_n 2, 1) := by decide +kernel
theorem dX0_isA_36 : decode cX0_isA 36 = .ok (.iinc 3 1, 3) := by decide +kernel
theorem dX0_isA_39 : decode cX0_isA 39 = .ok (.goto (-32), 3) := by decide +kernel
theorem dX0_isA_42 : decode cX0_isA 42 = .ok (.iconst 0, 1) := by decide +kernel
theorem dX0_isA_43 : decode cX0_isA 43 = .ok (.ireturn, 1) := by decide +kernel
theorem dX0_grow_0 : decode cX0_grow 0 = .ok (.aload_n 0, 1) := by decide +kernel
theorem dX0_grow_1 : decode cX0_grow 1 = .ok (.getfield 9, 3) := by decide +kernel
theorem dX0_grow_4 : decode cX0_grow 4 = .ok (.iload_n 1, 1) := by decide +kernel
theorem dX0_grow_5 : decode cX0_grow 5 = .ok (.bipush 99, 2) := by decide +kernel
theorem dX0_grow_7 : decode cX0_grow 7 = .ok (.aload_n 0, 1) := by decide +kernel
theorem dX0_grow_8 : decode cX0_grow 8 = .ok (.getfield 9, 3) := by decide +kernel
theorem dX0_grow_11 : decode cX0_grow 11 = .ok (.iload_n 1, 1) := by decide +kernel
theorem dX0_grow_12 : decode cX0_grow 12 = .ok (.iaload, 1) := by decide +kernel
theorem dX0_grow_13 : decode cX0_grow 13 = .ok (.aload_n 0, 1) := by decide +kernel
theorem dX0_grow_14 : decode cX0_grow 14 = .ok (.getfield 22, 3) := by decide +kernel
theorem dX0_grow_17 : decode cX0_grow 17 = .ok (.iadd, 1) := by decide +kernel
theorem dX0_grow_18 : decode cX0_grow 18 = .ok (.invokestatic 52, 3) := by decide +kernel
theorem dX0_grow_21 : decode cX0_grow 21 = .ok (.iastore, 1) := by decide +kernel
theorem dX0_grow_22 : decode cX0_grow 22 = .ok (.return_, 1) := by decide +kernel
theorem dX0_dropFor_0 : decode cX0_dropFor 0 = .ok (.aload_n 0, 1) := by decide +kernel
theorem dX0_dropFor_1 : decode cX0_dropFor 1 = .ok (.getfield 15, 3) := by decide +kernel
theorem dX0_dropFor_4 : decode cX0_dropFor 4 = .ok (.tableswitch 130 1 6 #[40, 56, 61, 68, 77, 97], 40) := by decide +kernel
theorem dX0_dropFor_44 : decode cX0_dropFor 44 = .ok (.aload_n 1, 1) := by decide +kernel
theorem dX0_dropFor_45 : decode cX0_dropFor 45 = .ok (.getfield 58, 3) := by decide +kernel
theorem dX0_dropFor_48 : decode cX0_dropFor 48 = .ok (.ifCond .ne 7, 3) := by decide +kernel
theorem dX0_dropFor_51 : decode cX0_dropFor 51 = .ok (.iconst 1, 1) := by decide +kernel
theorem dX0_dropFor_52 : decode cX0_dropFor 52 = .ok (.goto 4, 3) := by decide +kernel
theorem dX0_dropFor_55 : decode cX0_dropFor 55 = .ok (.iconst 0, 1) := by decide +kernel
theorem dX0_dropFor_56 : decode cX0_dropFor 56 = .ok (.istore_n 3, 1) := by decide +kernel
theorem dX0_dropFor_57 : decode cX0_dropFor 57 = .ok (.goto 79, 3) := by decide +kernel
theorem dX0_dropFor_60 : decode cX0_dropFor 60 = .ok (.iload_n 2, 1) := by decide +kernel
theorem dX0_dropFor_61 : decode cX0_dropFor 61 = .ok (.istore_n 3, 1) := by decide +kernel
theorem dX0_dropFor_62 : decode cX0_dropFor 62 = .ok (.goto 74, 3) := by decide +kernel
theorem dX0_dropFor_65 : decode cX0_dropFor 65 = .ok (.iconst 2, 1) := by decide +kernel
theorem dX0_dropFor_66 : decode cX0_dropFor 66 = .ok (.iload_n 2, 1) := by decide +kernel
theorem dX0_dropFor_67 : decode cX0_dropFor 67 = .ok (.imul, 1) := by decide +kernel
theorem dX0_dropFor_68 : decode cX0_dropFor 68 = .ok (.istore_n 3, 1) := by decide +kernel
theorem dX0_dropFor_69 : decode cX0_dropFor 69 = .ok (.goto 67, 3) := by decide +kernel
theorem dX0_dropFor_72 : decode cX0_dropFor 72 = .ok (.iconst 2, 1) := by decide +kernel
theorem dX0_dropFor_73 : decode cX0_dropFor 73 = .ok (.iload_n 2, 1) := by decide +kernel
theorem dX0_dropFor_74 : decode cX0_dropFor 74 = .ok (.imul, 1) := by decide +kernel
theorem dX0_dropFor_75 : decode cX0_dropFor 75 = .ok (.iconst 1, 1) := by decide +kernel
theorem dX0_dropFor_76 : decode cX0_dropFor 76 = .ok (.iadd, 1) := by decide +kernel
theorem dX0_dropFor_77 : decode cX0_dropFor 77 = .ok (.istore_n 3, 1) := by decide +kernel
theorem dX0_dropFor_78 : decode cX0_dropFor 78 = .ok (.goto 58, 3) := by decide +kernel
theorem dX0_dropFor_81 : decode cX0_dropFor 81 = .ok (.aload_n 0, 1) := by decide +kernel
theorem dX0_dropFor_82 : decode cX0_dropFor 82 = .ok (.invokevirtual 37, 3) := by decide +kernel
theorem dX0_dropFor_85 : decode cX0_dropFor 85 = .ok (.aload_n 0, 1) := by decide +kernel
theorem dX0_dropFor_86 : decode cX0_dropFor 86 = .ok (.getfield 19, 3) := by decide +kernel
theorem dX0_dropFor_89 : decode cX0_dropFor 89 = .ok (.if_icmp .le 7, 3) := by decide +kernel
theorem dX0_dropFor_92 : decode cX0_dropFor 92 = .ok (.iconst 1, 1) := by decide +kernel
theorem dX0_dropFor_93 : decode cX0_dropFor 93 = .ok (.goto 4, 3) := by decide +kernel
theorem dX0_dropFor_96 : decode cX0_dropFor 96 = .ok (.iconst 0, 1) := by decide +kernel
theorem dX0_dropFor_97 : decode cX0_dropFor 97 = .ok (.istore_n 3, 1) := by decide +kernel
theorem dX0_dropFor_98 : decode cX0_dropFor 98 = .ok (.goto 38, 3) := by decide +kernel
theorem dX0_dropFor_101 : decode cX0_dropFor 101 = .ok (.aload_n 0, 1) := by decide +kernel
theorem dX0_dropFor_102 : decode cX0_dropFor 102 = .ok (.invokevirtual 37, 3) := by decide +kernel
theorem dX0_dropFor_105 : decode cX0_dropFor 105 = .ok (.aload_n 0, 1) := by decide +kernel
theorem dX0_dropFor_106 : decode cX0_dropFor 106 = .ok (.getfield 19, 3) := by decide +kernel
theorem dX0_dropFor_109 : decode cX0_dropFor 109 = .ok (.if_icmp .le 7, 3) := by decide +kernel
theorem dX0_dropFor_112 : decode cX0_dropFor 112 = .ok (.iconst 1, 1) := by decide +kernel
theorem dX0_dropFor_113 : decode cX0_dropFor 113 = .ok (.goto 4, 3) := by decide +kernel
theorem dX0_dropFor_116 : decode cX0_dropFor 116 = .ok (.iconst 0, 1) := by decide +kernel
theorem dX0_dropFor_117 : decode cX0_dropFor 117 = .ok (.aload_n 1, 1) := by decide +kernel
theorem dX0_dropFor_118 : decode cX0_dropFor 118 = .ok (.getfield 63, 3) := by decide +kernel
theorem dX0_dropFor_121 : decode cX0_dropFor 121 = .ok (.ifCond .ne 7, 3) := by decide +kernel
theorem dX0_dropFor_124 : decode cX0_dropFor 124 = .ok (.iconst 1, 1) := by decide +kernel
theorem dX0_dropFor_125 : decode cX0_dropFor 125 = .ok (.goto 4, 3) := by decide +kernel
theorem dX0_dropFor_128 : decode cX0_dropFor 128 = .ok (.iconst 0, 1) := by decide +kernel
theorem dX0_dropFor_129 : decode cX0_dropFor 129 = .ok (.iadd, 1) := by decide +kernel
theorem dX0_dropFor_130 : decode cX0_dropFor 130 = .ok (.istore_n 3, 1) := by decide +kernel
theorem dX0_dropFor_131 : decode cX0_dropFor 131 = .ok (.goto 5, 3) := by decide +kernel
theorem dX0_dropFor_134 : decode cX0_dropFor 134 = .ok (.iconst 1, 1) := by decide +kernel
theorem dX0_dropFor_135 : decode cX0_dropFor 135 = .ok (.istore_n 3, 1) := by decide +kernel
theorem dX0_dropFor_136 : decode cX0_dropFor 136 = .ok (.aload_n 0, 1) := by decide +kernel
theorem dX0_dropFor_137 : decode cX0_dropFor 137 = .ok (.getfield 9, 3) := by decide +kernel
theorem dX0_dropFor_140 : decode cX0_dropFor 140 = .ok (.aload_n 1, 1) := by decide +kernel
theorem dX0_dropFor_141 : decode cX0_dropFor 141 = .ok (.getfield 58, 3) := by decide +kernel
theorem dX0_dropFor_144 : decode cX0_dropFor 144 = .ok (.iaload, 1) := by decide +kernel
theorem dX0_dropFor_145 : decode cX0_dropFor 145 = .ok (.iload_n 3, 1) := by decide +kernel
theorem dX0_dropFor_146 : decode cX0_dropFor 146 = .ok (.invokestatic 52, 3) := by decide +kernel
theorem dX0_dropFor_149 : decode cX0_dropFor 149 = .ok (.ireturn, 1) := by decide +kernel
theorem dX1_init_0 : decode cX1_init 0 = .ok (.aload_n 0, 1) := by decide +kernel
theorem dX1_init_1 : decode cX1_init 1 = .ok (.invokespecial 3, 3) := by decide +kernel
theorem dX1_init_4 : decode cX1_init 4 = .ok (.return_, 1) := by decide +kernel
theorem dX1_begin_0 : decode cX1_begin 0 = .ok (.aload_n 0, 1) := by decide +kernel
theorem dX1_begin_1 : decode cX1_begin 1 = .ok (.iload_n 1, 1) := by decide +kernel
theorem dX1_begin_2 : decode cX1_begin 2 = .ok (.putfield 9, 3) := by decide +kernel
theorem dX1_begin_5 : decode cX1_begin 5 = .ok (.aload_n 0, 1) := by decide +kernel
theorem dX1_begin_6 : decode cX1_begin 6 = .ok (.iconst 1, 1) := by decide +kernel
theorem dX1_begin_7 : decode cX1_begin 7 = .ok (.putfield 15, 3) := by decide +kernel
theorem dX1_begin_10 : decode cX1_begin 10 = .ok (.aload_n 0, 1) := by decide +kernel
theorem dX1_begin_11 : decode cX1_begin 11 = .ok (.iconst 0, 1) := by decide +kernel
theorem dX1_begin_12 : decode cX1_begin 12 = .ok (.putfield 18, 3) := by decide +kernel
theorem dX1_begin_15 : decode cX1_begin 15 = .ok (.aload_n 0, 1) := by decide +kernel
theorem dX1_begin_16 : decode cX1_begin 16 = .ok (.iconst 0, 1) := by decide +kernel
theorem dX1_begin_17 : decode cX1_begin 17 = .ok (.putfield 21, 3) := by decide +kernel
theorem dX1_begin_20 : decode cX1_begin 20 = .ok (.aload_n 0, 1) := by decide +kernel
theorem dX1_begin_21 : decode cX1_begin 21 = .ok (.iconst 0, 1) := by decide +kernel
theorem dX1_begin_22 : decode cX1_begin 22 = .ok (.putfield 24, 3) := by decide +kernel
theorem dX1_begin_25 : decode cX1_begin 25 = .ok (.return_, 1) := by decide +kernel
theorem dX1_become_0 : decode cX1_become 0 = .ok (.aload_n 0, 1) := by decide +kernel
theorem dX1_become_1 : decode cX1_become 1 = .ok (.aload_n 1, 1) := by decide +kernel
theorem dX1_become_2 : decode cX1_become 2 = .ok (.getfield 9, 3) := by decide +kernel
theorem dX1_become_5 : decode cX1_become 5 = .ok (.putfield 9, 3) := by decide +kernel
theorem dX1_become_8 : decode cX1_become 8 = .ok (.aload_n 0, 1) := by decide +kernel
theorem dX1_become_9 : decode cX1_become 9 = .ok (.aload_n 1, 1) := by decide +kernel
theorem dX1_become_10 : decode cX1_become 10 = .ok (.getfield 15, 3) := by decide +kernel
theorem dX1_become_13 : decode cX1_become 13 = .ok (.putfield 15, 3) := by decide +kernel
theorem dX1_become_16 : decode cX1_become 16 = .ok (.aload_n 0, 1) := by decide +kernel
theorem dX1_become_17 : decode cX1_become 17 = .ok (.aload_n 1, 1) := by decide +kernel
theorem dX1_become_18 : decode cX1_become 18 = .ok (.getfield 18, 3) := by decide +kernel
theorem dX1_become_21 : decode cX1_become 21 = .ok (.putfield 18, 3) := by decide +kernel
theorem dX1_become_24 : decode cX1_become 24 = .ok (.aload_n 0, 1) := by decide +kernel
theorem dX1_become_25 : decode cX1_become 25 = .ok (.aload_n 1, 1) := by decide +kernel
theorem dX1_become_26 : decode cX1_become 26 = .ok (.getfield 21, 3) := by decide +kernel
theorem dX1_become_29 : decode cX1_become 29 = .ok (.putfield 21, 3) := by decide +kernel
theorem dX1_become_32 : decode cX1_become 32 = .ok (.aload_n 0, 1) := by decide +kernel
theorem dX1_become_33 : decode cX1_become 33 = .ok (.aload_n 1, 1) := by decide +kernel
theorem dX1_become_34 : decode cX1_become 34 = .ok (.getfield 24, 3) := by decide +kernel
theorem dX1_become_37 : decode cX1_become 37 = .ok (.putfield 24, 3) := by decide +kernel
theorem dX1_become_40 : decode cX1_become 40 = .ok (.return_, 1) := by decide +kernel
theorem dX1_mostOf_0 : decode cX1_mostOf 0 = .ok (.iload_n 0, 1) := by decide +kernel
theorem dX1_mostOf_1 : decode cX1_mostOf 1 = .ok (.tableswitch 40 0 3 #[31, 33, 36, 38], 31) := by decide +kernel
theorem dX1_mostOf_32 : decode cX1_mostOf 32 = .ok (.iconst 3, 1) := by decide +kernel
theorem dX1_mostOf_33 : decode cX1_mostOf 33 = .ok (.ireturn, 1) := by decide +kernel
theorem dX1_mostOf_34 : decode cX1_mostOf 34 = .ok (.bipush 99, 2) := by decide +kernel
theorem dX1_mostOf_36 : decode cX1_mostOf 36 = .ok (.ireturn, 1) := by decide +kernel
theorem dX1_mostOf_37 : decode cX1_mostOf 37 = .ok (.iload_n 1, 1) := by decide +kernel
theorem dX1_mostOf_38 : decode cX1_mostOf 38 = .ok (.ireturn, 1) := by decide +kernel
theorem dX1_mostOf_39 : decode cX1_mostOf 39 = .ok (.iconst 4, 1) := by decide +kernel
theorem dX1_mostOf_40 : decode cX1_mostOf 40 = .ok (.ireturn, 1) := by decide +kernel
theorem dX1_mostOf_41 : decode cX1_mostOf 41 = .ok (.iconst 1, 1) := by decide +kernel
theorem dX1_mostOf_42 : decode cX1_mostOf 42 = .ok (.ireturn, 1) := by decide +kernel
theorem dX1_feature_0 : decode cX1_feature 0 = .ok (.iload_n 1, 1) := by decide +kernel
theorem dX1_feature_1 : decode cX1_feature 1 = .ok (.tableswitch 51 0 3 #[31, 36, 41, 46], 31) := by decide +kernel
theorem dX1_feature_32 : decode cX1_feature 32 = .ok (.aload_n 0, 1) := by decide +kernel
theorem dX1_feature_33 : decode cX1_feature 33 = .ok (.getfield 9, 3) := by decide +kernel
theorem dX1_feature_36 : decode cX1_feature 36 = .ok (.ireturn, 1) := by decide +kernel
theorem dX1_feature_37 : decode cX1_feature 37 = .ok (.aload_n 0, 1) := by decide +kernel
theorem dX1_feature_38 : decode cX1_feature 38 = .ok (.getfield 15, 3) := by decide +kernel
theorem dX1_feature_41 : decode cX1_feature 41 = .ok (.ireturn, 1) := by decide +kernel
theorem dX1_feature_42 : decode cX1_feature 42 = .ok (.aload_n 0, 1) := by decide +kernel
theorem dX1_feature_43 : decode cX1_feature 43 = .ok (.getfield 18, 3) := by decide +kernel
theorem dX1_feature_46 : decode cX1_feature 46 = .ok (.ireturn, 1) := by decide +kernel
theorem dX1_feature_47 : decode cX1_feature 47 = .ok (.aload_n 0, 1) := by decide +kernel
theorem dX1_feature_48 : decode cX1_feature 48 = .ok (.getfield 21, 3) := by decide +kernel
theorem dX1_feature_51 : decode cX1_feature 51 = .ok (.ireturn, 1) := by decide +kernel
theorem dX1_feature_52 : decode cX1_feature 52 = .ok (.aload_n 0, 1) := by decide +kernel
theorem dX1_feature_53 : decode cX1_feature 53 = .ok (.getfield 24, 3) := by decide +kernel
theorem dX1_feature_56 : decode cX1_feature 56 = .ok (.ireturn, 1) := by decide +kernel
theorem dX1_setFeature_0 : decode cX1_setFeature 0 = .ok (.iload_n 1, 1) := by decide +kernel
theorem dX1_setFeature_1 : decode cX1_setFeature 1 = .ok (.tableswitch 63 0 3 #[31, 39, 47, 55], 31) := by decide +kernel
theorem dX1_setFeature_32 : decode cX1_setFeature 32 = .ok (.aload_n 0, 1) := by decide +kernel
theorem dX1_setFeature_33 : decode cX1_setFeature 33 = .ok (.iload_n 2, 1) := by decide +kernel
theorem dX1_setFeature_34 : decode cX1_setFeature 34 = .ok (.putfield 9, 3) := by decide +kernel
theorem dX1_setFeature_37 : decode cX1_setFeature 37 = .ok (.goto 32, 3) := by decide +kernel
theorem dX1_setFeature_40 : decode cX1_setFeature 40 = .ok (.aload_n 0, 1) := by decide +kernel
theorem dX1_setFeature_41 : decode cX1_setFeature 41 = .ok (.iload_n 2, 1) := by decide +kernel
theorem dX1_setFeature_42 : decode cX1_setFeature 42 = .ok (.putfield 15, 3) := by decide +kernel
theorem dX1_setFeature_45 : decode cX1_setFeature 45 = .ok (.goto 24, 3) := by decide +kernel
theorem dX1_setFeature_48 : decode cX1_setFeature 48 = .ok (.aload_n 0, 1) := by decide +kernel
theorem dX1_setFeature_49 : decode cX1_setFeature 49 = .ok (.iload_n 2, 1) := by decide +kernel
theorem dX1_setFeature_50 : decode cX1_setFeature 50 = .ok (.putfield 18, 3) := by decide +kernel
theorem dX1_setFeature_53 : decode cX1_setFeature 53 = .ok (.goto 16, 3) := by decide +kernel
theorem dX1_setFeature_56 : decode cX1_setFeature 56 = .ok (.aload_n 0, 1) := by decide +kernel
theorem dX1_setFeature_57 : decode cX1_setFeature 57 = .ok (.iload_n 2, 1) := by decide +kernel
theorem dX1_setFeature_58 : decode cX1_setFeature 58 = .ok (.putfield 21, 3) := by decide +kernel
theorem dX1_setFeature_61 : decode cX1_setFeature 61 = .ok (.goto 8, 3) := by decide +kernel
theorem dX1_setFeature_64 : decode cX1_setFeature 64 = .ok (.aload_n 0, 1) := by decide +kernel
theorem dX1_setFeature_65 : decode cX1_setFeature 65 = .ok (.iload_n 2, 1) := by decide +kernel
theorem dX1_setFeature_66 : decode cX1_setFeature 66 = .ok (.putfield 24, 3) := by decide +kernel
theorem dX1_setFeature_69 : decode cX1_setFeature 69 = .ok (.return_, 1) := by decide +kernel
theorem dX1_isCarriedBy_0 : decode cX1_isCarriedBy 0 = .ok (.iload_n 1, 1) := by decide +kernel
theorem dX1_isCarriedBy_1 : decode cX1_isCarriedBy 1 = .ok (.iload_n 2, 1) := by decide +kernel
theorem dX1_isCarriedBy_2 : decode cX1_isCarriedBy 2 = .ok (.if_icmp .le 17, 3) := by decide +kernel
theorem dX1_isCarriedBy_5 : decode cX1_isCarriedBy 5 = .ok (.iload_n 1, 1) := by decide +kernel
theorem dX1_isCarriedBy_6 : decode cX1_isCarriedBy 6 = .ok (.iload_n 2, 1) := by decide +kernel
theorem dX1_isCarriedBy_7 : decode cX1_isCarriedBy 7 = .ok (.iadd, 1) := by decide +kernel
theorem dX1_isCarriedBy_8 : decode cX1_isCarriedBy 8 = .ok (.aload_n 0, 1) := by decide +kernel
theorem dX1_isCarriedBy_9 : decode cX1_isCarriedBy 9 = .ok (.getfield 15, 3) := by decide +kernel
theorem dX1_isCarriedBy_12 : decode cX1_isCarriedBy 12 = .ok (.if_icmp .lt 7, 3) := by decide +kernel
theorem dX1_isCarriedBy_15 : decode cX1_isCarriedBy 15 = .ok (.iconst 1, 1) := by decide +kernel
theorem dX1_isCarriedBy_16 : decode cX1_isCarriedBy 16 = .ok (.goto 4, 3) := by decide +kernel
theorem dX1_isCarriedBy_19 : decode cX1_isCarriedBy 19 = .ok (.iconst 0, 1) := by decide +kernel
theorem dX1_isCarriedBy_20 : decode cX1_isCarriedBy 20 = .ok (.ireturn, 1) := by decide +kernel
theorem dX2_init_0 : decode cX2_init 0 = .ok (.aload_n 0, 1) := by decide +kernel
theorem dX2_init_1 : decode cX2_init 1 = .ok (.invokespecial 3, 3) := by decide +kernel
theorem dX2_init_4 : decode cX2_init 4 = .ok (.aload_n 0, 1) := by decide +kernel
theorem dX2_init_5 : decode cX2_init 5 = .ok (.iconst 5, 1) := by decide +kernel
theorem dX2_init_6 : decode cX2_init 6 = .ok (.newarray .int, 2) := by decide +kernel
theorem dX2_init_8 : decode cX2_init 8 = .ok (.putfield 9, 3) := by decide +kernel
theorem dX2_init_11 : decode cX2_init 11 = .ok (.aload_n 0, 1) := by decide +kernel
theorem dX2_init_12 : decode cX2_init 12 = .ok (.iconst 5, 1) := by decide +kernel
theorem dX2_init_13 : decode cX2_init 13 = .ok (.newarray .int, 2) := by decide +kernel
theorem dX2_init_15 : decode cX2_init 15 = .ok (.putfield 15, 3) := by decide +kernel
theorem dX2_init_18 : decode cX2_init 18 = .ok (.return_, 1) := by decide +kernel
theorem dX2_seek_0 : decode cX2_seek 0 = .ok (.aload_n 0, 1) := by decide +kernel
theorem dX2_seek_1 : decode cX2_seek 1 = .ok (.iload_n 3, 1) := by decide +kernel
theorem dX2_seek_2 : decode cX2_seek 2 = .ok (.invokevirtual 18, 3) := by decide +kernel
theorem dX2_seek_5 : decode cX2_seek 5 = .ok (.aload_n 0, 1) := by decide +kernel
theorem dX2_seek_6 : decode cX2_seek 6 = .ok (.iconst (-1), 1) := by decide +kernel
theorem dX2_seek_7 : decode cX2_seek 7 = .ok (.putfield 22, 3) := by decide +kernel
theorem dX2_seek_10 : decode cX2_seek 10 = .ok (.iconst 1, 1) := by decide +kernel
theorem dX2_seek_11 : decode cX2_seek 11 = .ok (.istore 4, 2) := by decide +kernel
theorem dX2_seek_13 : decode cX2_seek 13 = .ok (.iconst 0, 1) := by decide +kernel
theorem dX2_seek_14 : decode cX2_seek 14 = .ok (.istore 5, 2) := by decide +kernel
theorem dX2_seek_16 : decode cX2_seek 16 = .ok (.iload 5, 2) := by decide +kernel
theorem dX2_seek_18 : decode cX2_seek 18 = .ok (.bipush 120, 2) := by decide +kernel
theorem dX2_seek_20 : decode cX2_seek 20 = .ok (.if_icmp .ge 42, 3) := by decide +kernel
theorem dX2_seek_23 : decode cX2_seek 23 = .ok (.iload 4, 2) := by decide +kernel
theorem dX2_seek_25 : decode cX2_seek 25 = .ok (.ifCond .eq 37, 3) := by decide +kernel
theorem dX2_seek_28 : decode cX2_seek 28 = .ok (.aload_n 2, 1) := by decide +kernel
theorem dX2_seek_29 : decode cX2_seek 29 = .ok (.aload_n 1, 1) := by decide +kernel
theorem dX2_seek_30 : decode cX2_seek 30 = .ok (.invokevirtual 26, 3) := by decide +kernel
theorem dX2_seek_33 : decode cX2_seek 33 = .ok (.aload_n 0, 1) := by decide +kernel
theorem dX2_seek_34 : decode cX2_seek 34 = .ok (.aload_n 2, 1) := by decide +kernel
theorem dX2_seek_35 : decode cX2_seek 35 = .ok (.aload_n 0, 1) := by decide +kernel
theorem dX2_seek_36 : decode cX2_seek 36 = .ok (.getfield 15, 3) := by decide +kernel
theorem dX2_seek_39 : decode cX2_seek 39 = .ok (.aload_n 0, 1) := by decide +kernel
theorem dX2_seek_40 : decode cX2_seek 40 = .ok (.getfield 32, 3) := by decide +kernel
theorem dX2_seek_43 : decode cX2_seek 43 = .ok (.invokevirtual 35, 3) := by decide +kernel
theorem dX2_seek_46 : decode cX2_seek 46 = .ok (.aload_n 2, 1) := by decide +kernel
theorem dX2_seek_47 : decode cX2_seek 47 = .ok (.invokevirtual 39, 3) := by decide +kernel
theorem dX2_seek_50 : decode cX2_seek 50 = .ok (.aload_n 0, 1) := by decide +kernel
theorem dX2_seek_51 : decode cX2_seek 51 = .ok (.invokevirtual 43, 3) := by decide +kernel
theorem dX2_seek_54 : decode cX2_seek 54 = .ok (.istore 4, 2) := by decide +kernel
theorem dX2_seek_56 : decode cX2_seek 56 = .ok (.iinc 5 1, 3) := by decide +kernel
theorem dX2_seek_59 : decode cX2_seek 59 = .ok (.goto (-43), 3) := by decide +kernel
theorem dX2_seek_62 : decode cX2_seek 62 = .ok (.return_, 1) := by decide +kernel
theorem dX2_listMembers_0 : decode cX2_listMembers 0 = .ok (.aload_n 0, 1) := by decide +kernel
theorem dX2_listMembers_1 : decode cX2_listMembers 1 = .ok (.iconst 0, 1) := by decide +kernel
theorem dX2_listMembers_2 : decode cX2_listMembers 2 = .ok (.putfield 32, 3) := by decide +kernel
theorem dX2_listMembers_5 : decode cX2_listMembers 5 = .ok (.iconst 0, 1) := by decide +kernel
theorem dX2_listMembers_6 : decode cX2_listMembers 6 = .ok (.istore_n 2, 1) := by decide +kernel
theorem dX2_listMembers_7 : decode cX2_listMembers 7 = .ok (.iload_n 2, 1) := by decide +kernel
theorem dX2_listMembers_8 : decode cX2_listMembers 8 = .ok (.bipush 8, 2) := by decide +kernel
theorem dX2_listMembers_10 : decode cX2_listMembers 10 = .ok (.if_icmp .ge 45, 3) := by decide +kernel
theorem dX2_listMembers_13 : decode cX2_listMembers 13 = .ok (.aload_n 0, 1) := by decide +kernel
theorem dX2_listMembers_14 : decode cX2_listMembers 14 = .ok (.getfield 32, 3) := by decide +kernel
theorem dX2_listMembers_17 : decode cX2_listMembers 17 = .ok (.iconst 5, 1) := by decide +kernel
theorem dX2_listMembers_18 : decode cX2_listMembers 18 = .ok (.if_icmp .ge 37, 3) := by decide +kernel
theorem dX2_listMembers_21 : decode cX2_listMembers 21 = .ok (.iload_n 1, 1) := by decide +kernel
theorem dX2_listMembers_22 : decode cX2_listMembers 22 = .ok (.iload_n 2, 1) := by decide +kernel
theorem dX2_listMembers_23 : decode cX2_listMembers 23 = .ok (.ishr, 1) := by decide +kernel
theorem dX2_listMembers_24 : decode cX2_listMembers 24 = .ok (.iconst 1, 1) := by decide +kernel
theorem dX2_listMembers_25 : decode cX2_listMembers 25 = .ok (.iand, 1) := by decide +kernel
theorem dX2_listMembers_26 : decode cX2_listMembers 26 = .ok (.ifCond .eq 23, 3) := by decide +kernel
theorem dX2_listMembers_29 : decode cX2_listMembers 29 = .ok (.aload_n 0, 1) := by decide +kernel
theorem dX2_listMembers_30 : decode cX2_listMembers 30 = .ok (.getfield 15, 3) := by decide +kernel
theorem dX2_listMembers_33 : decode cX2_listMembers 33 = .ok (.aload_n 0, 1) := by decide +kernel
theorem dX2_listMembers_34 : decode cX2_listMembers 34 = .ok (.getfield 32, 3) := by decide +kernel
theorem dX2_listMembers_37 : decode cX2_listMembers 37 = .ok (.iload_n 2, 1) := by decide +kernel
theorem dX2_listMembers_38 : decode cX2_listMembers 38 = .ok (.iastore, 1) := by decide +kernel
theorem dX2_listMembers_39 : decode cX2_listMembers 39 = .ok (.aload_n 0, 1) := by decide +kernel
theorem dX2_listMembers_40 : decode cX2_listMembers 40 = .ok (.dup, 1) := by decide +kernel
theorem dX2_listMembers_41 : decode cX2_listMembers 41 = .ok (.getfield 32, 3) := by decide +kernel
theorem dX2_listMembers_44 : decode cX2_listMembers 44 = .ok (.iconst 1, 1) := by decide +kernel
theorem dX2_listMembers_45 : decode cX2_listMembers 45 = .ok (.iadd, 1) := by decide +kernel
theorem dX2_listMembers_46 : decode cX2_listMembers 46 = .ok (.putfield 32, 3) := by decide +kernel
theorem dX2_listMembers_49 : decode cX2_listMembers 49 = .ok (.iinc 2 1, 3) := by decide +kernel
theorem dX2_listMembers_52 : decode cX2_listMembers 52 = .ok (.goto (-45), 3) := by decide +kernel
theorem dX2_listMembers_55 : decode cX2_listMembers 55 = .ok (.return_, 1) := by decide +kernel
theorem dX2_weigh_0 : decode cX2_weigh 0 = .ok (.iload_n 1, 1) := by decide +kernel
theorem dX2_weigh_1 : decode cX2_weigh 1 = .ok (.aload_n 0, 1) := by decide +kernel
theorem dX2_weigh_2 : decode cX2_weigh 2 = .ok (.getfield 22, 3) := by decide +kernel
theorem dX2_weigh_5 : decode cX2_weigh 5 = .ok (.if_icmp .le 41, 3) := by decide +kernel
theorem dX2_weigh_8 : decode cX2_weigh 8 = .ok (.aload_n 0, 1) := by decide +kernel
theorem dX2_weigh_9 : decode cX2_weigh 9 = .ok (.iload_n 1, 1) := by decide +kernel
theorem dX2_weigh_10 : decode cX2_weigh 10 = .ok (.putfield 22, 3) := by decide +kernel
theorem dX2_weigh_13 : decode cX2_weigh 13 = .ok (.aload_n 0, 1) := by decide +kernel
theorem dX2_weigh_14 : decode cX2_weigh 14 = .ok (.iconst 1, 1) := by decide +kernel
theorem dX2_weigh_15 : decode cX2_weigh 15 = .ok (.putfield 47, 3) := by decide +kernel
theorem dX2_weigh_18 : decode cX2_weigh 18 = .ok (.aload_n 0, 1) := by decide +kernel
theorem dX2_weigh_19 : decode cX2_weigh 19 = .ok (.aload_n 2, 1) := by decide +kernel
theorem dX2_weigh_20 : decode cX2_weigh 20 = .ok (.invokevirtual 50, 3) := by decide +kernel
theorem dX2_weigh_23 : decode cX2_weigh 23 = .ok (.putfield 54, 3) := by decide +kernel
theorem dX2_weigh_26 : decode cX2_weigh 26 = .ok (.aload_n 0, 1) := by decide +kernel
theorem dX2_weigh_27 : decode cX2_weigh 27 = .ok (.getfield 15, 3) := by decide +kernel
theorem dX2_weigh_30 : decode cX2_weigh 30 = .ok (.iconst 0, 1) := by decide +kernel
theorem dX2_weigh_31 : decode cX2_weigh 31 = .ok (.aload_n 0, 1) := by decide +kernel
theorem dX2_weigh_32 : decode cX2_weigh 32 = .ok (.getfield 9, 3) := by decide +kernel
theorem dX2_weigh_35 : decode cX2_weigh 35 = .ok (.iconst 0, 1) := by decide +kernel
theorem dX2_weigh_36 : decode cX2_weigh 36 = .ok (.aload_n 0, 1) := by decide +kernel
theorem dX2_weigh_37 : decode cX2_weigh 37 = .ok (.getfield 32, 3) := by decide +kernel
theorem dX2_weigh_40 : decode cX2_weigh 40 = .ok (.invokestatic 57, 3) := by decide +kernel
theorem dX2_weigh_43 : decode cX2_weigh 43 = .ok (.goto 21, 3) := by decide +kernel
theorem dX2_weigh_46 : decode cX2_weigh 46 = .ok (.iload_n 1, 1) := by decide +kernel
theorem dX2_weigh_47 : decode cX2_weigh 47 = .ok (.aload_n 0, 1) := by decide +kernel
theorem dX2_weigh_48 : decode cX2_weigh 48 = .ok (.getfield 22, 3) := by decide +kernel
theorem dX2_weigh_51 : decode cX2_weigh 51 = .ok (.if_icmp .ne 13, 3) := by decide +kernel
theorem dX2_weigh_54 : decode cX2_weigh 54 = .ok (.aload_n 0, 1) := by decide +kernel
theorem dX2_weigh_55 : decode cX2_weigh 55 = .ok (.dup, 1) := by decide +kernel
theorem dX2_weigh_56 : decode cX2_weigh 56 = .ok (.getfield 47, 3) := by decide +kernel
theorem dX2_weigh_59 : decode cX2_weigh 59 = .ok (.iconst 1, 1) := by decide +kernel
theorem dX2_weigh_60 : decode cX2_weigh 60 = .ok (.iadd, 1) := by decide +kernel
theorem dX2_weigh_61 : decode cX2_weigh 61 = .ok (.putfield 47, 3) := by decide +kernel
theorem dX2_weigh_64 : decode cX2_weigh 64 = .ok (.return_, 1) := by decide +kernel
theorem dX2_stepOrder_0 : decode cX2_stepOrder 0 = .ok (.aload_n 0, 1) := by decide +kernel
theorem dX2_stepOrder_1 : decode cX2_stepOrder 1 = .ok (.getfield 32, 3) := by decide +kernel
theorem dX2_stepOrder_4 : decode cX2_stepOrder 4 = .ok (.iconst 2, 1) := by decide +kernel
theorem dX2_stepOrder_5 : decode cX2_stepOrder 5 = .ok (.isub, 1) := by decide +kernel
theorem dX2_stepOrder_6 : decode cX2_stepOrder 6 = .ok (.istore_n 1, 1) := by decide +kernel
theorem dX2_stepOrder_7 : decode cX2_stepOrder 7 = .ok (.iload_n 1, 1) := by decide +kernel
theorem dX2_stepOrder_8 : decode cX2_stepOrder 8 = .ok (.ifCond .lt 26, 3) := by decide +kernel
theorem dX2_stepOrder_11 : decode cX2_stepOrder 11 = .ok (.aload_n 0, 1) := by decide +kernel
theorem dX2_stepOrder_12 : decode cX2_stepOrder 12 = .ok (.getfield 15, 3) := by decide +kernel
theorem dX2_stepOrder_15 : decode cX2_stepOrder 15 = .ok (.iload_n 1, 1) := by decide +kernel
theorem dX2_stepOrder_16 : decode cX2_stepOrder 16 = .ok (.iaload, 1) := by decide +kernel
theorem dX2_stepOrder_17 : decode cX2_stepOrder 17 = .ok (.aload_n 0, 1) := by decide +kernel
theorem dX2_stepOrder_18 : decode cX2_stepOrder 18 = .ok (.getfield 15, 3) := by decide +kernel
theorem dX2_stepOrder_21 : decode cX2_stepOrder 21 = .ok (.iload_n 1, 1) := by decide +kernel
theorem dX2_stepOrder_22 : decode cX2_stepOrder 22 = .ok (.iconst 1, 1) := by decide +kernel
theorem dX2_stepOrder_23 : decode cX2_stepOrder 23 = .ok (.iadd, 1) := by decide +kernel
theorem dX2_stepOrder_24 : decode cX2_stepOrder 24 = .ok (.iaload, 1) := by decide +kernel
theorem dX2_stepOrder_25 : decode cX2_stepOrder 25 = .ok (.if_icmp .le 9, 3) := by decide +kernel
theorem dX2_stepOrder_28 : decode cX2_stepOrder 28 = .ok (.iinc 1 (-1), 3) := by decide +kernel
theorem dX2_stepOrder_31 : decode cX2_stepOrder 31 = .ok (.goto (-24), 3) := by decide +kernel
theorem dX2_stepOrder_34 : decode cX2_stepOrder 34 = .ok (.iload_n 1, 1) := by decide +kernel
theorem dX2_stepOrder_35 : decode cX2_stepOrder 35 = .ok (.ifCond .ge 5, 3) := by decide +kernel
theorem dX2_stepOrder_38 : decode cX2_stepOrder 38 = .ok (.iconst 0, 1) := by decide +kernel
theorem dX2_stepOrder_39 : decode cX2_stepOrder 39 = .ok (.ireturn, 1) := by decide +kernel
theorem dX2_stepOrder_40 : decode cX2_stepOrder 40 = .ok (.aload_n 0, 1) := by decide +kernel
theorem dX2_stepOrder_41 : decode cX2_stepOrder 41 = .ok (.getfield 32, 3) := by decide +kernel
theorem dX2_stepOrder_44 : decode cX2_stepOrder 44 = .ok (.iconst 1, 1) := by decide +kernel
theorem dX2_stepOrder_45 : decode cX2_stepOrder 45 = .ok (.isub, 1) := by decide +kernel
theorem dX2_stepOrder_46 : decode cX2_stepOrder 46 = .ok (.istore_n 2, 1) := by decide +kernel
theorem dX2_stepOrder_47 : decode cX2_stepOrder 47 = .ok (.iload_n 2, 1) := by decide +kernel
theorem dX2_stepOrder_48 : decode cX2_stepOrder 48 = .ok (.iload_n 1, 1) := by decide +kernel
theorem dX2_stepOrder_49 : decode cX2_stepOrder 49 = .ok (.if_icmp .le 24, 3) := by decide +kernel
theorem dX2_stepOrder_52 : decode cX2_stepOrder 52 = .ok (.aload_n 0, 1) := by decide +kernel
theorem dX2_stepOrder_53 : decode cX2_stepOrder 53 = .ok (.getfield 15, 3) := by decide +kernel
theorem dX2_stepOrder_56 : decode cX2_stepOrder 56 = .ok (.iload_n 2, 1) := by decide +kernel
theorem dX2_stepOrder_57 : decode cX2_stepOrder 57 = .ok (.iaload, 1) := by decide +kernel
theorem dX2_stepOrder_58 : decode cX2_stepOrder 58 = .ok (.aload_n 0, 1) := by decide +kernel
theorem dX2_stepOrder_59 : decode cX2_stepOrder 59 = .ok (.getfield 15, 3) := by decide +kernel
theorem dX2_stepOrder_62 : decode cX2_stepOrder 62 = .ok (.iload_n 1, 1) := by decide +kernel
theorem dX2_stepOrder_63 : decode cX2_stepOrder 63 = .ok (.iaload, 1) := by decide +kernel
theorem dX2_stepOrder_64 : decode cX2_stepOrder 64 = .ok (.if_icmp .ge 9, 3) := by decide +kernel
theorem dX2_stepOrder_67 : decode cX2_stepOrder 67 = .ok (.iinc 2 (-1), 3) := by decide +kernel
theorem dX2_stepOrder_70 : decode cX2_stepOrder 70 = .ok (.goto (-23), 3) := by decide +kernel
theorem dX2_stepOrder_73 : decode cX2_stepOrder 73 = .ok (.aload_n 0, 1) := by decide +kernel
theorem dX2_stepOrder_74 : decode cX2_stepOrder 74 = .ok (.iload_n 1, 1) := by decide +kernel
theorem dX2_stepOrder_75 : decode cX2_stepOrder 75 = .ok (.iload_n 2, 1) := by decide +kernel
theorem dX2_stepOrder_76 : decode cX2_stepOrder 76 = .ok (.invokevirtual 63, 3) := by decide +kernel
theorem dX2_stepOrder_79 : decode cX2_stepOrder 79 = .ok (.iload_n 1, 1) := by decide +kernel
theorem dX2_stepOrder_80 : decode cX2_stepOrder 80 = .ok (.iconst 1, 1) := by decide +kernel
theorem dX2_stepOrder_81 : decode cX2_stepOrder 81 = .ok (.iadd, 1) := by decide +kernel
theorem dX2_stepOrder_82 : decode cX2_stepOrder 82 = .ok (.istore_n 3, 1) := by decide +kernel
theorem dX2_stepOrder_83 : decode cX2_stepOrder 83 = .ok (.aload_n 0, 1) := by decide +kernel
theorem dX2_stepOrder_84 : decode cX2_stepOrder 84 = .ok (.getfield 32, 3) := by decide +kernel
theorem dX2_stepOrder_87 : decode cX2_stepOrder 87 = .ok (.iconst 1, 1) := by decide +kernel
theorem dX2_stepOrder_88 : decode cX2_stepOrder 88 = .ok (.isub, 1) := by decide +kernel
theorem dX2_stepOrder_89 : decode cX2_stepOrder 89 = .ok (.istore 4, 2) := by decide +kernel
theorem dX2_stepOrder_91 : decode cX2_stepOrder 91 = .ok (.iload_n 3, 1) := by decide +kernel
theorem dX2_stepOrder_92 : decode cX2_stepOrder 92 = .ok (.iload 4, 2) := by decide +kernel
theorem dX2_stepOrder_94 : decode cX2_stepOrder 94 = .ok (.if_icmp .ge 19, 3) := by decide +kernel
theorem dX2_stepOrder_97 : decode cX2_stepOrder 97 = .ok (.aload_n 0, 1) := by decide +kernel
theorem dX2_stepOrder_98 : decode cX2_stepOrder 98 = .ok (.iload_n 3, 1) := by decide +kernel
theorem dX2_stepOrder_99 : decode cX2_stepOrder 99 = .ok (.iload 4, 2) := by decide +kernel
theorem dX2_stepOrder_101 : decode cX2_stepOrder 101 = .ok (.invokevirtual 63, 3) := by decide +kernel
theorem dX2_stepOrder_104 : decode cX2_stepOrder 104 = .ok (.iinc 3 1, 3) := by decide +kernel
theorem dX2_stepOrder_107 : decode cX2_stepOrder 107 = .ok (.iinc 4 (-1), 3) := by decide +kernel
theorem dX2_stepOrder_110 : decode cX2_stepOrder 110 = .ok (.goto (-19), 3) := by decide +kernel
theorem dX2_stepOrder_113 : decode cX2_stepOrder 113 = .ok (.iconst 1, 1) := by decide +kernel
theorem dX2_stepOrder_114 : decode cX2_stepOrder 114 = .ok (.ireturn, 1) := by decide +kernel
theorem dX2_swap_0 : decode cX2_swap 0 = .ok (.aload_n 0, 1) := by decide +kernel
theorem dX2_swap_1 : decode cX2_swap 1 = .ok (.getfield 15, 3) := by decide +kernel
theorem dX2_swap_4 : decode cX2_swap 4 = .ok (.iload_n 1, 1) := by decide +kernel
theorem dX2_swap_5 : decode cX2_swap 5 = .ok (.iaload, 1) := by decide +kernel
theorem dX2_swap_6 : decode cX2_swap 6 = .ok (.istore_n 3, 1) := by decide +kernel
theorem dX2_swap_7 : decode cX2_swap 7 = .ok (.aload_n 0, 1) := by decide +kernel
theorem dX2_swap_8 : decode cX2_swap 8 = .ok (.getfield 15, 3) := by decide +kernel
theorem dX2_swap_11 : decode cX2_swap 11 = .ok (.iload_n 1, 1) := by decide +kernel
theorem dX2_swap_12 : decode cX2_swap 12 = .ok (.aload_n 0, 1) := by decide +kernel
theorem dX2_swap_13 : decode cX2_swap 13 = .ok (.getfield 15, 3) := by decide +kernel
theorem dX2_swap_16 : decode cX2_swap 16 = .ok (.iload_n 2, 1) := by decide +kernel
theorem dX2_swap_17 : decode cX2_swap 17 = .ok (.iaload, 1) := by decide +kernel
theorem dX2_swap_18 : decode cX2_swap 18 = .ok (.iastore, 1) := by decide +kernel
theorem dX2_swap_19 : decode cX2_swap 19 = .ok (.aload_n 0, 1) := by decide +kernel
theorem dX2_swap_20 : decode cX2_swap 20 = .ok (.getfield 15, 3) := by decide +kernel
theorem dX2_swap_23 : decode cX2_swap 23 = .ok (.iload_n 2, 1) := by decide +kernel
theorem dX2_swap_24 : decode cX2_swap 24 = .ok (.iload_n 3, 1) := by decide +kernel
theorem dX2_swap_25 : decode cX2_swap 25 = .ok (.iastore, 1) := by decide +kernel
theorem dX2_swap_26 : decode cX2_swap 26 = .ok (.return_, 1) := by decide +kernel
theorem dX3_init_0 : decode cX3_init 0 = .ok (.aload_n 0, 1) := by decide +kernel
theorem dX3_init_1 : decode cX3_init 1 = .ok (.invokespecial 3, 3) := by decide +kernel
theorem dX3_init_4 : decode cX3_init 4 = .ok (.aload_n 0, 1) := by decide +kernel
theorem dX3_init_5 : decode cX3_init 5 = .ok (.iconst 0, 1) := by decide +kernel
theorem dX3_init_6 : decode cX3_init 6 = .ok (.putfield 9, 3) := by decide +kernel
theorem dX3_init_9 : decode cX3_init 9 = .ok (.aload_n 0, 1) := by decide +kernel
theorem dX3_init_10 : decode cX3_init 10 = .ok (.iconst 0, 1) := by decide +kernel
theorem dX3_init_11 : decode cX3_init 11 = .ok (.putfield 15, 3) := by decide +kernel
theorem dX3_init_14 : decode cX3_init 14 = .ok (.aload_n 0, 1) := by decide +kernel
theorem dX3_init_15 : decode cX3_init 15 = .ok (.bipush 40, 2) := by decide +kernel
theorem dX3_init_17 : decode cX3_init 17 = .ok (.newarray .int, 2) := by decide +kernel
theorem dX3_init_19 : decode cX3_init 19 = .ok (.putfield 18, 3) := by decide +kernel
theorem dX3_init_22 : decode cX3_init 22 = .ok (.return_, 1) := by decide +kernel
theorem dX3_hasBits_0 : decode cX3_hasBits 0 = .ok (.iload_n 0, 1) := by decide +kernel
theorem dX3_hasBits_1 : decode cX3_hasBits 1 = .ok (.ifCond .eq 21, 3) := by decide +kernel
theorem dX3_hasBits_4 : decode cX3_hasBits 4 = .ok (.iload_n 0, 1) := by decide +kernel
theorem dX3_hasBits_5 : decode cX3_hasBits 5 = .ok (.bipush 8, 2) := by decide +kernel
theorem dX3_hasBits_7 : decode cX3_hasBits 7 = .ok (.if_icmp .eq 15, 3) := by decide +kernel
theorem dX3_hasBits_10 : decode cX3_hasBits 10 = .ok (.iload_n 0, 1) := by decide +kernel
theorem dX3_hasBits_11 : decode cX3_hasBits 11 = .ok (.bipush 16, 2) := by decide +kernel
theorem dX3_hasBits_13 : decode cX3_hasBits 13 = .ok (.if_icmp .eq 9, 3) := by decide +kernel
theorem dX3_hasBits_16 : decode cX3_hasBits 16 = .ok (.iload_n 0, 1) := by decide +kernel
theorem dX3_hasBits_17 : decode cX3_hasBits 17 = .ok (.bipush 32, 2) := by decide +kernel
theorem dX3_hasBits_19 : decode cX3_hasBits 19 = .ok (.if_icmp .ne 7, 3) := by decide +kernel
theorem dX3_hasBits_22 : decode cX3_hasBits 22 = .ok (.iconst 1, 1) := by decide +kernel
theorem dX3_hasBits_23 : decode cX3_hasBits 23 = .ok (.goto 4, 3) := by decide +kernel
theorem dX3_hasBits_26 : decode cX3_hasBits 26 = .ok (.iconst 0, 1) := by decide +kernel
theorem dX3_hasBits_27 : decode cX3_hasBits 27 = .ok (.ireturn, 1) := by decide +kernel
theorem dX3_begin_0 : decode cX3_begin 0 = .ok (.aload_n 0, 1) := by decide +kernel
theorem dX3_begin_1 : decode cX3_begin 1 = .ok (.iload_n 1, 1) := by decide +kernel
theorem dX3_begin_2 : decode cX3_begin 2 = .ok (.putfield 9, 3) := by decide +kernel
theorem dX3_begin_5 : decode cX3_begin 5 = .ok (.aload_n 0, 1) := by decide +kernel
theorem dX3_begin_6 : decode cX3_begin 6 = .ok (.iload_n 1, 1) := by decide +kernel
theorem dX3_begin_7 : decode cX3_begin 7 = .ok (.ifCond .ne 7, 3) := by decide +kernel
theorem dX3_begin_10 : decode cX3_begin 10 = .ok (.iconst 0, 1) := by decide +kernel
theorem dX3_begin_11 : decode cX3_begin 11 = .ok (.goto 4, 3) := by decide +kernel
theorem dX3_begin_14 : decode cX3_begin 14 = .ok (.iload_n 2, 1) := by decide +kernel
theorem dX3_begin_15 : decode cX3_begin 15 = .ok (.putfield 15, 3) := by decide +kernel
theorem dX3_begin_18 : decode cX3_begin 18 = .ok (.aload_n 0, 1) := by decide +kernel
theorem dX3_begin_19 : decode cX3_begin 19 = .ok (.getfield 18, 3) := by decide +kernel
theorem dX3_begin_22 : decode cX3_begin 22 = .ok (.iconst 0, 1) := by decide +kernel
theorem dX3_begin_23 : decode cX3_begin 23 = .ok (.invokestatic 22, 3) := by decide +kernel
theorem dX3_begin_26 : decode cX3_begin 26 = .ok (.return_, 1) := by decide +kernel
theorem dX3_isMissing_0 : decode cX3_isMissing 0 = .ok (.aload_n 0, 1) := by decide +kernel
theorem dX3_isMissing_1 : decode cX3_isMissing 1 = .ok (.getfield 9, 3) := by decide +kernel
theorem dX3_isMissing_4 : decode cX3_isMissing 4 = .ok (.ifCond .ne 7, 3) := by decide +kernel
theorem dX3_isMissing_7 : decode cX3_isMissing 7 = .ok (.iconst 1, 1) := by decide +kernel
theorem dX3_isMissing_8 : decode cX3_isMissing 8 = .ok (.goto 4, 3) := by decide +kernel
theorem dX3_isMissing_11 : decode cX3_isMissing 11 = .ok (.iconst 0, 1) := by decide +kernel
theorem dX3_isMissing_12 : decode cX3_isMissing 12 = .ok (.ireturn, 1) := by decide +kernel
theorem dX3_put_0 : decode cX3_put 0 = .ok (.iload_n 1, 1) := by decide +kernel
theorem dX3_put_1 : decode cX3_put 1 = .ok (.aload_n 0, 1) := by decide +kernel
theorem dX3_put_2 : decode cX3_put 2 = .ok (.getfield 15, 3) := by decide +kernel
theorem dX3_put_5 : decode cX3_put 5 = .ok (.iconst 1, 1) := by decide +kernel
theorem dX3_put_6 : decode cX3_put 6 = .ok (.isub, 1) := by decide +kernel
theorem dX3_put_7 : decode cX3_put 7 = .ok (.invokestatic 28, 3) := by decide +kernel
theorem dX3_put_10 : decode cX3_put 10 = .ok (.ifCond .eq 38, 3) := by decide +kernel
theorem dX3_put_13 : decode cX3_put 13 = .ok (.aload_n 0, 1) := by decide +kernel
theorem dX3_put_14 : decode cX3_put 14 = .ok (.getfield 18, 3) := by decide +kernel
theorem dX3_put_17 : decode cX3_put 17 = .ok (.iload_n 1, 1) := by decide +kernel
theorem dX3_put_18 : decode cX3_put 18 = .ok (.aload_n 0, 1) := by decide +kernel
theorem dX3_put_19 : decode cX3_put 19 = .ok (.getfield 9, 3) := by decide +kernel
theorem dX3_put_22 : decode cX3_put 22 = .ok (.bipush 8, 2) := by decide +kernel
theorem dX3_put_24 : decode cX3_put 24 = .ok (.if_icmp .ne 8, 3) := by decide +kernel
theorem dX3_put_27 : decode cX3_put 27 = .ok (.iload_n 2, 1) := by decide +kernel
theorem dX3_put_28 : decode cX3_put 28 = .ok (.i2b, 1) := by decide +kernel
theorem dX3_put_29 : decode cX3_put 29 = .ok (.goto 18, 3) := by decide +kernel
theorem dX3_put_32 : decode cX3_put 32 = .ok (.aload_n 0, 1) := by decide +kernel
theorem dX3_put_33 : decode cX3_put 33 = .ok (.getfield 9, 3) := by decide +kernel
theorem dX3_put_36 : decode cX3_put 36 = .ok (.bipush 16, 2) := by decide +kernel
theorem dX3_put_38 : decode cX3_put 38 = .ok (.if_icmp .ne 8, 3) := by decide +kernel
theorem dX3_put_41 : decode cX3_put 41 = .ok (.iload_n 2, 1) := by decide +kernel
theorem dX3_put_42 : decode cX3_put 42 = .ok (.i2s, 1) := by decide +kernel
theorem dX3_put_43 : decode cX3_put 43 = .ok (.goto 4, 3) := by decide +kernel
theorem dX3_put_46 : decode cX3_put 46 = .ok (.iload_n 2, 1) := by decide +kernel
theorem dX3_put_47 : decode cX3_put 47 = .ok (.iastore, 1) := by decide +kernel
theorem dX3_put_48 : decode cX3_put 48 = .ok (.return_, 1) := by decide +kernel
theorem dX3_allows_0 : decode cX3_allows 0 = .ok (.iload_n 1, 1) := by decide +kernel
theorem dX3_allows_1 : decode cX3_allows 1 = .ok (.aload_n 0, 1) := by decide +kernel
theorem dX3_allows_2 : decode cX3_allows 2 = .ok (.getfield 15, 3) := by decide +kernel
theorem dX3_allows_5 : decode cX3_allows 5 = .ok (.iconst 1, 1) := by decide +kernel
theorem dX3_allows_6 : decode cX3_allows 6 = .ok (.isub, 1) := by decide +kernel
theorem dX3_allows_7 : decode cX3_allows 7 = .ok (.invokestatic 28, 3) := by decide +kernel
theorem dX3_allows_10 : decode cX3_allows 10 = .ok (.ifCond .eq 13, 3) := by decide +kernel
theorem dX3_allows_13 : decode cX3_allows 13 = .ok (.aload_n 0, 1) := by decide +kernel
theorem dX3_allows_14 : decode cX3_allows 14 = .ok (.getfield 18, 3) := by decide +kernel
theorem dX3_allows_17 : decode cX3_allows 17 = .ok (.iload_n 1, 1) := by decide +kernel
theorem dX3_allows_18 : decode cX3_allows 18 = .ok (.iaload, 1) := by decide +kernel
theorem dX3_allows_19 : decode cX3_allows 19 = .ok (.iload_n 2, 1) := by decide +kernel
theorem dX3_allows_20 : decode cX3_allows 20 = .ok (.if_icmp .ne 7, 3) := by decide +kernel
theorem dX3_allows_23 : decode cX3_allows 23 = .ok (.iconst 1, 1) := by decide +kernel
theorem dX3_allows_24 : decode cX3_allows 24 = .ok (.goto 4, 3) := by decide +kernel
theorem dX3_allows_27 : decode cX3_allows 27 = .ok (.iconst 0, 1) := by decide +kernel
theorem dX3_allows_28 : decode cX3_allows 28 = .ok (.ireturn, 1) := by decide +kernel
theorem dX3_hasRange_0 : decode cX3_hasRange 0 = .ok (.iload_n 1, 1) := by decide +kernel
theorem dX3_hasRange_1 : decode cX3_hasRange 1 = .ok (.ifCond .lt 29, 3) := by decide +kernel
theorem dX3_hasRange_4 : decode cX3_hasRange 4 = .ok (.iload_n 2, 1) := by decide +kernel
theorem dX3_hasRange_5 : decode cX3_hasRange 5 = .ok (.ifCond .lt 25, 3) := by decide +kernel
theorem dX3_hasRange_8 : decode cX3_hasRange 8 = .ok (.iload_n 1, 1) := by decide +kernel
theorem dX3_hasRange_9 : decode cX3_hasRange 9 = .ok (.aload_n 0, 1) := by decide +kernel
theorem dX3_hasRange_10 : decode cX3_hasRange 10 = .ok (.getfield 15, 3) := by decide +kernel
theorem dX3_hasRange_13 : decode cX3_hasRange 13 = .ok (.if_icmp .gt 17, 3) := by decide +kernel
theorem dX3_hasRange_16 : decode cX3_hasRange 16 = .ok (.iload_n 2, 1) := by decide +kernel
theorem dX3_hasRange_17 : decode cX3_hasRange 17 = .ok (.aload_n 0, 1) := by decide +kernel
theorem dX3_hasRange_18 : decode cX3_hasRange 18 = .ok (.getfield 15, 3) := by decide +kernel
theorem dX3_hasRange_21 : decode cX3_hasRange 21 = .ok (.iload_n 1, 1) := by decide +kernel
theorem dX3_hasRange_22 : decode cX3_hasRange 22 = .ok (.isub, 1) := by decide +kernel
theorem dX3_hasRange_23 : decode cX3_hasRange 23 = .ok (.if_icmp .gt 7, 3) := by decide +kernel
theorem dX3_hasRange_26 : decode cX3_hasRange 26 = .ok (.iconst 1, 1) := by decide +kernel
theorem dX3_hasRange_27 : decode cX3_hasRange 27 = .ok (.goto 4, 3) := by decide +kernel
theorem dX3_hasRange_30 : decode cX3_hasRange 30 = .ok (.iconst 0, 1) := by decide +kernel
theorem dX3_hasRange_31 : decode cX3_hasRange 31 = .ok (.ireturn, 1) := by decide +kernel
