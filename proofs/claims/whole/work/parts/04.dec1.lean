theorem dX4_init_0 : decode cX4_init 0 = .ok (.aload_n 0, 1) := by decide +kernel
theorem dX4_init_1 : decode cX4_init 1 = .ok (.invokespecial 3, 3) := by decide +kernel
theorem dX4_init_4 : decode cX4_init 4 = .ok (.aload_n 0, 1) := by decide +kernel
theorem dX4_init_5 : decode cX4_init 5 = .ok (.bipush 8, 2) := by decide +kernel
theorem dX4_init_7 : decode cX4_init 7 = .ok (.anewarray 9, 3) := by decide +kernel
theorem dX4_init_10 : decode cX4_init 10 = .ok (.putfield 11, 3) := by decide +kernel
theorem dX4_init_13 : decode cX4_init 13 = .ok (.aload_n 0, 1) := by decide +kernel
theorem dX4_init_14 : decode cX4_init 14 = .ok (.bipush 8, 2) := by decide +kernel
theorem dX4_init_16 : decode cX4_init 16 = .ok (.anewarray 17, 3) := by decide +kernel
theorem dX4_init_19 : decode cX4_init 19 = .ok (.putfield 19, 3) := by decide +kernel
theorem dX4_init_22 : decode cX4_init 22 = .ok (.aload_n 0, 1) := by decide +kernel
theorem dX4_init_23 : decode cX4_init 23 = .ok (.iconst 4, 1) := by decide +kernel
theorem dX4_init_24 : decode cX4_init 24 = .ok (.newarray .int, 2) := by decide +kernel
theorem dX4_init_26 : decode cX4_init 26 = .ok (.putfield 23, 3) := by decide +kernel
theorem dX4_init_29 : decode cX4_init 29 = .ok (.aload_n 0, 1) := by decide +kernel
theorem dX4_init_30 : decode cX4_init 30 = .ok (.bipush 10, 2) := by decide +kernel
theorem dX4_init_32 : decode cX4_init 32 = .ok (.newarray .int, 2) := by decide +kernel
theorem dX4_init_34 : decode cX4_init 34 = .ok (.putfield 27, 3) := by decide +kernel
theorem dX4_init_37 : decode cX4_init 37 = .ok (.aload_n 0, 1) := by decide +kernel
theorem dX4_init_38 : decode cX4_init 38 = .ok (.iconst 0, 1) := by decide +kernel
theorem dX4_init_39 : decode cX4_init 39 = .ok (.putfield 30, 3) := by decide +kernel
theorem dX4_init_42 : decode cX4_init 42 = .ok (.aload_n 0, 1) := by decide +kernel
theorem dX4_init_43 : decode cX4_init 43 = .ok (.iconst 0, 1) := by decide +kernel
theorem dX4_init_44 : decode cX4_init 44 = .ok (.putfield 34, 3) := by decide +kernel
theorem dX4_init_47 : decode cX4_init 47 = .ok (.aload_n 0, 1) := by decide +kernel
theorem dX4_init_48 : decode cX4_init 48 = .ok (.iconst 0, 1) := by decide +kernel
theorem dX4_init_49 : decode cX4_init 49 = .ok (.putfield 37, 3) := by decide +kernel
theorem dX4_init_52 : decode cX4_init 52 = .ok (.aload_n 0, 1) := by decide +kernel
theorem dX4_init_53 : decode cX4_init 53 = .ok (.iconst 1, 1) := by decide +kernel
theorem dX4_init_54 : decode cX4_init 54 = .ok (.putfield 40, 3) := by decide +kernel
theorem dX4_init_57 : decode cX4_init 57 = .ok (.iconst 0, 1) := by decide +kernel
theorem dX4_init_58 : decode cX4_init 58 = .ok (.istore_n 1, 1) := by decide +kernel
theorem dX4_init_59 : decode cX4_init 59 = .ok (.iload_n 1, 1) := by decide +kernel
theorem dX4_init_60 : decode cX4_init 60 = .ok (.bipush 8, 2) := by decide +kernel
theorem dX4_init_62 : decode cX4_init 62 = .ok (.if_icmp .ge 22, 3) := by decide +kernel
theorem dX4_init_65 : decode cX4_init 65 = .ok (.aload_n 0, 1) := by decide +kernel
theorem dX4_init_66 : decode cX4_init 66 = .ok (.getfield 11, 3) := by decide +kernel
theorem dX4_init_69 : decode cX4_init 69 = .ok (.iload_n 1, 1) := by decide +kernel
theorem dX4_init_70 : decode cX4_init 70 = .ok (.new 9, 3) := by decide +kernel
theorem dX4_init_73 : decode cX4_init 73 = .ok (.dup, 1) := by decide +kernel
theorem dX4_init_74 : decode cX4_init 74 = .ok (.invokespecial 43, 3) := by decide +kernel
theorem dX4_init_77 : decode cX4_init 77 = .ok (.aastore, 1) := by decide +kernel
theorem dX4_init_78 : decode cX4_init 78 = .ok (.iinc 1 1, 3) := by decide +kernel
theorem dX4_init_81 : decode cX4_init 81 = .ok (.goto (-22), 3) := by decide +kernel
theorem dX4_init_84 : decode cX4_init 84 = .ok (.iconst 0, 1) := by decide +kernel
theorem dX4_init_85 : decode cX4_init 85 = .ok (.istore_n 1, 1) := by decide +kernel
theorem dX4_init_86 : decode cX4_init 86 = .ok (.iload_n 1, 1) := by decide +kernel
theorem dX4_init_87 : decode cX4_init 87 = .ok (.bipush 8, 2) := by decide +kernel
theorem dX4_init_89 : decode cX4_init 89 = .ok (.if_icmp .ge 22, 3) := by decide +kernel
theorem dX4_init_92 : decode cX4_init 92 = .ok (.aload_n 0, 1) := by decide +kernel
theorem dX4_init_93 : decode cX4_init 93 = .ok (.getfield 19, 3) := by decide +kernel
theorem dX4_init_96 : decode cX4_init 96 = .ok (.iload_n 1, 1) := by decide +kernel
theorem dX4_init_97 : decode cX4_init 97 = .ok (.new 17, 3) := by decide +kernel
theorem dX4_init_100 : decode cX4_init 100 = .ok (.dup, 1) := by decide +kernel
theorem dX4_init_101 : decode cX4_init 101 = .ok (.invokespecial 44, 3) := by decide +kernel
theorem dX4_init_104 : decode cX4_init 104 = .ok (.aastore, 1) := by decide +kernel
theorem dX4_init_105 : decode cX4_init 105 = .ok (.iinc 1 1, 3) := by decide +kernel
theorem dX4_init_108 : decode cX4_init 108 = .ok (.goto (-22), 3) := by decide +kernel
theorem dX4_init_111 : decode cX4_init 111 = .ok (.aload_n 0, 1) := by decide +kernel
theorem dX4_init_112 : decode cX4_init 112 = .ok (.getfield 27, 3) := by decide +kernel
theorem dX4_init_115 : decode cX4_init 115 = .ok (.iconst (-1), 1) := by decide +kernel
theorem dX4_init_116 : decode cX4_init 116 = .ok (.invokestatic 45, 3) := by decide +kernel
theorem dX4_init_119 : decode cX4_init 119 = .ok (.return_, 1) := by decide +kernel
theorem dX4_become_0 : decode cX4_become 0 = .ok (.aload_n 0, 1) := by decide +kernel
theorem dX4_become_1 : decode cX4_become 1 = .ok (.aload_n 1, 1) := by decide +kernel
theorem dX4_become_2 : decode cX4_become 2 = .ok (.getfield 30, 3) := by decide +kernel
theorem dX4_become_5 : decode cX4_become 5 = .ok (.putfield 30, 3) := by decide +kernel
theorem dX4_become_8 : decode cX4_become 8 = .ok (.aload_n 0, 1) := by decide +kernel
theorem dX4_become_9 : decode cX4_become 9 = .ok (.aload_n 1, 1) := by decide +kernel
theorem dX4_become_10 : decode cX4_become 10 = .ok (.getfield 34, 3) := by decide +kernel
theorem dX4_become_13 : decode cX4_become 13 = .ok (.putfield 34, 3) := by decide +kernel
theorem dX4_become_16 : decode cX4_become 16 = .ok (.aload_n 0, 1) := by decide +kernel
theorem dX4_become_17 : decode cX4_become 17 = .ok (.aload_n 1, 1) := by decide +kernel
theorem dX4_become_18 : decode cX4_become 18 = .ok (.getfield 37, 3) := by decide +kernel
theorem dX4_become_21 : decode cX4_become 21 = .ok (.putfield 37, 3) := by decide +kernel
theorem dX4_become_24 : decode cX4_become 24 = .ok (.aload_n 0, 1) := by decide +kernel
theorem dX4_become_25 : decode cX4_become 25 = .ok (.aload_n 1, 1) := by decide +kernel
theorem dX4_become_26 : decode cX4_become 26 = .ok (.getfield 40, 3) := by decide +kernel
theorem dX4_become_29 : decode cX4_become 29 = .ok (.putfield 40, 3) := by decide +kernel
theorem dX4_become_32 : decode cX4_become 32 = .ok (.iconst 0, 1) := by decide +kernel
theorem dX4_become_33 : decode cX4_become 33 = .ok (.istore_n 2, 1) := by decide +kernel
theorem dX4_become_34 : decode cX4_become 34 = .ok (.iload_n 2, 1) := by decide +kernel
theorem dX4_become_35 : decode cX4_become 35 = .ok (.aload_n 0, 1) := by decide +kernel
theorem dX4_become_36 : decode cX4_become 36 = .ok (.getfield 30, 3) := by decide +kernel
theorem dX4_become_39 : decode cX4_become 39 = .ok (.if_icmp .ge 24, 3) := by decide +kernel
theorem dX4_become_42 : decode cX4_become 42 = .ok (.aload_n 0, 1) := by decide +kernel
theorem dX4_become_43 : decode cX4_become 43 = .ok (.getfield 11, 3) := by decide +kernel
theorem dX4_become_46 : decode cX4_become 46 = .ok (.iload_n 2, 1) := by decide +kernel
theorem dX4_become_47 : decode cX4_become 47 = .ok (.aaload, 1) := by decide +kernel
theorem dX4_become_48 : decode cX4_become 48 = .ok (.aload_n 1, 1) := by decide +kernel
theorem dX4_become_49 : decode cX4_become 49 = .ok (.getfield 11, 3) := by decide +kernel
theorem dX4_become_52 : decode cX4_become 52 = .ok (.iload_n 2, 1) := by decide +kernel
theorem dX4_become_53 : decode cX4_become 53 = .ok (.aaload, 1) := by decide +kernel
theorem dX4_become_54 : decode cX4_become 54 = .ok (.invokevirtual 51, 3) := by decide +kernel
theorem dX4_become_57 : decode cX4_become 57 = .ok (.iinc 2 1, 3) := by decide +kernel
theorem dX4_become_60 : decode cX4_become 60 = .ok (.goto (-26), 3) := by decide +kernel
theorem dX4_become_63 : decode cX4_become 63 = .ok (.iconst 0, 1) := by decide +kernel
theorem dX4_become_64 : decode cX4_become 64 = .ok (.istore_n 2, 1) := by decide +kernel
theorem dX4_become_65 : decode cX4_become 65 = .ok (.iload_n 2, 1) := by decide +kernel
theorem dX4_become_66 : decode cX4_become 66 = .ok (.aload_n 0, 1) := by decide +kernel
theorem dX4_become_67 : decode cX4_become 67 = .ok (.getfield 34, 3) := by decide +kernel
theorem dX4_become_70 : decode cX4_become 70 = .ok (.if_icmp .ge 24, 3) := by decide +kernel
theorem dX4_become_73 : decode cX4_become 73 = .ok (.aload_n 0, 1) := by decide +kernel
theorem dX4_become_74 : decode cX4_become 74 = .ok (.getfield 19, 3) := by decide +kernel
theorem dX4_become_77 : decode cX4_become 77 = .ok (.iload_n 2, 1) := by decide +kernel
theorem dX4_become_78 : decode cX4_become 78 = .ok (.aaload, 1) := by decide +kernel
theorem dX4_become_79 : decode cX4_become 79 = .ok (.aload_n 1, 1) := by decide +kernel
theorem dX4_become_80 : decode cX4_become 80 = .ok (.getfield 19, 3) := by decide +kernel
theorem dX4_become_83 : decode cX4_become 83 = .ok (.iload_n 2, 1) := by decide +kernel
theorem dX4_become_84 : decode cX4_become 84 = .ok (.aaload, 1) := by decide +kernel
theorem dX4_become_85 : decode cX4_become 85 = .ok (.invokevirtual 55, 3) := by decide +kernel
theorem dX4_become_88 : decode cX4_become 88 = .ok (.iinc 2 1, 3) := by decide +kernel
theorem dX4_become_91 : decode cX4_become 91 = .ok (.goto (-26), 3) := by decide +kernel
theorem dX4_become_94 : decode cX4_become 94 = .ok (.aload_n 1, 1) := by decide +kernel
theorem dX4_become_95 : decode cX4_become 95 = .ok (.getfield 23, 3) := by decide +kernel
theorem dX4_become_98 : decode cX4_become 98 = .ok (.iconst 0, 1) := by decide +kernel
theorem dX4_become_99 : decode cX4_become 99 = .ok (.aload_n 0, 1) := by decide +kernel
theorem dX4_become_100 : decode cX4_become 100 = .ok (.getfield 23, 3) := by decide +kernel
theorem dX4_become_103 : decode cX4_become 103 = .ok (.iconst 0, 1) := by decide +kernel
theorem dX4_become_104 : decode cX4_become 104 = .ok (.iconst 4, 1) := by decide +kernel
theorem dX4_become_105 : decode cX4_become 105 = .ok (.invokestatic 58, 3) := by decide +kernel
theorem dX4_become_108 : decode cX4_become 108 = .ok (.aload_n 1, 1) := by decide +kernel
theorem dX4_become_109 : decode cX4_become 109 = .ok (.getfield 27, 3) := by decide +kernel
theorem dX4_become_112 : decode cX4_become 112 = .ok (.iconst 0, 1) := by decide +kernel
theorem dX4_become_113 : decode cX4_become 113 = .ok (.aload_n 0, 1) := by decide +kernel
theorem dX4_become_114 : decode cX4_become 114 = .ok (.getfield 27, 3) := by decide +kernel
theorem dX4_become_117 : decode cX4_become 117 = .ok (.iconst 0, 1) := by decide +kernel
theorem dX4_become_118 : decode cX4_become 118 = .ok (.bipush 10, 2) := by decide +kernel
theorem dX4_become_120 : decode cX4_become 120 = .ok (.invokestatic 58, 3) := by decide +kernel
theorem dX4_become_123 : decode cX4_become 123 = .ok (.return_, 1) := by decide +kernel
theorem dX4_hasBird_0 : decode cX4_hasBird 0 = .ok (.iload_n 1, 1) := by decide +kernel
theorem dX4_hasBird_1 : decode cX4_hasBird 1 = .ok (.aload_n 0, 1) := by decide +kernel
theorem dX4_hasBird_2 : decode cX4_hasBird 2 = .ok (.getfield 30, 3) := by decide +kernel
theorem dX4_hasBird_5 : decode cX4_hasBird 5 = .ok (.iconst 1, 1) := by decide +kernel
theorem dX4_hasBird_6 : decode cX4_hasBird 6 = .ok (.isub, 1) := by decide +kernel
theorem dX4_hasBird_7 : decode cX4_hasBird 7 = .ok (.invokestatic 64, 3) := by decide +kernel
theorem dX4_hasBird_10 : decode cX4_hasBird 10 = .ok (.ireturn, 1) := by decide +kernel
theorem dX4_hasMotion_0 : decode cX4_hasMotion 0 = .ok (.iload_n 1, 1) := by decide +kernel
theorem dX4_hasMotion_1 : decode cX4_hasMotion 1 = .ok (.aload_n 0, 1) := by decide +kernel
theorem dX4_hasMotion_2 : decode cX4_hasMotion 2 = .ok (.getfield 34, 3) := by decide +kernel
theorem dX4_hasMotion_5 : decode cX4_hasMotion 5 = .ok (.iconst 1, 1) := by decide +kernel
theorem dX4_hasMotion_6 : decode cX4_hasMotion 6 = .ok (.isub, 1) := by decide +kernel
theorem dX4_hasMotion_7 : decode cX4_hasMotion 7 = .ok (.invokestatic 64, 3) := by decide +kernel
theorem dX4_hasMotion_10 : decode cX4_hasMotion 10 = .ok (.ireturn, 1) := by decide +kernel
theorem dX4_allBirds_0 : decode cX4_allBirds 0 = .ok (.iconst 1, 1) := by decide +kernel
theorem dX4_allBirds_1 : decode cX4_allBirds 1 = .ok (.aload_n 0, 1) := by decide +kernel
theorem dX4_allBirds_2 : decode cX4_allBirds 2 = .ok (.getfield 30, 3) := by decide +kernel
theorem dX4_allBirds_5 : decode cX4_allBirds 5 = .ok (.ishl, 1) := by decide +kernel
theorem dX4_allBirds_6 : decode cX4_allBirds 6 = .ok (.iconst 1, 1) := by decide +kernel
theorem dX4_allBirds_7 : decode cX4_allBirds 7 = .ok (.isub, 1) := by decide +kernel
theorem dX4_allBirds_8 : decode cX4_allBirds 8 = .ok (.ireturn, 1) := by decide +kernel
theorem dX4_allMotions_0 : decode cX4_allMotions 0 = .ok (.iconst 1, 1) := by decide +kernel
theorem dX4_allMotions_1 : decode cX4_allMotions 1 = .ok (.aload_n 0, 1) := by decide +kernel
theorem dX4_allMotions_2 : decode cX4_allMotions 2 = .ok (.getfield 34, 3) := by decide +kernel
theorem dX4_allMotions_5 : decode cX4_allMotions 5 = .ok (.ishl, 1) := by decide +kernel
theorem dX4_allMotions_6 : decode cX4_allMotions 6 = .ok (.iconst 1, 1) := by decide +kernel
theorem dX4_allMotions_7 : decode cX4_allMotions 7 = .ok (.isub, 1) := by decide +kernel
theorem dX4_allMotions_8 : decode cX4_allMotions 8 = .ok (.ireturn, 1) := by decide +kernel
theorem dX4_addBird_0 : decode cX4_addBird 0 = .ok (.aload_n 0, 1) := by decide +kernel
theorem dX4_addBird_1 : decode cX4_addBird 1 = .ok (.getfield 30, 3) := by decide +kernel
theorem dX4_addBird_4 : decode cX4_addBird 4 = .ok (.bipush 8, 2) := by decide +kernel
theorem dX4_addBird_6 : decode cX4_addBird 6 = .ok (.if_icmp .lt 5, 3) := by decide +kernel
theorem dX4_addBird_9 : decode cX4_addBird 9 = .ok (.iconst (-1), 1) := by decide +kernel
theorem dX4_addBird_10 : decode cX4_addBird 10 = .ok (.ireturn, 1) := by decide +kernel
theorem dX4_addBird_11 : decode cX4_addBird 11 = .ok (.aload_n 0, 1) := by decide +kernel
theorem dX4_addBird_12 : decode cX4_addBird 12 = .ok (.getfield 11, 3) := by decide +kernel
theorem dX4_addBird_15 : decode cX4_addBird 15 = .ok (.aload_n 0, 1) := by decide +kernel
theorem dX4_addBird_16 : decode cX4_addBird 16 = .ok (.getfield 30, 3) := by decide +kernel
theorem dX4_addBird_19 : decode cX4_addBird 19 = .ok (.aaload, 1) := by decide +kernel
theorem dX4_addBird_20 : decode cX4_addBird 20 = .ok (.iload_n 1, 1) := by decide +kernel
theorem dX4_addBird_21 : decode cX4_addBird 21 = .ok (.invokevirtual 68, 3) := by decide +kernel
theorem dX4_addBird_24 : decode cX4_addBird 24 = .ok (.aload_n 0, 1) := by decide +kernel
theorem dX4_addBird_25 : decode cX4_addBird 25 = .ok (.dup, 1) := by decide +kernel
theorem dX4_addBird_26 : decode cX4_addBird 26 = .ok (.getfield 30, 3) := by decide +kernel
theorem dX4_addBird_29 : decode cX4_addBird 29 = .ok (.iconst 1, 1) := by decide +kernel
theorem dX4_addBird_30 : decode cX4_addBird 30 = .ok (.iadd, 1) := by decide +kernel
theorem dX4_addBird_31 : decode cX4_addBird 31 = .ok (.putfield 30, 3) := by decide +kernel
theorem dX4_addBird_34 : decode cX4_addBird 34 = .ok (.aload_n 0, 1) := by decide +kernel
theorem dX4_addBird_35 : decode cX4_addBird 35 = .ok (.getfield 30, 3) := by decide +kernel
theorem dX4_addBird_38 : decode cX4_addBird 38 = .ok (.iconst 1, 1) := by decide +kernel
theorem dX4_addBird_39 : decode cX4_addBird 39 = .ok (.isub, 1) := by decide +kernel
theorem dX4_addBird_40 : decode cX4_addBird 40 = .ok (.ireturn, 1) := by decide +kernel
theorem dX4_addMotion_0 : decode cX4_addMotion 0 = .ok (.aload_n 0, 1) := by decide +kernel
theorem dX4_addMotion_1 : decode cX4_addMotion 1 = .ok (.getfield 34, 3) := by decide +kernel
theorem dX4_addMotion_4 : decode cX4_addMotion 4 = .ok (.bipush 8, 2) := by decide +kernel
theorem dX4_addMotion_6 : decode cX4_addMotion 6 = .ok (.if_icmp .lt 5, 3) := by decide +kernel
theorem dX4_addMotion_9 : decode cX4_addMotion 9 = .ok (.iconst (-1), 1) := by decide +kernel
theorem dX4_addMotion_10 : decode cX4_addMotion 10 = .ok (.ireturn, 1) := by decide +kernel
theorem dX4_addMotion_11 : decode cX4_addMotion 11 = .ok (.aload_n 0, 1) := by decide +kernel
theorem dX4_addMotion_12 : decode cX4_addMotion 12 = .ok (.getfield 19, 3) := by decide +kernel
theorem dX4_addMotion_15 : decode cX4_addMotion 15 = .ok (.aload_n 0, 1) := by decide +kernel
theorem dX4_addMotion_16 : decode cX4_addMotion 16 = .ok (.getfield 34, 3) := by decide +kernel
theorem dX4_addMotion_19 : decode cX4_addMotion 19 = .ok (.aaload, 1) := by decide +kernel
theorem dX4_addMotion_20 : decode cX4_addMotion 20 = .ok (.iload_n 1, 1) := by decide +kernel
theorem dX4_addMotion_21 : decode cX4_addMotion 21 = .ok (.invokevirtual 72, 3) := by decide +kernel
theorem dX4_addMotion_24 : decode cX4_addMotion 24 = .ok (.aload_n 0, 1) := by decide +kernel
theorem dX4_addMotion_25 : decode cX4_addMotion 25 = .ok (.dup, 1) := by decide +kernel
theorem dX4_addMotion_26 : decode cX4_addMotion 26 = .ok (.getfield 34, 3) := by decide +kernel
theorem dX4_addMotion_29 : decode cX4_addMotion 29 = .ok (.iconst 1, 1) := by decide +kernel
theorem dX4_addMotion_30 : decode cX4_addMotion 30 = .ok (.iadd, 1) := by decide +kernel
theorem dX4_addMotion_31 : decode cX4_addMotion 31 = .ok (.putfield 34, 3) := by decide +kernel
theorem dX4_addMotion_34 : decode cX4_addMotion 34 = .ok (.aload_n 0, 1) := by decide +kernel
theorem dX4_addMotion_35 : decode cX4_addMotion 35 = .ok (.getfield 34, 3) := by decide +kernel
theorem dX4_addMotion_38 : decode cX4_addMotion 38 = .ok (.iconst 1, 1) := by decide +kernel
theorem dX4_addMotion_39 : decode cX4_addMotion 39 = .ok (.isub, 1) := by decide +kernel
theorem dX4_addMotion_40 : decode cX4_addMotion 40 = .ok (.ireturn, 1) := by decide +kernel
theorem dX4_allFeathers_0 : decode cX4_allFeathers 0 = .ok (.iconst 0, 1) := by decide +kernel
theorem dX4_allFeathers_1 : decode cX4_allFeathers 1 = .ok (.istore_n 1, 1) := by decide +kernel
theorem dX4_allFeathers_2 : decode cX4_allFeathers 2 = .ok (.iconst 0, 1) := by decide +kernel
theorem dX4_allFeathers_3 : decode cX4_allFeathers 3 = .ok (.istore_n 2, 1) := by decide +kernel
theorem dX4_allFeathers_4 : decode cX4_allFeathers 4 = .ok (.iload_n 2, 1) := by decide +kernel
theorem dX4_allFeathers_5 : decode cX4_allFeathers 5 = .ok (.aload_n 0, 1) := by decide +kernel
theorem dX4_allFeathers_6 : decode cX4_allFeathers 6 = .ok (.getfield 30, 3) := by decide +kernel
theorem dX4_allFeathers_9 : decode cX4_allFeathers 9 = .ok (.if_icmp .ge 21, 3) := by decide +kernel
theorem dX4_allFeathers_12 : decode cX4_allFeathers 12 = .ok (.iload_n 1, 1) := by decide +kernel
theorem dX4_allFeathers_13 : decode cX4_allFeathers 13 = .ok (.aload_n 0, 1) := by decide +kernel
theorem dX4_allFeathers_14 : decode cX4_allFeathers 14 = .ok (.getfield 11, 3) := by decide +kernel
theorem dX4_allFeathers_17 : decode cX4_allFeathers 17 = .ok (.iload_n 2, 1) := by decide +kernel
theorem dX4_allFeathers_18 : decode cX4_allFeathers 18 = .ok (.aaload, 1) := by decide +kernel
theorem dX4_allFeathers_19 : decode cX4_allFeathers 19 = .ok (.invokevirtual 75, 3) := by decide +kernel
theorem dX4_allFeathers_22 : decode cX4_allFeathers 22 = .ok (.iadd, 1) := by decide +kernel
theorem dX4_allFeathers_23 : decode cX4_allFeathers 23 = .ok (.istore_n 1, 1) := by decide +kernel
theorem dX4_allFeathers_24 : decode cX4_allFeathers 24 = .ok (.iinc 2 1, 3) := by decide +kernel
theorem dX4_allFeathers_27 : decode cX4_allFeathers 27 = .ok (.goto (-23), 3) := by decide +kernel
theorem dX4_allFeathers_30 : decode cX4_allFeathers 30 = .ok (.iload_n 1, 1) := by decide +kernel
theorem dX4_allFeathers_31 : decode cX4_allFeathers 31 = .ok (.ireturn, 1) := by decide +kernel
theorem dX4_laws_0 : decode cX4_laws 0 = .ok (.iconst 0, 1) := by decide +kernel
theorem dX4_laws_1 : decode cX4_laws 1 = .ok (.istore_n 1, 1) := by decide +kernel
theorem dX4_laws_2 : decode cX4_laws 2 = .ok (.iconst 0, 1) := by decide +kernel
theorem dX4_laws_3 : decode cX4_laws 3 = .ok (.istore_n 2, 1) := by decide +kernel
theorem dX4_laws_4 : decode cX4_laws 4 = .ok (.iload_n 2, 1) := by decide +kernel
theorem dX4_laws_5 : decode cX4_laws 5 = .ok (.aload_n 0, 1) := by decide +kernel
theorem dX4_laws_6 : decode cX4_laws 6 = .ok (.getfield 34, 3) := by decide +kernel
theorem dX4_laws_9 : decode cX4_laws 9 = .ok (.if_icmp .ge 23, 3) := by decide +kernel
theorem dX4_laws_12 : decode cX4_laws 12 = .ok (.iload_n 1, 1) := by decide +kernel
theorem dX4_laws_13 : decode cX4_laws 13 = .ok (.aload_n 0, 1) := by decide +kernel
theorem dX4_laws_14 : decode cX4_laws 14 = .ok (.getfield 19, 3) := by decide +kernel
theorem dX4_laws_17 : decode cX4_laws 17 = .ok (.iload_n 2, 1) := by decide +kernel
theorem dX4_laws_18 : decode cX4_laws 18 = .ok (.aaload, 1) := by decide +kernel
theorem dX4_laws_19 : decode cX4_laws 19 = .ok (.getfield 79, 3) := by decide +kernel
theorem dX4_laws_22 : decode cX4_laws 22 = .ok (.iload_n 2, 1) := by decide +kernel
theorem dX4_laws_23 : decode cX4_laws 23 = .ok (.ishl, 1) := by decide +kernel
theorem dX4_laws_24 : decode cX4_laws 24 = .ok (.ior, 1) := by decide +kernel
theorem dX4_laws_25 : decode cX4_laws 25 = .ok (.istore_n 1, 1) := by decide +kernel
theorem dX4_laws_26 : decode cX4_laws 26 = .ok (.iinc 2 1, 3) := by decide +kernel
theorem dX4_laws_29 : decode cX4_laws 29 = .ok (.goto (-25), 3) := by decide +kernel
theorem dX4_laws_32 : decode cX4_laws 32 = .ok (.iload_n 1, 1) := by decide +kernel
theorem dX4_laws_33 : decode cX4_laws 33 = .ok (.ireturn, 1) := by decide +kernel
theorem dX4_flyers_0 : decode cX4_flyers 0 = .ok (.iconst 0, 1) := by decide +kernel
theorem dX4_flyers_1 : decode cX4_flyers 1 = .ok (.istore_n 1, 1) := by decide +kernel
theorem dX4_flyers_2 : decode cX4_flyers 2 = .ok (.iconst 0, 1) := by decide +kernel
theorem dX4_flyers_3 : decode cX4_flyers 3 = .ok (.istore_n 2, 1) := by decide +kernel
theorem dX4_flyers_4 : decode cX4_flyers 4 = .ok (.iload_n 2, 1) := by decide +kernel
theorem dX4_flyers_5 : decode cX4_flyers 5 = .ok (.aload_n 0, 1) := by decide +kernel
theorem dX4_flyers_6 : decode cX4_flyers 6 = .ok (.getfield 30, 3) := by decide +kernel
theorem dX4_flyers_9 : decode cX4_flyers 9 = .ok (.if_icmp .ge 27, 3) := by decide +kernel
theorem dX4_flyers_12 : decode cX4_flyers 12 = .ok (.aload_n 0, 1) := by decide +kernel
theorem dX4_flyers_13 : decode cX4_flyers 13 = .ok (.getfield 11, 3) := by decide +kernel
theorem dX4_flyers_16 : decode cX4_flyers 16 = .ok (.iload_n 2, 1) := by decide +kernel
theorem dX4_flyers_17 : decode cX4_flyers 17 = .ok (.aaload, 1) := by decide +kernel
theorem dX4_flyers_18 : decode cX4_flyers 18 = .ok (.invokevirtual 82, 3) := by decide +kernel
theorem dX4_flyers_21 : decode cX4_flyers 21 = .ok (.ifCond .eq 9, 3) := by decide +kernel
theorem dX4_flyers_24 : decode cX4_flyers 24 = .ok (.iload_n 1, 1) := by decide +kernel
theorem dX4_flyers_25 : decode cX4_flyers 25 = .ok (.iconst 1, 1) := by decide +kernel
theorem dX4_flyers_26 : decode cX4_flyers 26 = .ok (.iload_n 2, 1) := by decide +kernel
theorem dX4_flyers_27 : decode cX4_flyers 27 = .ok (.ishl, 1) := by decide +kernel
theorem dX4_flyers_28 : decode cX4_flyers 28 = .ok (.ior, 1) := by decide +kernel
theorem dX4_flyers_29 : decode cX4_flyers 29 = .ok (.istore_n 1, 1) := by decide +kernel
theorem dX4_flyers_30 : decode cX4_flyers 30 = .ok (.iinc 2 1, 3) := by decide +kernel
theorem dX4_flyers_33 : decode cX4_flyers 33 = .ok (.goto (-29), 3) := by decide +kernel
theorem dX4_flyers_36 : decode cX4_flyers 36 = .ok (.iload_n 1, 1) := by decide +kernel
theorem dX4_flyers_37 : decode cX4_flyers 37 = .ok (.ireturn, 1) := by decide +kernel
theorem dX4_spotsTaken_0 : decode cX4_spotsTaken 0 = .ok (.iconst 0, 1) := by decide +kernel
theorem dX4_spotsTaken_1 : decode cX4_spotsTaken 1 = .ok (.istore_n 1, 1) := by decide +kernel
theorem dX4_spotsTaken_2 : decode cX4_spotsTaken 2 = .ok (.iconst 0, 1) := by decide +kernel
theorem dX4_spotsTaken_3 : decode cX4_spotsTaken 3 = .ok (.istore_n 2, 1) := by decide +kernel
theorem dX4_spotsTaken_4 : decode cX4_spotsTaken 4 = .ok (.iload_n 2, 1) := by decide +kernel
theorem dX4_spotsTaken_5 : decode cX4_spotsTaken 5 = .ok (.bipush 10, 2) := by decide +kernel
theorem dX4_spotsTaken_7 : decode cX4_spotsTaken 7 = .ok (.if_icmp .ge 22, 3) := by decide +kernel
theorem dX4_spotsTaken_10 : decode cX4_spotsTaken 10 = .ok (.aload_n 0, 1) := by decide +kernel
theorem dX4_spotsTaken_11 : decode cX4_spotsTaken 11 = .ok (.getfield 27, 3) := by decide +kernel
theorem dX4_spotsTaken_14 : decode cX4_spotsTaken 14 = .ok (.iload_n 2, 1) := by decide +kernel
theorem dX4_spotsTaken_15 : decode cX4_spotsTaken 15 = .ok (.iaload, 1) := by decide +kernel
theorem dX4_spotsTaken_16 : decode cX4_spotsTaken 16 = .ok (.iconst (-1), 1) := by decide +kernel
theorem dX4_spotsTaken_17 : decode cX4_spotsTaken 17 = .ok (.if_icmp .eq 6, 3) := by decide +kernel
theorem dX4_spotsTaken_20 : decode cX4_spotsTaken 20 = .ok (.iinc 1 1, 3) := by decide +kernel
theorem dX4_spotsTaken_23 : decode cX4_spotsTaken 23 = .ok (.iinc 2 1, 3) := by decide +kernel
theorem dX4_spotsTaken_26 : decode cX4_spotsTaken 26 = .ok (.goto (-22), 3) := by decide +kernel
theorem dX4_spotsTaken_29 : decode cX4_spotsTaken 29 = .ok (.iload_n 1, 1) := by decide +kernel
theorem dX4_spotsTaken_30 : decode cX4_spotsTaken 30 = .ok (.ireturn, 1) := by decide +kernel
theorem dX4_passSeason_0 : decode cX4_passSeason 0 = .ok (.aload_n 0, 1) := by decide +kernel
theorem dX4_passSeason_1 : decode cX4_passSeason 1 = .ok (.getfield 37, 3) := by decide +kernel
theorem dX4_passSeason_4 : decode cX4_passSeason 4 = .ok (.iconst 4, 1) := by decide +kernel
theorem dX4_passSeason_5 : decode cX4_passSeason 5 = .ok (.irem, 1) := by decide +kernel
theorem dX4_passSeason_6 : decode cX4_passSeason 6 = .ok (.istore_n 1, 1) := by decide +kernel
theorem dX4_passSeason_7 : decode cX4_passSeason 7 = .ok (.iconst 0, 1) := by decide +kernel
theorem dX4_passSeason_8 : decode cX4_passSeason 8 = .ok (.istore_n 2, 1) := by decide +kernel
theorem dX4_passSeason_9 : decode cX4_passSeason 9 = .ok (.iload_n 2, 1) := by decide +kernel
theorem dX4_passSeason_10 : decode cX4_passSeason 10 = .ok (.aload_n 0, 1) := by decide +kernel
theorem dX4_passSeason_11 : decode cX4_passSeason 11 = .ok (.getfield 30, 3) := by decide +kernel
theorem dX4_passSeason_14 : decode cX4_passSeason 14 = .ok (.if_icmp .ge 19, 3) := by decide +kernel
theorem dX4_passSeason_17 : decode cX4_passSeason 17 = .ok (.aload_n 0, 1) := by decide +kernel
theorem dX4_passSeason_18 : decode cX4_passSeason 18 = .ok (.getfield 11, 3) := by decide +kernel
theorem dX4_passSeason_21 : decode cX4_passSeason 21 = .ok (.iload_n 2, 1) := by decide +kernel
theorem dX4_passSeason_22 : decode cX4_passSeason 22 = .ok (.aaload, 1) := by decide +kernel
theorem dX4_passSeason_23 : decode cX4_passSeason 23 = .ok (.iload_n 1, 1) := by decide +kernel
theorem dX4_passSeason_24 : decode cX4_passSeason 24 = .ok (.invokevirtual 86, 3) := by decide +kernel
theorem dX4_passSeason_27 : decode cX4_passSeason 27 = .ok (.iinc 2 1, 3) := by decide +kernel
theorem dX4_passSeason_30 : decode cX4_passSeason 30 = .ok (.goto (-21), 3) := by decide +kernel
theorem dX4_passSeason_33 : decode cX4_passSeason 33 = .ok (.aload_n 0, 1) := by decide +kernel
theorem dX4_passSeason_34 : decode cX4_passSeason 34 = .ok (.dup, 1) := by decide +kernel
theorem dX4_passSeason_35 : decode cX4_passSeason 35 = .ok (.getfield 37, 3) := by decide +kernel
theorem dX4_passSeason_38 : decode cX4_passSeason 38 = .ok (.iconst 1, 1) := by decide +kernel
theorem dX4_passSeason_39 : decode cX4_passSeason 39 = .ok (.iadd, 1) := by decide +kernel
theorem dX4_passSeason_40 : decode cX4_passSeason 40 = .ok (.putfield 37, 3) := by decide +kernel
theorem dX4_passSeason_43 : decode cX4_passSeason 43 = .ok (.return_, 1) := by decide +kernel
theorem dX4_draw_0 : decode cX4_draw 0 = .ok (.aload_n 0, 1) := by decide +kernel
theorem dX4_draw_1 : decode cX4_draw 1 = .ok (.aload_n 0, 1) := by decide +kernel
theorem dX4_draw_2 : decode cX4_draw 2 = .ok (.getfield 40, 3) := by decide +kernel
theorem dX4_draw_5 : decode cX4_draw 5 = .ok (.ldc 89, 2) := by decide +kernel
theorem dX4_draw_7 : decode cX4_draw 7 = .ok (.imul, 1) := by decide +kernel
theorem dX4_draw_8 : decode cX4_draw 8 = .ok (.sipush 12345, 3) := by decide +kernel
theorem dX4_draw_11 : decode cX4_draw 11 = .ok (.iadd, 1) := by decide +kernel
theorem dX4_draw_12 : decode cX4_draw 12 = .ok (.putfield 40, 3) := by decide +kernel
theorem dX4_draw_15 : decode cX4_draw 15 = .ok (.aload_n 0, 1) := by decide +kernel
theorem dX4_draw_16 : decode cX4_draw 16 = .ok (.getfield 40, 3) := by decide +kernel
theorem dX4_draw_19 : decode cX4_draw 19 = .ok (.bipush 8, 2) := by decide +kernel
theorem dX4_draw_21 : decode cX4_draw 21 = .ok (.iushr, 1) := by decide +kernel
theorem dX4_draw_22 : decode cX4_draw 22 = .ok (.ireturn, 1) := by decide +kernel
theorem dX4_crowsAmong_0 : decode cX4_crowsAmong 0 = .ok (.iconst 0, 1) := by decide +kernel
theorem dX4_crowsAmong_1 : decode cX4_crowsAmong 1 = .ok (.istore_n 2, 1) := by decide +kernel
theorem dX4_crowsAmong_2 : decode cX4_crowsAmong 2 = .ok (.iconst 0, 1) := by decide +kernel
theorem dX4_crowsAmong_3 : decode cX4_crowsAmong 3 = .ok (.istore_n 3, 1) := by decide +kernel
theorem dX4_crowsAmong_4 : decode cX4_crowsAmong 4 = .ok (.iload_n 3, 1) := by decide +kernel
theorem dX4_crowsAmong_5 : decode cX4_crowsAmong 5 = .ok (.aload_n 0, 1) := by decide +kernel
theorem dX4_crowsAmong_6 : decode cX4_crowsAmong 6 = .ok (.getfield 30, 3) := by decide +kernel
theorem dX4_crowsAmong_9 : decode cX4_crowsAmong 9 = .ok (.if_icmp .ge 33, 3) := by decide +kernel
theorem dX4_crowsAmong_12 : decode cX4_crowsAmong 12 = .ok (.iload_n 1, 1) := by decide +kernel
theorem dX4_crowsAmong_13 : decode cX4_crowsAmong 13 = .ok (.iload_n 3, 1) := by decide +kernel
theorem dX4_crowsAmong_14 : decode cX4_crowsAmong 14 = .ok (.invokestatic 90, 3) := by decide +kernel
theorem dX4_crowsAmong_17 : decode cX4_crowsAmong 17 = .ok (.ifCond .eq 19, 3) := by decide +kernel
theorem dX4_crowsAmong_20 : decode cX4_crowsAmong 20 = .ok (.aload_n 0, 1) := by decide +kernel
theorem dX4_crowsAmong_21 : decode cX4_crowsAmong 21 = .ok (.getfield 11, 3) := by decide +kernel
theorem dX4_crowsAmong_24 : decode cX4_crowsAmong 24 = .ok (.iload_n 3, 1) := by decide +kernel
theorem dX4_crowsAmong_25 : decode cX4_crowsAmong 25 = .ok (.aaload, 1) := by decide +kernel
theorem dX4_crowsAmong_26 : decode cX4_crowsAmong 26 = .ok (.iconst 2, 1) := by decide +kernel
theorem dX4_crowsAmong_27 : decode cX4_crowsAmong 27 = .ok (.invokevirtual 93, 3) := by decide +kernel
theorem dX4_crowsAmong_30 : decode cX4_crowsAmong 30 = .ok (.ifCond .eq 6, 3) := by decide +kernel
theorem dX4_crowsAmong_33 : decode cX4_crowsAmong 33 = .ok (.iinc 2 1, 3) := by decide +kernel
theorem dX4_crowsAmong_36 : decode cX4_crowsAmong 36 = .ok (.iinc 3 1, 3) := by decide +kernel
theorem dX4_crowsAmong_39 : decode cX4_crowsAmong 39 = .ok (.goto (-35), 3) := by decide +kernel
theorem dX4_crowsAmong_42 : decode cX4_crowsAmong 42 = .ok (.iload_n 2, 1) := by decide +kernel
theorem dX4_crowsAmong_43 : decode cX4_crowsAmong 43 = .ok (.ireturn, 1) := by decide +kernel
theorem dX4_isIn_0 : decode cX4_isIn 0 = .ok (.iload_n 0, 1) := by decide +kernel
theorem dX4_isIn_1 : decode cX4_isIn 1 = .ok (.iload_n 1, 1) := by decide +kernel
theorem dX4_isIn_2 : decode cX4_isIn 2 = .ok (.ishr, 1) := by decide +kernel
theorem dX4_isIn_3 : decode cX4_isIn 3 = .ok (.iconst 1, 1) := by decide +kernel
theorem dX4_isIn_4 : decode cX4_isIn 4 = .ok (.iand, 1) := by decide +kernel
theorem dX4_isIn_5 : decode cX4_isIn 5 = .ok (.ifCond .eq 7, 3) := by decide +kernel
theorem dX4_isIn_8 : decode cX4_isIn 8 = .ok (.iconst 1, 1) := by decide +kernel
theorem dX4_isIn_9 : decode cX4_isIn 9 = .ok (.goto 4, 3) := by decide +kernel
theorem dX4_isIn_12 : decode cX4_isIn 12 = .ok (.iconst 0, 1) := by decide +kernel
theorem dX4_isIn_13 : decode cX4_isIn 13 = .ok (.ireturn, 1) := by decide +kernel
theorem dX4_againstIt_0 : decode cX4_againstIt 0 = .ok (.aload_n 0, 1) := by decide +kernel
theorem dX4_againstIt_1 : decode cX4_againstIt 1 = .ok (.invokevirtual 97, 3) := by decide +kernel
theorem dX4_againstIt_4 : decode cX4_againstIt 4 = .ok (.aload_n 1, 1) := by decide +kernel
theorem dX4_againstIt_5 : decode cX4_againstIt 5 = .ok (.getfield 100, 3) := by decide +kernel
theorem dX4_againstIt_8 : decode cX4_againstIt 8 = .ok (.iconst (-1), 1) := by decide +kernel
theorem dX4_againstIt_9 : decode cX4_againstIt 9 = .ok (.ixor, 1) := by decide +kernel
theorem dX4_againstIt_10 : decode cX4_againstIt 10 = .ok (.iand, 1) := by decide +kernel
theorem dX4_againstIt_11 : decode cX4_againstIt 11 = .ok (.ireturn, 1) := by decide +kernel
theorem dX4_dropOf_0 : decode cX4_dropOf 0 = .ok (.aload_n 2, 1) := by decide +kernel
theorem dX4_dropOf_1 : decode cX4_dropOf 1 = .ok (.getfield 100, 3) := by decide +kernel
theorem dX4_dropOf_4 : decode cX4_dropOf 4 = .ok (.iload_n 1, 1) := by decide +kernel
theorem dX4_dropOf_5 : decode cX4_dropOf 5 = .ok (.invokestatic 90, 3) := by decide +kernel
theorem dX4_dropOf_8 : decode cX4_dropOf 8 = .ok (.ifCond .eq 10, 3) := by decide +kernel
theorem dX4_dropOf_11 : decode cX4_dropOf 11 = .ok (.aload_n 2, 1) := by decide +kernel
theorem dX4_dropOf_12 : decode cX4_dropOf 12 = .ok (.getfield 100, 3) := by decide +kernel
theorem dX4_dropOf_15 : decode cX4_dropOf 15 = .ok (.goto 8, 3) := by decide +kernel
theorem dX4_dropOf_18 : decode cX4_dropOf 18 = .ok (.aload_n 0, 1) := by decide +kernel
theorem dX4_dropOf_19 : decode cX4_dropOf 19 = .ok (.aload_n 2, 1) := by decide +kernel
theorem dX4_dropOf_20 : decode cX4_dropOf 20 = .ok (.invokevirtual 103, 3) := by decide +kernel
theorem dX4_dropOf_23 : decode cX4_dropOf 23 = .ok (.istore_n 3, 1) := by decide +kernel
theorem dX4_dropOf_24 : decode cX4_dropOf 24 = .ok (.aload_n 0, 1) := by decide +kernel
theorem dX4_dropOf_25 : decode cX4_dropOf 25 = .ok (.getfield 11, 3) := by decide +kernel
theorem dX4_dropOf_28 : decode cX4_dropOf 28 = .ok (.iload_n 1, 1) := by decide +kernel
theorem dX4_dropOf_29 : decode cX4_dropOf 29 = .ok (.aaload, 1) := by decide +kernel
theorem dX4_dropOf_30 : decode cX4_dropOf 30 = .ok (.aload_n 2, 1) := by decide +kernel
theorem dX4_dropOf_31 : decode cX4_dropOf 31 = .ok (.aload_n 0, 1) := by decide +kernel
theorem dX4_dropOf_32 : decode cX4_dropOf 32 = .ok (.iload_n 3, 1) := by decide +kernel
theorem dX4_dropOf_33 : decode cX4_dropOf 33 = .ok (.invokevirtual 107, 3) := by decide +kernel
theorem dX4_dropOf_36 : decode cX4_dropOf 36 = .ok (.invokevirtual 111, 3) := by decide +kernel
theorem dX4_dropOf_39 : decode cX4_dropOf 39 = .ok (.ireturn, 1) := by decide +kernel
theorem dX4_droppedFor_0 : decode cX4_droppedFor 0 = .ok (.aload_n 0, 1) := by decide +kernel
theorem dX4_droppedFor_1 : decode cX4_droppedFor 1 = .ok (.aload_n 1, 1) := by decide +kernel
theorem dX4_droppedFor_2 : decode cX4_droppedFor 2 = .ok (.aload_n 1, 1) := by decide +kernel
theorem dX4_droppedFor_3 : decode cX4_droppedFor 3 = .ok (.getfield 100, 3) := by decide +kernel
theorem dX4_droppedFor_6 : decode cX4_droppedFor 6 = .ok (.invokevirtual 115, 3) := by decide +kernel
theorem dX4_droppedFor_9 : decode cX4_droppedFor 9 = .ok (.ireturn, 1) := by decide +kernel
theorem dX4_droppedAgainst_0 : decode cX4_droppedAgainst 0 = .ok (.aload_n 0, 1) := by decide +kernel
theorem dX4_droppedAgainst_1 : decode cX4_droppedAgainst 1 = .ok (.aload_n 1, 1) := by decide +kernel
theorem dX4_droppedAgainst_2 : decode cX4_droppedAgainst 2 = .ok (.aload_n 0, 1) := by decide +kernel
theorem dX4_droppedAgainst_3 : decode cX4_droppedAgainst 3 = .ok (.aload_n 1, 1) := by decide +kernel
theorem dX4_droppedAgainst_4 : decode cX4_droppedAgainst 4 = .ok (.invokevirtual 103, 3) := by decide +kernel
theorem dX4_droppedAgainst_7 : decode cX4_droppedAgainst 7 = .ok (.invokevirtual 115, 3) := by decide +kernel
theorem dX4_droppedAgainst_10 : decode cX4_droppedAgainst 10 = .ok (.ireturn, 1) := by decide +kernel
theorem dX4_droppedInAll_0 : decode cX4_droppedInAll 0 = .ok (.aload_n 0, 1) := by decide +kernel
theorem dX4_droppedInAll_1 : decode cX4_droppedInAll 1 = .ok (.aload_n 1, 1) := by decide +kernel
theorem dX4_droppedInAll_2 : decode cX4_droppedInAll 2 = .ok (.invokevirtual 118, 3) := by decide +kernel
theorem dX4_droppedInAll_5 : decode cX4_droppedInAll 5 = .ok (.aload_n 0, 1) := by decide +kernel
theorem dX4_droppedInAll_6 : decode cX4_droppedInAll 6 = .ok (.aload_n 1, 1) := by decide +kernel
theorem dX4_droppedInAll_7 : decode cX4_droppedInAll 7 = .ok (.invokevirtual 121, 3) := by decide +kernel
theorem dX4_droppedInAll_10 : decode cX4_droppedInAll 10 = .ok (.iadd, 1) := by decide +kernel
theorem dX4_droppedInAll_11 : decode cX4_droppedInAll 11 = .ok (.ireturn, 1) := by decide +kernel
theorem dX4_droppedBy_0 : decode cX4_droppedBy 0 = .ok (.aload_n 0, 1) := by decide +kernel
theorem dX4_droppedBy_1 : decode cX4_droppedBy 1 = .ok (.iload_n 2, 1) := by decide +kernel
theorem dX4_droppedBy_2 : decode cX4_droppedBy 2 = .ok (.invokevirtual 107, 3) := by decide +kernel
theorem dX4_droppedBy_5 : decode cX4_droppedBy 5 = .ok (.istore_n 3, 1) := by decide +kernel
theorem dX4_droppedBy_6 : decode cX4_droppedBy 6 = .ok (.iconst 0, 1) := by decide +kernel
theorem dX4_droppedBy_7 : decode cX4_droppedBy 7 = .ok (.istore 4, 2) := by decide +kernel
theorem dX4_droppedBy_9 : decode cX4_droppedBy 9 = .ok (.iconst 0, 1) := by decide +kernel
theorem dX4_droppedBy_10 : decode cX4_droppedBy 10 = .ok (.istore 5, 2) := by decide +kernel
theorem dX4_droppedBy_12 : decode cX4_droppedBy 12 = .ok (.iload 5, 2) := by decide +kernel
theorem dX4_droppedBy_14 : decode cX4_droppedBy 14 = .ok (.aload_n 0, 1) := by decide +kernel
theorem dX4_droppedBy_15 : decode cX4_droppedBy 15 = .ok (.getfield 30, 3) := by decide +kernel
theorem dX4_droppedBy_18 : decode cX4_droppedBy 18 = .ok (.if_icmp .ge 35, 3) := by decide +kernel
theorem dX4_droppedBy_21 : decode cX4_droppedBy 21 = .ok (.iload_n 2, 1) := by decide +kernel
theorem dX4_droppedBy_22 : decode cX4_droppedBy 22 = .ok (.iload 5, 2) := by decide +kernel
theorem dX4_droppedBy_24 : decode cX4_droppedBy 24 = .ok (.invokestatic 90, 3) := by decide +kernel
theorem dX4_droppedBy_27 : decode cX4_droppedBy 27 = .ok (.ifCond .eq 20, 3) := by decide +kernel
theorem dX4_droppedBy_30 : decode cX4_droppedBy 30 = .ok (.iload 4, 2) := by decide +kernel
theorem dX4_droppedBy_32 : decode cX4_droppedBy 32 = .ok (.aload_n 0, 1) := by decide +kernel
theorem dX4_droppedBy_33 : decode cX4_droppedBy 33 = .ok (.getfield 11, 3) := by decide +kernel
theorem dX4_droppedBy_36 : decode cX4_droppedBy 36 = .ok (.iload 5, 2) := by decide +kernel
theorem dX4_droppedBy_38 : decode cX4_droppedBy 38 = .ok (.aaload, 1) := by decide +kernel
theorem dX4_droppedBy_39 : decode cX4_droppedBy 39 = .ok (.aload_n 1, 1) := by decide +kernel
theorem dX4_droppedBy_40 : decode cX4_droppedBy 40 = .ok (.iload_n 3, 1) := by decide +kernel
theorem dX4_droppedBy_41 : decode cX4_droppedBy 41 = .ok (.invokevirtual 111, 3) := by decide +kernel
theorem dX4_droppedBy_44 : decode cX4_droppedBy 44 = .ok (.iadd, 1) := by decide +kernel
theorem dX4_droppedBy_45 : decode cX4_droppedBy 45 = .ok (.istore 4, 2) := by decide +kernel
theorem dX4_droppedBy_47 : decode cX4_droppedBy 47 = .ok (.iinc 5 1, 3) := by decide +kernel
theorem dX4_droppedBy_50 : decode cX4_droppedBy 50 = .ok (.goto (-38), 3) := by decide +kernel
theorem dX4_droppedBy_53 : decode cX4_droppedBy 53 = .ok (.iload 4, 2) := by decide +kernel
theorem dX4_droppedBy_55 : decode cX4_droppedBy 55 = .ok (.ireturn, 1) := by decide +kernel
theorem dX4_wouldPass_0 : decode cX4_wouldPass 0 = .ok (.aload_n 1, 1) := by decide +kernel
theorem dX4_wouldPass_1 : decode cX4_wouldPass 1 = .ok (.aload_n 0, 1) := by decide +kernel
theorem dX4_wouldPass_2 : decode cX4_wouldPass 2 = .ok (.aload_n 1, 1) := by decide +kernel
theorem dX4_wouldPass_3 : decode cX4_wouldPass 3 = .ok (.invokevirtual 118, 3) := by decide +kernel
theorem dX4_wouldPass_6 : decode cX4_wouldPass 6 = .ok (.aload_n 0, 1) := by decide +kernel
theorem dX4_wouldPass_7 : decode cX4_wouldPass 7 = .ok (.aload_n 1, 1) := by decide +kernel
theorem dX4_wouldPass_8 : decode cX4_wouldPass 8 = .ok (.invokevirtual 121, 3) := by decide +kernel
theorem dX4_wouldPass_11 : decode cX4_wouldPass 11 = .ok (.invokevirtual 124, 3) := by decide +kernel
theorem dX4_wouldPass_14 : decode cX4_wouldPass 14 = .ok (.ireturn, 1) := by decide +kernel
theorem dX4_passingNow_0 : decode cX4_passingNow 0 = .ok (.iconst 0, 1) := by decide +kernel
theorem dX4_passingNow_1 : decode cX4_passingNow 1 = .ok (.istore_n 1, 1) := by decide +kernel
theorem dX4_passingNow_2 : decode cX4_passingNow 2 = .ok (.iconst 0, 1) := by decide +kernel
theorem dX4_passingNow_3 : decode cX4_passingNow 3 = .ok (.istore_n 2, 1) := by decide +kernel
theorem dX4_passingNow_4 : decode cX4_passingNow 4 = .ok (.iload_n 2, 1) := by decide +kernel
theorem dX4_passingNow_5 : decode cX4_passingNow 5 = .ok (.aload_n 0, 1) := by decide +kernel
theorem dX4_passingNow_6 : decode cX4_passingNow 6 = .ok (.getfield 34, 3) := by decide +kernel
theorem dX4_passingNow_9 : decode cX4_passingNow 9 = .ok (.if_icmp .ge 25, 3) := by decide +kernel
theorem dX4_passingNow_12 : decode cX4_passingNow 12 = .ok (.aload_n 0, 1) := by decide +kernel
theorem dX4_passingNow_13 : decode cX4_passingNow 13 = .ok (.aload_n 0, 1) := by decide +kernel
theorem dX4_passingNow_14 : decode cX4_passingNow 14 = .ok (.getfield 19, 3) := by decide +kernel
theorem dX4_passingNow_17 : decode cX4_passingNow 17 = .ok (.iload_n 2, 1) := by decide +kernel
theorem dX4_passingNow_18 : decode cX4_passingNow 18 = .ok (.aaload, 1) := by decide +kernel
theorem dX4_passingNow_19 : decode cX4_passingNow 19 = .ok (.invokevirtual 127, 3) := by decide +kernel
theorem dX4_passingNow_22 : decode cX4_passingNow 22 = .ok (.ifCond .eq 6, 3) := by decide +kernel
theorem dX4_passingNow_25 : decode cX4_passingNow 25 = .ok (.iinc 1 1, 3) := by decide +kernel
theorem dX4_passingNow_28 : decode cX4_passingNow 28 = .ok (.iinc 2 1, 3) := by decide +kernel
theorem dX4_passingNow_31 : decode cX4_passingNow 31 = .ok (.goto (-27), 3) := by decide +kernel
theorem dX4_passingNow_34 : decode cX4_passingNow 34 = .ok (.iload_n 1, 1) := by decide +kernel
theorem dX4_passingNow_35 : decode cX4_passingNow 35 = .ok (.ireturn, 1) := by decide +kernel
theorem dX4_castVote_0 : decode cX4_castVote 0 = .ok (.aload_n 0, 1) := by decide +kernel
theorem dX4_castVote_1 : decode cX4_castVote 1 = .ok (.aload_n 1, 1) := by decide +kernel
theorem dX4_castVote_2 : decode cX4_castVote 2 = .ok (.aload_n 1, 1) := by decide +kernel
theorem dX4_castVote_3 : decode cX4_castVote 3 = .ok (.getfield 100, 3) := by decide +kernel
theorem dX4_castVote_6 : decode cX4_castVote 6 = .ok (.invokevirtual 131, 3) := by decide +kernel
theorem dX4_castVote_9 : decode cX4_castVote 9 = .ok (.istore_n 2, 1) := by decide +kernel
theorem dX4_castVote_10 : decode cX4_castVote 10 = .ok (.aload_n 0, 1) := by decide +kernel
theorem dX4_castVote_11 : decode cX4_castVote 11 = .ok (.aload_n 1, 1) := by decide +kernel
theorem dX4_castVote_12 : decode cX4_castVote 12 = .ok (.aload_n 0, 1) := by decide +kernel
theorem dX4_castVote_13 : decode cX4_castVote 13 = .ok (.aload_n 1, 1) := by decide +kernel
theorem dX4_castVote_14 : decode cX4_castVote 14 = .ok (.invokevirtual 103, 3) := by decide +kernel
theorem dX4_castVote_17 : decode cX4_castVote 17 = .ok (.invokevirtual 131, 3) := by decide +kernel
theorem dX4_castVote_20 : decode cX4_castVote 20 = .ok (.istore_n 3, 1) := by decide +kernel
theorem dX4_castVote_21 : decode cX4_castVote 21 = .ok (.aload_n 0, 1) := by decide +kernel
theorem dX4_castVote_22 : decode cX4_castVote 22 = .ok (.getfield 23, 3) := by decide +kernel
theorem dX4_castVote_25 : decode cX4_castVote 25 = .ok (.aload_n 1, 1) := by decide +kernel
theorem dX4_castVote_26 : decode cX4_castVote 26 = .ok (.getfield 134, 3) := by decide +kernel
theorem dX4_castVote_29 : decode cX4_castVote 29 = .ok (.sipush 9999, 3) := by decide +kernel
theorem dX4_castVote_32 : decode cX4_castVote 32 = .ok (.aload_n 0, 1) := by decide +kernel
theorem dX4_castVote_33 : decode cX4_castVote 33 = .ok (.getfield 23, 3) := by decide +kernel
theorem dX4_castVote_36 : decode cX4_castVote 36 = .ok (.aload_n 1, 1) := by decide +kernel
theorem dX4_castVote_37 : decode cX4_castVote 37 = .ok (.getfield 134, 3) := by decide +kernel
theorem dX4_castVote_40 : decode cX4_castVote 40 = .ok (.iaload, 1) := by decide +kernel
theorem dX4_castVote_41 : decode cX4_castVote 41 = .ok (.iload_n 2, 1) := by decide +kernel
theorem dX4_castVote_42 : decode cX4_castVote 42 = .ok (.iadd, 1) := by decide +kernel
theorem dX4_castVote_43 : decode cX4_castVote 43 = .ok (.iload_n 3, 1) := by decide +kernel
theorem dX4_castVote_44 : decode cX4_castVote 44 = .ok (.iadd, 1) := by decide +kernel
theorem dX4_castVote_45 : decode cX4_castVote 45 = .ok (.invokestatic 137, 3) := by decide +kernel
theorem dX4_castVote_48 : decode cX4_castVote 48 = .ok (.iastore, 1) := by decide +kernel
theorem dX4_castVote_49 : decode cX4_castVote 49 = .ok (.aload_n 1, 1) := by decide +kernel
theorem dX4_castVote_50 : decode cX4_castVote 50 = .ok (.iload_n 2, 1) := by decide +kernel
theorem dX4_castVote_51 : decode cX4_castVote 51 = .ok (.iload_n 3, 1) := by decide +kernel
theorem dX4_castVote_52 : decode cX4_castVote 52 = .ok (.invokevirtual 124, 3) := by decide +kernel
theorem dX4_castVote_55 : decode cX4_castVote 55 = .ok (.istore 4, 2) := by decide +kernel
theorem dX4_castVote_57 : decode cX4_castVote 57 = .ok (.iload 4, 2) := by decide +kernel
theorem dX4_castVote_59 : decode cX4_castVote 59 = .ok (.ifCond .eq 23, 3) := by decide +kernel
theorem dX4_castVote_62 : decode cX4_castVote 62 = .ok (.aload_n 1, 1) := by decide +kernel
theorem dX4_castVote_63 : decode cX4_castVote 63 = .ok (.getfield 79, 3) := by decide +kernel
theorem dX4_castVote_66 : decode cX4_castVote 66 = .ok (.ifCond .ne 16, 3) := by decide +kernel
theorem dX4_castVote_69 : decode cX4_castVote 69 = .ok (.aload_n 1, 1) := by decide +kernel
theorem dX4_castVote_70 : decode cX4_castVote 70 = .ok (.iconst 1, 1) := by decide +kernel
theorem dX4_castVote_71 : decode cX4_castVote 71 = .ok (.putfield 79, 3) := by decide +kernel
theorem dX4_castVote_74 : decode cX4_castVote 74 = .ok (.aload_n 0, 1) := by decide +kernel
theorem dX4_castVote_75 : decode cX4_castVote 75 = .ok (.aload_n 1, 1) := by decide +kernel
theorem dX4_castVote_76 : decode cX4_castVote 76 = .ok (.getfield 143, 3) := by decide +kernel
theorem dX4_castVote_79 : decode cX4_castVote 79 = .ok (.invokevirtual 146, 3) := by decide +kernel
theorem dX4_castVote_82 : decode cX4_castVote 82 = .ok (.iload 4, 2) := by decide +kernel
theorem dX4_castVote_84 : decode cX4_castVote 84 = .ok (.ireturn, 1) := by decide +kernel
theorem dX4_letFall_0 : decode cX4_letFall 0 = .ok (.aload_n 0, 1) := by decide +kernel
theorem dX4_letFall_1 : decode cX4_letFall 1 = .ok (.iload_n 2, 1) := by decide +kernel
theorem dX4_letFall_2 : decode cX4_letFall 2 = .ok (.invokevirtual 107, 3) := by decide +kernel
theorem dX4_letFall_5 : decode cX4_letFall 5 = .ok (.istore_n 3, 1) := by decide +kernel
theorem dX4_letFall_6 : decode cX4_letFall 6 = .ok (.iconst 0, 1) := by decide +kernel
theorem dX4_letFall_7 : decode cX4_letFall 7 = .ok (.istore 4, 2) := by decide +kernel
theorem dX4_letFall_9 : decode cX4_letFall 9 = .ok (.iconst 0, 1) := by decide +kernel
theorem dX4_letFall_10 : decode cX4_letFall 10 = .ok (.istore 5, 2) := by decide +kernel
theorem dX4_letFall_12 : decode cX4_letFall 12 = .ok (.iload 5, 2) := by decide +kernel
theorem dX4_letFall_14 : decode cX4_letFall 14 = .ok (.aload_n 0, 1) := by decide +kernel
theorem dX4_letFall_15 : decode cX4_letFall 15 = .ok (.getfield 30, 3) := by decide +kernel
theorem dX4_letFall_18 : decode cX4_letFall 18 = .ok (.if_icmp .ge 59, 3) := by decide +kernel
theorem dX4_letFall_21 : decode cX4_letFall 21 = .ok (.iload_n 2, 1) := by decide +kernel
theorem dX4_letFall_22 : decode cX4_letFall 22 = .ok (.iload 5, 2) := by decide +kernel
theorem dX4_letFall_24 : decode cX4_letFall 24 = .ok (.invokestatic 90, 3) := by decide +kernel
theorem dX4_letFall_27 : decode cX4_letFall 27 = .ok (.ifCond .eq 44, 3) := by decide +kernel
theorem dX4_letFall_30 : decode cX4_letFall 30 = .ok (.aload_n 0, 1) := by decide +kernel
theorem dX4_letFall_31 : decode cX4_letFall 31 = .ok (.getfield 11, 3) := by decide +kernel
theorem dX4_letFall_34 : decode cX4_letFall 34 = .ok (.iload 5, 2) := by decide +kernel
theorem dX4_letFall_36 : decode cX4_letFall 36 = .ok (.aaload, 1) := by decide +kernel
theorem dX4_letFall_37 : decode cX4_letFall 37 = .ok (.aload_n 1, 1) := by decide +kernel
theorem dX4_letFall_38 : decode cX4_letFall 38 = .ok (.iload_n 3, 1) := by decide +kernel
theorem dX4_letFall_39 : decode cX4_letFall 39 = .ok (.invokevirtual 111, 3) := by decide +kernel
theorem dX4_letFall_42 : decode cX4_letFall 42 = .ok (.istore 6, 2) := by decide +kernel
theorem dX4_letFall_44 : decode cX4_letFall 44 = .ok (.aload_n 0, 1) := by decide +kernel
theorem dX4_letFall_45 : decode cX4_letFall 45 = .ok (.getfield 11, 3) := by decide +kernel
theorem dX4_letFall_48 : decode cX4_letFall 48 = .ok (.iload 5, 2) := by decide +kernel
theorem dX4_letFall_50 : decode cX4_letFall 50 = .ok (.aaload, 1) := by decide +kernel
theorem dX4_letFall_51 : decode cX4_letFall 51 = .ok (.getfield 149, 3) := by decide +kernel
theorem dX4_letFall_54 : decode cX4_letFall 54 = .ok (.aload_n 1, 1) := by decide +kernel
theorem dX4_letFall_55 : decode cX4_letFall 55 = .ok (.getfield 134, 3) := by decide +kernel
theorem dX4_letFall_58 : decode cX4_letFall 58 = .ok (.dup2, 1) := by decide +kernel
theorem dX4_letFall_59 : decode cX4_letFall 59 = .ok (.iaload, 1) := by decide +kernel
theorem dX4_letFall_60 : decode cX4_letFall 60 = .ok (.iload 6, 2) := by decide +kernel
theorem dX4_letFall_62 : decode cX4_letFall 62 = .ok (.isub, 1) := by decide +kernel
theorem dX4_letFall_63 : decode cX4_letFall 63 = .ok (.iastore, 1) := by decide +kernel
theorem dX4_letFall_64 : decode cX4_letFall 64 = .ok (.iload 4, 2) := by decide +kernel
theorem dX4_letFall_66 : decode cX4_letFall 66 = .ok (.iload 6, 2) := by decide +kernel
theorem dX4_letFall_68 : decode cX4_letFall 68 = .ok (.iadd, 1) := by decide +kernel
theorem dX4_letFall_69 : decode cX4_letFall 69 = .ok (.istore 4, 2) := by decide +kernel
theorem dX4_letFall_71 : decode cX4_letFall 71 = .ok (.iinc 5 1, 3) := by decide +kernel
theorem dX4_letFall_74 : decode cX4_letFall 74 = .ok (.goto (-62), 3) := by decide +kernel
theorem dX4_letFall_77 : decode cX4_letFall 77 = .ok (.iload 4, 2) := by decide +kernel
theorem dX4_letFall_79 : decode cX4_letFall 79 = .ok (.ireturn, 1) := by decide +kernel
theorem dX4_enact_0 : decode cX4_enact 0 = .ok (.iconst 0, 1) := by decide +kernel
theorem dX4_enact_1 : decode cX4_enact 1 = .ok (.istore_n 2, 1) := by decide +kernel
theorem dX4_enact_2 : decode cX4_enact 2 = .ok (.iload_n 2, 1) := by decide +kernel
theorem dX4_enact_3 : decode cX4_enact 3 = .ok (.aload_n 0, 1) := by decide +kernel
theorem dX4_enact_4 : decode cX4_enact 4 = .ok (.getfield 30, 3) := by decide +kernel
theorem dX4_enact_7 : decode cX4_enact 7 = .ok (.if_icmp .ge 117, 3) := by decide +kernel
theorem dX4_enact_10 : decode cX4_enact 10 = .ok (.aload_n 0, 1) := by decide +kernel
theorem dX4_enact_11 : decode cX4_enact 11 = .ok (.getfield 11, 3) := by decide +kernel
theorem dX4_enact_14 : decode cX4_enact 14 = .ok (.iload_n 2, 1) := by decide +kernel
theorem dX4_enact_15 : decode cX4_enact 15 = .ok (.aaload, 1) := by decide +kernel
theorem dX4_enact_16 : decode cX4_enact 16 = .ok (.astore_n 3, 1) := by decide +kernel
theorem dX4_enact_17 : decode cX4_enact 17 = .ok (.iload_n 1, 1) := by decide +kernel
theorem dX4_enact_18 : decode cX4_enact 18 = .ok (.tableswitch 100 1 4 #[30, 48, 65, 83], 30) := by decide +kernel
theorem dX4_enact_48 : decode cX4_enact 48 = .ok (.aload_n 3, 1) := by decide +kernel
theorem dX4_enact_49 : decode cX4_enact 49 = .ok (.bipush 9, 2) := by decide +kernel
theorem dX4_enact_51 : decode cX4_enact 51 = .ok (.aload_n 3, 1) := by decide +kernel
theorem dX4_enact_52 : decode cX4_enact 52 = .ok (.getfield 152, 3) := by decide +kernel
theorem dX4_enact_55 : decode cX4_enact 55 = .ok (.iconst 1, 1) := by decide +kernel
theorem dX4_enact_56 : decode cX4_enact 56 = .ok (.iadd, 1) := by decide +kernel
theorem dX4_enact_57 : decode cX4_enact 57 = .ok (.invokestatic 137, 3) := by decide +kernel
theorem dX4_enact_60 : decode cX4_enact 60 = .ok (.putfield 152, 3) := by decide +kernel
theorem dX4_enact_63 : decode cX4_enact 63 = .ok (.goto 55, 3) := by decide +kernel
theorem dX4_enact_66 : decode cX4_enact 66 = .ok (.aload_n 3, 1) := by decide +kernel
theorem dX4_enact_67 : decode cX4_enact 67 = .ok (.iconst 0, 1) := by decide +kernel
theorem dX4_enact_68 : decode cX4_enact 68 = .ok (.aload_n 3, 1) := by decide +kernel
theorem dX4_enact_69 : decode cX4_enact 69 = .ok (.getfield 152, 3) := by decide +kernel
theorem dX4_enact_72 : decode cX4_enact 72 = .ok (.iconst 1, 1) := by decide +kernel
theorem dX4_enact_73 : decode cX4_enact 73 = .ok (.isub, 1) := by decide +kernel
theorem dX4_enact_74 : decode cX4_enact 74 = .ok (.invokestatic 155, 3) := by decide +kernel
theorem dX4_enact_77 : decode cX4_enact 77 = .ok (.putfield 152, 3) := by decide +kernel
theorem dX4_enact_80 : decode cX4_enact 80 = .ok (.goto 38, 3) := by decide +kernel
theorem dX4_enact_83 : decode cX4_enact 83 = .ok (.aload_n 3, 1) := by decide +kernel
theorem dX4_enact_84 : decode cX4_enact 84 = .ok (.bipush 99, 2) := by decide +kernel
theorem dX4_enact_86 : decode cX4_enact 86 = .ok (.aload_n 3, 1) := by decide +kernel
theorem dX4_enact_87 : decode cX4_enact 87 = .ok (.getfield 158, 3) := by decide +kernel
theorem dX4_enact_90 : decode cX4_enact 90 = .ok (.iconst 1, 1) := by decide +kernel
theorem dX4_enact_91 : decode cX4_enact 91 = .ok (.iadd, 1) := by decide +kernel
theorem dX4_enact_92 : decode cX4_enact 92 = .ok (.invokestatic 137, 3) := by decide +kernel
theorem dX4_enact_95 : decode cX4_enact 95 = .ok (.putfield 158, 3) := by decide +kernel
theorem dX4_enact_98 : decode cX4_enact 98 = .ok (.goto 20, 3) := by decide +kernel
theorem dX4_enact_101 : decode cX4_enact 101 = .ok (.aload_n 3, 1) := by decide +kernel
theorem dX4_enact_102 : decode cX4_enact 102 = .ok (.iconst 0, 1) := by decide +kernel
theorem dX4_enact_103 : decode cX4_enact 103 = .ok (.aload_n 3, 1) := by decide +kernel
theorem dX4_enact_104 : decode cX4_enact 104 = .ok (.getfield 158, 3) := by decide +kernel
theorem dX4_enact_107 : decode cX4_enact 107 = .ok (.iconst 1, 1) := by decide +kernel
theorem dX4_enact_108 : decode cX4_enact 108 = .ok (.isub, 1) := by decide +kernel
theorem dX4_enact_109 : decode cX4_enact 109 = .ok (.invokestatic 155, 3) := by decide +kernel
theorem dX4_enact_112 : decode cX4_enact 112 = .ok (.putfield 158, 3) := by decide +kernel
theorem dX4_enact_115 : decode cX4_enact 115 = .ok (.goto 3, 3) := by decide +kernel
theorem dX4_enact_118 : decode cX4_enact 118 = .ok (.iinc 2 1, 3) := by decide +kernel
theorem dX4_enact_121 : decode cX4_enact 121 = .ok (.goto (-119), 3) := by decide +kernel
theorem dX4_enact_124 : decode cX4_enact 124 = .ok (.return_, 1) := by decide +kernel
theorem dX4_castVotes_0 : decode cX4_castVotes 0 = .ok (.iconst 0, 1) := by decide +kernel
theorem dX4_castVotes_1 : decode cX4_castVotes 1 = .ok (.istore_n 3, 1) := by decide +kernel
theorem dX4_castVotes_2 : decode cX4_castVotes 2 = .ok (.iconst 0, 1) := by decide +kernel
theorem dX4_castVotes_3 : decode cX4_castVotes 3 = .ok (.istore 4, 2) := by decide +kernel
theorem dX4_castVotes_5 : decode cX4_castVotes 5 = .ok (.iload 4, 2) := by decide +kernel
theorem dX4_castVotes_7 : decode cX4_castVotes 7 = .ok (.iload_n 2, 1) := by decide +kernel
theorem dX4_castVotes_8 : decode cX4_castVotes 8 = .ok (.if_icmp .ge 46, 3) := by decide +kernel
theorem dX4_castVotes_11 : decode cX4_castVotes 11 = .ok (.iload 4, 2) := by decide +kernel
theorem dX4_castVotes_13 : decode cX4_castVotes 13 = .ok (.aload_n 1, 1) := by decide +kernel
theorem dX4_castVotes_14 : decode cX4_castVotes 14 = .ok (.arraylength, 1) := by decide +kernel
theorem dX4_castVotes_15 : decode cX4_castVotes 15 = .ok (.if_icmp .ge 39, 3) := by decide +kernel
theorem dX4_castVotes_18 : decode cX4_castVotes 18 = .ok (.aload_n 0, 1) := by decide +kernel
theorem dX4_castVotes_19 : decode cX4_castVotes 19 = .ok (.aload_n 1, 1) := by decide +kernel
theorem dX4_castVotes_20 : decode cX4_castVotes 20 = .ok (.iload 4, 2) := by decide +kernel
theorem dX4_castVotes_22 : decode cX4_castVotes 22 = .ok (.iaload, 1) := by decide +kernel
theorem dX4_castVotes_23 : decode cX4_castVotes 23 = .ok (.invokevirtual 161, 3) := by decide +kernel
theorem dX4_castVotes_26 : decode cX4_castVotes 26 = .ok (.ifCond .eq 22, 3) := by decide +kernel
theorem dX4_castVotes_29 : decode cX4_castVotes 29 = .ok (.aload_n 0, 1) := by decide +kernel
theorem dX4_castVotes_30 : decode cX4_castVotes 30 = .ok (.aload_n 0, 1) := by decide +kernel
theorem dX4_castVotes_31 : decode cX4_castVotes 31 = .ok (.getfield 19, 3) := by decide +kernel
theorem dX4_castVotes_34 : decode cX4_castVotes 34 = .ok (.aload_n 1, 1) := by decide +kernel
theorem dX4_castVotes_35 : decode cX4_castVotes 35 = .ok (.iload 4, 2) := by decide +kernel
theorem dX4_castVotes_37 : decode cX4_castVotes 37 = .ok (.iaload, 1) := by decide +kernel
theorem dX4_castVotes_38 : decode cX4_castVotes 38 = .ok (.aaload, 1) := by decide +kernel
theorem dX4_castVotes_39 : decode cX4_castVotes 39 = .ok (.invokevirtual 164, 3) := by decide +kernel
theorem dX4_castVotes_42 : decode cX4_castVotes 42 = .ok (.ifCond .eq 6, 3) := by decide +kernel
theorem dX4_castVotes_45 : decode cX4_castVotes 45 = .ok (.iinc 3 1, 3) := by decide +kernel
theorem dX4_castVotes_48 : decode cX4_castVotes 48 = .ok (.iinc 4 1, 3) := by decide +kernel
theorem dX4_castVotes_51 : decode cX4_castVotes 51 = .ok (.goto (-46), 3) := by decide +kernel
theorem dX4_castVotes_54 : decode cX4_castVotes 54 = .ok (.iload_n 3, 1) := by decide +kernel
theorem dX4_castVotes_55 : decode cX4_castVotes 55 = .ok (.ireturn, 1) := by decide +kernel
theorem dX5_init_0 : decode cX5_init 0 = .ok (.aload_n 0, 1) := by decide +kernel
theorem dX5_init_1 : decode cX5_init 1 = .ok (.invokespecial 3, 3) := by decide +kernel
theorem dX5_init_4 : decode cX5_init 4 = .ok (.aload_n 0, 1) := by decide +kernel
theorem dX5_init_5 : decode cX5_init 5 = .ok (.iconst 0, 1) := by decide +kernel
theorem dX5_init_6 : decode cX5_init 6 = .ok (.putfield 9, 3) := by decide +kernel
theorem dX5_init_9 : decode cX5_init 9 = .ok (.aload_n 0, 1) := by decide +kernel
theorem dX5_init_10 : decode cX5_init 10 = .ok (.bipush 120, 2) := by decide +kernel
theorem dX5_init_12 : decode cX5_init 12 = .ok (.newarray .int, 2) := by decide +kernel
theorem dX5_init_14 : decode cX5_init 14 = .ok (.putfield 15, 3) := by decide +kernel
theorem dX5_init_17 : decode cX5_init 17 = .ok (.aload_n 0, 1) := by decide +kernel
theorem dX5_init_18 : decode cX5_init 18 = .ok (.bipush 121, 2) := by decide +kernel
theorem dX5_init_20 : decode cX5_init 20 = .ok (.newarray .int, 2) := by decide +kernel
theorem dX5_init_22 : decode cX5_init 22 = .ok (.putfield 19, 3) := by decide +kernel
theorem dX5_init_25 : decode cX5_init 25 = .ok (.aload_n 0, 1) := by decide +kernel
theorem dX5_init_26 : decode cX5_init 26 = .ok (.bipush 121, 2) := by decide +kernel
theorem dX5_init_28 : decode cX5_init 28 = .ok (.newarray .int, 2) := by decide +kernel
theorem dX5_init_30 : decode cX5_init 30 = .ok (.putfield 22, 3) := by decide +kernel
theorem dX5_init_33 : decode cX5_init 33 = .ok (.aload_n 0, 1) := by decide +kernel
theorem dX5_init_34 : decode cX5_init 34 = .ok (.bipush 121, 2) := by decide +kernel
theorem dX5_init_36 : decode cX5_init 36 = .ok (.newarray .int, 2) := by decide +kernel
theorem dX5_init_38 : decode cX5_init 38 = .ok (.putfield 25, 3) := by decide +kernel
theorem dX5_init_41 : decode cX5_init 41 = .ok (.return_, 1) := by decide +kernel
theorem dX5_add_0 : decode cX5_add 0 = .ok (.aload_n 0, 1) := by decide +kernel
theorem dX5_add_1 : decode cX5_add 1 = .ok (.getfield 9, 3) := by decide +kernel
theorem dX5_add_4 : decode cX5_add 4 = .ok (.bipush 120, 2) := by decide +kernel
theorem dX5_add_6 : decode cX5_add 6 = .ok (.if_icmp .ge 23, 3) := by decide +kernel
theorem dX5_add_9 : decode cX5_add 9 = .ok (.aload_n 0, 1) := by decide +kernel
theorem dX5_add_10 : decode cX5_add 10 = .ok (.getfield 15, 3) := by decide +kernel
theorem dX5_add_13 : decode cX5_add 13 = .ok (.aload_n 0, 1) := by decide +kernel
theorem dX5_add_14 : decode cX5_add 14 = .ok (.getfield 9, 3) := by decide +kernel
theorem dX5_add_17 : decode cX5_add 17 = .ok (.iload_n 1, 1) := by decide +kernel
theorem dX5_add_18 : decode cX5_add 18 = .ok (.iastore, 1) := by decide +kernel
theorem dX5_add_19 : decode cX5_add 19 = .ok (.aload_n 0, 1) := by decide +kernel
theorem dX5_add_20 : decode cX5_add 20 = .ok (.dup, 1) := by decide +kernel
theorem dX5_add_21 : decode cX5_add 21 = .ok (.getfield 9, 3) := by decide +kernel
theorem dX5_add_24 : decode cX5_add 24 = .ok (.iconst 1, 1) := by decide +kernel
theorem dX5_add_25 : decode cX5_add 25 = .ok (.iadd, 1) := by decide +kernel
theorem dX5_add_26 : decode cX5_add 26 = .ok (.putfield 9, 3) := by decide +kernel
theorem dX5_add_29 : decode cX5_add 29 = .ok (.return_, 1) := by decide +kernel
theorem dX5_readInto_0 : decode cX5_readInto 0 = .ok (.aload_n 0, 1) := by decide +kernel
theorem dX5_readInto_1 : decode cX5_readInto 1 = .ok (.invokevirtual 28, 3) := by decide +kernel
theorem dX5_readInto_4 : decode cX5_readInto 4 = .ok (.aload_n 0, 1) := by decide +kernel
theorem dX5_readInto_5 : decode cX5_readInto 5 = .ok (.iconst 0, 1) := by decide +kernel
theorem dX5_readInto_6 : decode cX5_readInto 6 = .ok (.putfield 31, 3) := by decide +kernel
theorem dX5_readInto_9 : decode cX5_readInto 9 = .ok (.iconst 1, 1) := by decide +kernel
theorem dX5_readInto_10 : decode cX5_readInto 10 = .ok (.istore_n 2, 1) := by decide +kernel
theorem dX5_readInto_11 : decode cX5_readInto 11 = .ok (.iload_n 2, 1) := by decide +kernel
theorem dX5_readInto_12 : decode cX5_readInto 12 = .ok (.bipush 120, 2) := by decide +kernel
theorem dX5_readInto_14 : decode cX5_readInto 14 = .ok (.if_icmp .gt 72, 3) := by decide +kernel
theorem dX5_readInto_17 : decode cX5_readInto 17 = .ok (.aload_n 0, 1) := by decide +kernel
theorem dX5_readInto_18 : decode cX5_readInto 18 = .ok (.aload_n 1, 1) := by decide +kernel
theorem dX5_readInto_19 : decode cX5_readInto 19 = .ok (.invokevirtual 34, 3) := by decide +kernel
theorem dX5_readInto_22 : decode cX5_readInto 22 = .ok (.ifCond .ne 15, 3) := by decide +kernel
theorem dX5_readInto_25 : decode cX5_readInto 25 = .ok (.iconst (-1), 1) := by decide +kernel
theorem dX5_readInto_26 : decode cX5_readInto 26 = .ok (.aload_n 0, 1) := by decide +kernel
theorem dX5_readInto_27 : decode cX5_readInto 27 = .ok (.getfield 22, 3) := by decide +kernel
theorem dX5_readInto_30 : decode cX5_readInto 30 = .ok (.aload_n 0, 1) := by decide +kernel
theorem dX5_readInto_31 : decode cX5_readInto 31 = .ok (.getfield 31, 3) := by decide +kernel
theorem dX5_readInto_34 : decode cX5_readInto 34 = .ok (.iaload, 1) := by decide +kernel
theorem dX5_readInto_35 : decode cX5_readInto 35 = .ok (.isub, 1) := by decide +kernel
theorem dX5_readInto_36 : decode cX5_readInto 36 = .ok (.ireturn, 1) := by decide +kernel
theorem dX5_readInto_37 : decode cX5_readInto 37 = .ok (.aload_n 0, 1) := by decide +kernel
theorem dX5_readInto_38 : decode cX5_readInto 38 = .ok (.getfield 19, 3) := by decide +kernel
theorem dX5_readInto_41 : decode cX5_readInto 41 = .ok (.aload_n 0, 1) := by decide +kernel
theorem dX5_readInto_42 : decode cX5_readInto 42 = .ok (.getfield 31, 3) := by decide +kernel
theorem dX5_readInto_45 : decode cX5_readInto 45 = .ok (.iaload, 1) := by decide +kernel
theorem dX5_readInto_46 : decode cX5_readInto 46 = .ok (.ifCond .ne 5, 3) := by decide +kernel
theorem dX5_readInto_49 : decode cX5_readInto 49 = .ok (.iload_n 2, 1) := by decide +kernel
theorem dX5_readInto_50 : decode cX5_readInto 50 = .ok (.ireturn, 1) := by decide +kernel
theorem dX5_readInto_51 : decode cX5_readInto 51 = .ok (.aload_n 0, 1) := by decide +kernel
theorem dX5_readInto_52 : decode cX5_readInto 52 = .ok (.getfield 19, 3) := by decide +kernel
theorem dX5_readInto_55 : decode cX5_readInto 55 = .ok (.aload_n 0, 1) := by decide +kernel
theorem dX5_readInto_56 : decode cX5_readInto 56 = .ok (.getfield 31, 3) := by decide +kernel
theorem dX5_readInto_59 : decode cX5_readInto 59 = .ok (.iaload, 1) := by decide +kernel
theorem dX5_readInto_60 : decode cX5_readInto 60 = .ok (.iconst 3, 1) := by decide +kernel
theorem dX5_readInto_61 : decode cX5_readInto 61 = .ok (.if_icmp .eq 15, 3) := by decide +kernel
theorem dX5_readInto_64 : decode cX5_readInto 64 = .ok (.iconst (-1), 1) := by decide +kernel
theorem dX5_readInto_65 : decode cX5_readInto 65 = .ok (.aload_n 0, 1) := by decide +kernel
theorem dX5_readInto_66 : decode cX5_readInto 66 = .ok (.getfield 22, 3) := by decide +kernel
theorem dX5_readInto_69 : decode cX5_readInto 69 = .ok (.aload_n 0, 1) := by decide +kernel
theorem dX5_readInto_70 : decode cX5_readInto 70 = .ok (.getfield 31, 3) := by decide +kernel
theorem dX5_readInto_73 : decode cX5_readInto 73 = .ok (.iaload, 1) := by decide +kernel
theorem dX5_readInto_74 : decode cX5_readInto 74 = .ok (.isub, 1) := by decide +kernel
theorem dX5_readInto_75 : decode cX5_readInto 75 = .ok (.ireturn, 1) := by decide +kernel
theorem dX5_readInto_76 : decode cX5_readInto 76 = .ok (.aload_n 0, 1) := by decide +kernel
theorem dX5_readInto_77 : decode cX5_readInto 77 = .ok (.invokevirtual 38, 3) := by decide +kernel
theorem dX5_readInto_80 : decode cX5_readInto 80 = .ok (.iinc 2 1, 3) := by decide +kernel
theorem dX5_readInto_83 : decode cX5_readInto 83 = .ok (.goto (-72), 3) := by decide +kernel
theorem dX5_readInto_86 : decode cX5_readInto 86 = .ok (.iconst (-1), 1) := by decide +kernel
theorem dX5_readInto_87 : decode cX5_readInto 87 = .ok (.aload_n 0, 1) := by decide +kernel
theorem dX5_readInto_88 : decode cX5_readInto 88 = .ok (.getfield 22, 3) := by decide +kernel
theorem dX5_readInto_91 : decode cX5_readInto 91 = .ok (.aload_n 0, 1) := by decide +kernel
theorem dX5_readInto_92 : decode cX5_readInto 92 = .ok (.getfield 31, 3) := by decide +kernel
theorem dX5_readInto_95 : decode cX5_readInto 95 = .ok (.iaload, 1) := by decide +kernel
theorem dX5_readInto_96 : decode cX5_readInto 96 = .ok (.isub, 1) := by decide +kernel
theorem dX5_readInto_97 : decode cX5_readInto 97 = .ok (.ireturn, 1) := by decide +kernel
theorem dX5_split_0 : decode cX5_split 0 = .ok (.aload_n 0, 1) := by decide +kernel
theorem dX5_split_1 : decode cX5_split 1 = .ok (.iconst 0, 1) := by decide +kernel
theorem dX5_split_2 : decode cX5_split 2 = .ok (.putfield 41, 3) := by decide +kernel
theorem dX5_split_5 : decode cX5_split 5 = .ok (.iconst 0, 1) := by decide +kernel
theorem dX5_split_6 : decode cX5_split 6 = .ok (.istore_n 1, 1) := by decide +kernel
theorem dX5_split_7 : decode cX5_split 7 = .ok (.iload_n 1, 1) := by decide +kernel
theorem dX5_split_8 : decode cX5_split 8 = .ok (.aload_n 0, 1) := by decide +kernel
theorem dX5_split_9 : decode cX5_split 9 = .ok (.getfield 9, 3) := by decide +kernel
theorem dX5_split_12 : decode cX5_split 12 = .ok (.if_icmp .ge 59, 3) := by decide +kernel
theorem dX5_split_15 : decode cX5_split 15 = .ok (.aload_n 0, 1) := by decide +kernel
theorem dX5_split_16 : decode cX5_split 16 = .ok (.iload_n 1, 1) := by decide +kernel
theorem dX5_split_17 : decode cX5_split 17 = .ok (.invokevirtual 44, 3) := by decide +kernel
theorem dX5_split_20 : decode cX5_split 20 = .ok (.istore_n 2, 1) := by decide +kernel
theorem dX5_split_21 : decode cX5_split 21 = .ok (.iload_n 1, 1) := by decide +kernel
theorem dX5_split_22 : decode cX5_split 22 = .ok (.istore_n 3, 1) := by decide +kernel
theorem dX5_split_23 : decode cX5_split 23 = .ok (.iinc 1 1, 3) := by decide +kernel
theorem dX5_split_26 : decode cX5_split 26 = .ok (.iload_n 1, 1) := by decide +kernel
theorem dX5_split_27 : decode cX5_split 27 = .ok (.aload_n 0, 1) := by decide +kernel
theorem dX5_split_28 : decode cX5_split 28 = .ok (.getfield 9, 3) := by decide +kernel
theorem dX5_split_31 : decode cX5_split 31 = .ok (.if_icmp .ge 25, 3) := by decide +kernel
theorem dX5_split_34 : decode cX5_split 34 = .ok (.iload_n 2, 1) := by decide +kernel
theorem dX5_split_35 : decode cX5_split 35 = .ok (.invokestatic 48, 3) := by decide +kernel
theorem dX5_split_38 : decode cX5_split 38 = .ok (.ifCond .eq 18, 3) := by decide +kernel
theorem dX5_split_41 : decode cX5_split 41 = .ok (.aload_n 0, 1) := by decide +kernel
theorem dX5_split_42 : decode cX5_split 42 = .ok (.iload_n 1, 1) := by decide +kernel
theorem dX5_split_43 : decode cX5_split 43 = .ok (.invokevirtual 44, 3) := by decide +kernel
theorem dX5_split_46 : decode cX5_split 46 = .ok (.iload_n 2, 1) := by decide +kernel
theorem dX5_split_47 : decode cX5_split 47 = .ok (.if_icmp .ne 9, 3) := by decide +kernel
theorem dX5_split_50 : decode cX5_split 50 = .ok (.iinc 1 1, 3) := by decide +kernel
theorem dX5_split_53 : decode cX5_split 53 = .ok (.goto (-27), 3) := by decide +kernel
theorem dX5_split_56 : decode cX5_split 56 = .ok (.iload_n 2, 1) := by decide +kernel
theorem dX5_split_57 : decode cX5_split 57 = .ok (.iconst 4, 1) := by decide +kernel
theorem dX5_split_58 : decode cX5_split 58 = .ok (.if_icmp .eq 10, 3) := by decide +kernel
theorem dX5_split_61 : decode cX5_split 61 = .ok (.aload_n 0, 1) := by decide +kernel
theorem dX5_split_62 : decode cX5_split 62 = .ok (.iload_n 2, 1) := by decide +kernel
theorem dX5_split_63 : decode cX5_split 63 = .ok (.iload_n 3, 1) := by decide +kernel
theorem dX5_split_64 : decode cX5_split 64 = .ok (.iload_n 1, 1) := by decide +kernel
theorem dX5_split_65 : decode cX5_split 65 = .ok (.invokevirtual 52, 3) := by decide +kernel
theorem dX5_split_68 : decode cX5_split 68 = .ok (.goto (-61), 3) := by decide +kernel
theorem dX5_split_71 : decode cX5_split 71 = .ok (.aload_n 0, 1) := by decide +kernel
theorem dX5_split_72 : decode cX5_split 72 = .ok (.iconst 0, 1) := by decide +kernel
theorem dX5_split_73 : decode cX5_split 73 = .ok (.aload_n 0, 1) := by decide +kernel
theorem dX5_split_74 : decode cX5_split 74 = .ok (.getfield 9, 3) := by decide +kernel
theorem dX5_split_77 : decode cX5_split 77 = .ok (.aload_n 0, 1) := by decide +kernel
theorem dX5_split_78 : decode cX5_split 78 = .ok (.getfield 9, 3) := by decide +kernel
theorem dX5_split_81 : decode cX5_split 81 = .ok (.invokevirtual 52, 3) := by decide +kernel
theorem dX5_split_84 : decode cX5_split 84 = .ok (.return_, 1) := by decide +kernel
theorem dX5_addToken_0 : decode cX5_addToken 0 = .ok (.aload_n 0, 1) := by decide +kernel
theorem dX5_addToken_1 : decode cX5_addToken 1 = .ok (.getfield 41, 3) := by decide +kernel
theorem dX5_addToken_4 : decode cX5_addToken 4 = .ok (.bipush 120, 2) := by decide +kernel
theorem dX5_addToken_6 : decode cX5_addToken 6 = .ok (.if_icmp .gt 43, 3) := by decide +kernel
theorem dX5_addToken_9 : decode cX5_addToken 9 = .ok (.aload_n 0, 1) := by decide +kernel
theorem dX5_addToken_10 : decode cX5_addToken 10 = .ok (.getfield 19, 3) := by decide +kernel
theorem dX5_addToken_13 : decode cX5_addToken 13 = .ok (.aload_n 0, 1) := by decide +kernel
theorem dX5_addToken_14 : decode cX5_addToken 14 = .ok (.getfield 41, 3) := by decide +kernel
theorem dX5_addToken_17 : decode cX5_addToken 17 = .ok (.iload_n 1, 1) := by decide +kernel
theorem dX5_addToken_18 : decode cX5_addToken 18 = .ok (.iastore, 1) := by decide +kernel
theorem dX5_addToken_19 : decode cX5_addToken 19 = .ok (.aload_n 0, 1) := by decide +kernel
theorem dX5_addToken_20 : decode cX5_addToken 20 = .ok (.getfield 22, 3) := by decide +kernel
theorem dX5_addToken_23 : decode cX5_addToken 23 = .ok (.aload_n 0, 1) := by decide +kernel
theorem dX5_addToken_24 : decode cX5_addToken 24 = .ok (.getfield 41, 3) := by decide +kernel
theorem dX5_addToken_27 : decode cX5_addToken 27 = .ok (.iload_n 2, 1) := by decide +kernel
theorem dX5_addToken_28 : decode cX5_addToken 28 = .ok (.iastore, 1) := by decide +kernel
theorem dX5_addToken_29 : decode cX5_addToken 29 = .ok (.aload_n 0, 1) := by decide +kernel
theorem dX5_addToken_30 : decode cX5_addToken 30 = .ok (.getfield 25, 3) := by decide +kernel
theorem dX5_addToken_33 : decode cX5_addToken 33 = .ok (.aload_n 0, 1) := by decide +kernel
theorem dX5_addToken_34 : decode cX5_addToken 34 = .ok (.getfield 41, 3) := by decide +kernel
theorem dX5_addToken_37 : decode cX5_addToken 37 = .ok (.iload_n 3, 1) := by decide +kernel
theorem dX5_addToken_38 : decode cX5_addToken 38 = .ok (.iastore, 1) := by decide +kernel
theorem dX5_addToken_39 : decode cX5_addToken 39 = .ok (.aload_n 0, 1) := by decide +kernel
theorem dX5_addToken_40 : decode cX5_addToken 40 = .ok (.dup, 1) := by decide +kernel
theorem dX5_addToken_41 : decode cX5_addToken 41 = .ok (.getfield 41, 3) := by decide +kernel
theorem dX5_addToken_44 : decode cX5_addToken 44 = .ok (.iconst 1, 1) := by decide +kernel
theorem dX5_addToken_45 : decode cX5_addToken 45 = .ok (.iadd, 1) := by decide +kernel
theorem dX5_addToken_46 : decode cX5_addToken 46 = .ok (.putfield 41, 3) := by decide +kernel
theorem dX5_addToken_49 : decode cX5_addToken 49 = .ok (.return_, 1) := by decide +kernel
theorem dX5_sortAt_0 : decode cX5_sortAt 0 = .ok (.aload_n 0, 1) := by decide +kernel
theorem dX5_sortAt_1 : decode cX5_sortAt 1 = .ok (.getfield 15, 3) := by decide +kernel
theorem dX5_sortAt_4 : decode cX5_sortAt 4 = .ok (.iload_n 1, 1) := by decide +kernel
theorem dX5_sortAt_5 : decode cX5_sortAt 5 = .ok (.iaload, 1) := by decide +kernel
theorem dX5_sortAt_6 : decode cX5_sortAt 6 = .ok (.istore_n 2, 1) := by decide +kernel
theorem dX5_sortAt_7 : decode cX5_sortAt 7 = .ok (.iload_n 2, 1) := by decide +kernel
theorem dX5_sortAt_8 : decode cX5_sortAt 8 = .ok (.bipush 97, 2) := by decide +kernel
theorem dX5_sortAt_10 : decode cX5_sortAt 10 = .ok (.if_icmp .lt 11, 3) := by decide +kernel
theorem dX5_sortAt_13 : decode cX5_sortAt 13 = .ok (.iload_n 2, 1) := by decide +kernel
theorem dX5_sortAt_14 : decode cX5_sortAt 14 = .ok (.bipush 122, 2) := by decide +kernel
theorem dX5_sortAt_16 : decode cX5_sortAt 16 = .ok (.if_icmp .gt 5, 3) := by decide +kernel
theorem dX5_sortAt_19 : decode cX5_sortAt 19 = .ok (.iconst 1, 1) := by decide +kernel
theorem dX5_sortAt_20 : decode cX5_sortAt 20 = .ok (.ireturn, 1) := by decide +kernel
theorem dX5_sortAt_21 : decode cX5_sortAt 21 = .ok (.iload_n 2, 1) := by decide +kernel
theorem dX5_sortAt_22 : decode cX5_sortAt 22 = .ok (.bipush 48, 2) := by decide +kernel
theorem dX5_sortAt_24 : decode cX5_sortAt 24 = .ok (.if_icmp .lt 11, 3) := by decide +kernel
theorem dX5_sortAt_27 : decode cX5_sortAt 27 = .ok (.iload_n 2, 1) := by decide +kernel
theorem dX5_sortAt_28 : decode cX5_sortAt 28 = .ok (.bipush 57, 2) := by decide +kernel
theorem dX5_sortAt_30 : decode cX5_sortAt 30 = .ok (.if_icmp .gt 5, 3) := by decide +kernel
theorem dX5_sortAt_33 : decode cX5_sortAt 33 = .ok (.iconst 2, 1) := by decide +kernel
theorem dX5_sortAt_34 : decode cX5_sortAt 34 = .ok (.ireturn, 1) := by decide +kernel
theorem dX5_sortAt_35 : decode cX5_sortAt 35 = .ok (.iload_n 2, 1) := by decide +kernel
theorem dX5_sortAt_36 : decode cX5_sortAt 36 = .ok (.bipush 59, 2) := by decide +kernel
theorem dX5_sortAt_38 : decode cX5_sortAt 38 = .ok (.if_icmp .ne 7, 3) := by decide +kernel
theorem dX5_sortAt_41 : decode cX5_sortAt 41 = .ok (.iconst 3, 1) := by decide +kernel
theorem dX5_sortAt_42 : decode cX5_sortAt 42 = .ok (.goto 14, 3) := by decide +kernel
theorem dX5_sortAt_45 : decode cX5_sortAt 45 = .ok (.iload_n 2, 1) := by decide +kernel
theorem dX5_sortAt_46 : decode cX5_sortAt 46 = .ok (.bipush 32, 2) := by decide +kernel
theorem dX5_sortAt_48 : decode cX5_sortAt 48 = .ok (.if_icmp .ne 7, 3) := by decide +kernel
theorem dX5_sortAt_51 : decode cX5_sortAt 51 = .ok (.iconst 4, 1) := by decide +kernel
theorem dX5_sortAt_52 : decode cX5_sortAt 52 = .ok (.goto 4, 3) := by decide +kernel
theorem dX5_sortAt_55 : decode cX5_sortAt 55 = .ok (.iconst 5, 1) := by decide +kernel
theorem dX5_sortAt_56 : decode cX5_sortAt 56 = .ok (.ireturn, 1) := by decide +kernel
theorem dX5_isLong_0 : decode cX5_isLong 0 = .ok (.iload_n 0, 1) := by decide +kernel
theorem dX5_isLong_1 : decode cX5_isLong 1 = .ok (.iconst 1, 1) := by decide +kernel
theorem dX5_isLong_2 : decode cX5_isLong 2 = .ok (.if_icmp .eq 8, 3) := by decide +kernel
theorem dX5_isLong_5 : decode cX5_isLong 5 = .ok (.iload_n 0, 1) := by decide +kernel
theorem dX5_isLong_6 : decode cX5_isLong 6 = .ok (.iconst 2, 1) := by decide +kernel
theorem dX5_isLong_7 : decode cX5_isLong 7 = .ok (.if_icmp .ne 7, 3) := by decide +kernel
theorem dX5_isLong_10 : decode cX5_isLong 10 = .ok (.iconst 1, 1) := by decide +kernel
theorem dX5_isLong_11 : decode cX5_isLong 11 = .ok (.goto 4, 3) := by decide +kernel
theorem dX5_isLong_14 : decode cX5_isLong 14 = .ok (.iconst 0, 1) := by decide +kernel
theorem dX5_isLong_15 : decode cX5_isLong 15 = .ok (.ireturn, 1) := by decide +kernel
theorem dX5_advance_0 : decode cX5_advance 0 = .ok (.aload_n 0, 1) := by decide +kernel
theorem dX5_advance_1 : decode cX5_advance 1 = .ok (.getfield 31, 3) := by decide +kernel
theorem dX5_advance_4 : decode cX5_advance 4 = .ok (.aload_n 0, 1) := by decide +kernel
theorem dX5_advance_5 : decode cX5_advance 5 = .ok (.getfield 41, 3) := by decide +kernel
theorem dX5_advance_8 : decode cX5_advance 8 = .ok (.iconst 1, 1) := by decide +kernel
theorem dX5_advance_9 : decode cX5_advance 9 = .ok (.isub, 1) := by decide +kernel
theorem dX5_advance_10 : decode cX5_advance 10 = .ok (.if_icmp .ge 13, 3) := by decide +kernel
theorem dX5_advance_13 : decode cX5_advance 13 = .ok (.aload_n 0, 1) := by decide +kernel
theorem dX5_advance_14 : decode cX5_advance 14 = .ok (.dup, 1) := by decide +kernel
theorem dX5_advance_15 : decode cX5_advance 15 = .ok (.getfield 31, 3) := by decide +kernel
theorem dX5_advance_18 : decode cX5_advance 18 = .ok (.iconst 1, 1) := by decide +kernel
theorem dX5_advance_19 : decode cX5_advance 19 = .ok (.iadd, 1) := by decide +kernel
theorem dX5_advance_20 : decode cX5_advance 20 = .ok (.putfield 31, 3) := by decide +kernel
theorem dX5_advance_23 : decode cX5_advance 23 = .ok (.return_, 1) := by decide +kernel
theorem dX5_isWord_0 : decode cX5_isWord 0 = .ok (.aload_n 0, 1) := by decide +kernel
theorem dX5_isWord_1 : decode cX5_isWord 1 = .ok (.getfield 19, 3) := by decide +kernel
theorem dX5_isWord_4 : decode cX5_isWord 4 = .ok (.aload_n 0, 1) := by decide +kernel
theorem dX5_isWord_5 : decode cX5_isWord 5 = .ok (.getfield 31, 3) := by decide +kernel
theorem dX5_isWord_8 : decode cX5_isWord 8 = .ok (.iaload, 1) := by decide +kernel
theorem dX5_isWord_9 : decode cX5_isWord 9 = .ok (.iconst 1, 1) := by decide +kernel
theorem dX5_isWord_10 : decode cX5_isWord 10 = .ok (.if_icmp .ne 29, 3) := by decide +kernel
theorem dX5_isWord_13 : decode cX5_isWord 13 = .ok (.aload_n 0, 1) := by decide +kernel
theorem dX5_isWord_14 : decode cX5_isWord 14 = .ok (.getfield 25, 3) := by decide +kernel
theorem dX5_isWord_17 : decode cX5_isWord 17 = .ok (.aload_n 0, 1) := by decide +kernel
theorem dX5_isWord_18 : decode cX5_isWord 18 = .ok (.getfield 31, 3) := by decide +kernel
theorem dX5_isWord_21 : decode cX5_isWord 21 = .ok (.iaload, 1) := by decide +kernel
theorem dX5_isWord_22 : decode cX5_isWord 22 = .ok (.aload_n 0, 1) := by decide +kernel
theorem dX5_isWord_23 : decode cX5_isWord 23 = .ok (.getfield 22, 3) := by decide +kernel
theorem dX5_isWord_26 : decode cX5_isWord 26 = .ok (.aload_n 0, 1) := by decide +kernel
theorem dX5_isWord_27 : decode cX5_isWord 27 = .ok (.getfield 31, 3) := by decide +kernel
theorem dX5_isWord_30 : decode cX5_isWord 30 = .ok (.iaload, 1) := by decide +kernel
theorem dX5_isWord_31 : decode cX5_isWord 31 = .ok (.isub, 1) := by decide +kernel
theorem dX5_isWord_32 : decode cX5_isWord 32 = .ok (.aload_n 1, 1) := by decide +kernel
theorem dX5_isWord_33 : decode cX5_isWord 33 = .ok (.invokevirtual 56, 3) := by decide +kernel
theorem dX5_isWord_36 : decode cX5_isWord 36 = .ok (.if_icmp .eq 5, 3) := by decide +kernel
theorem dX5_isWord_39 : decode cX5_isWord 39 = .ok (.iconst 0, 1) := by decide +kernel
theorem dX5_isWord_40 : decode cX5_isWord 40 = .ok (.ireturn, 1) := by decide +kernel
theorem dX5_isWord_41 : decode cX5_isWord 41 = .ok (.iconst 0, 1) := by decide +kernel
theorem dX5_isWord_42 : decode cX5_isWord 42 = .ok (.istore_n 2, 1) := by decide +kernel
theorem dX5_isWord_43 : decode cX5_isWord 43 = .ok (.iload_n 2, 1) := by decide +kernel
theorem dX5_isWord_44 : decode cX5_isWord 44 = .ok (.aload_n 1, 1) := by decide +kernel
theorem dX5_isWord_45 : decode cX5_isWord 45 = .ok (.invokevirtual 56, 3) := by decide +kernel
theorem dX5_isWord_48 : decode cX5_isWord 48 = .ok (.if_icmp .ge 35, 3) := by decide +kernel
theorem dX5_isWord_51 : decode cX5_isWord 51 = .ok (.aload_n 0, 1) := by decide +kernel
theorem dX5_isWord_52 : decode cX5_isWord 52 = .ok (.getfield 15, 3) := by decide +kernel
theorem dX5_isWord_55 : decode cX5_isWord 55 = .ok (.aload_n 0, 1) := by decide +kernel
theorem dX5_isWord_56 : decode cX5_isWord 56 = .ok (.getfield 22, 3) := by decide +kernel
theorem dX5_isWord_59 : decode cX5_isWord 59 = .ok (.aload_n 0, 1) := by decide +kernel
theorem dX5_isWord_60 : decode cX5_isWord 60 = .ok (.getfield 31, 3) := by decide +kernel
theorem dX5_isWord_63 : decode cX5_isWord 63 = .ok (.iaload, 1) := by decide +kernel
theorem dX5_isWord_64 : decode cX5_isWord 64 = .ok (.iload_n 2, 1) := by decide +kernel
theorem dX5_isWord_65 : decode cX5_isWord 65 = .ok (.iadd, 1) := by decide +kernel
theorem dX5_isWord_66 : decode cX5_isWord 66 = .ok (.iaload, 1) := by decide +kernel
theorem dX5_isWord_67 : decode cX5_isWord 67 = .ok (.aload_n 1, 1) := by decide +kernel
theorem dX5_isWord_68 : decode cX5_isWord 68 = .ok (.iload_n 2, 1) := by decide +kernel
theorem dX5_isWord_69 : decode cX5_isWord 69 = .ok (.invokevirtual 61, 3) := by decide +kernel
theorem dX5_isWord_72 : decode cX5_isWord 72 = .ok (.if_icmp .eq 5, 3) := by decide +kernel
theorem dX5_isWord_75 : decode cX5_isWord 75 = .ok (.iconst 0, 1) := by decide +kernel
theorem dX5_isWord_76 : decode cX5_isWord 76 = .ok (.ireturn, 1) := by decide +kernel
theorem dX5_isWord_77 : decode cX5_isWord 77 = .ok (.iinc 2 1, 3) := by decide +kernel
theorem dX5_isWord_80 : decode cX5_isWord 80 = .ok (.goto (-37), 3) := by decide +kernel
theorem dX5_isWord_83 : decode cX5_isWord 83 = .ok (.iconst 1, 1) := by decide +kernel
theorem dX5_isWord_84 : decode cX5_isWord 84 = .ok (.ireturn, 1) := by decide +kernel
theorem dX5_takeWord_0 : decode cX5_takeWord 0 = .ok (.aload_n 0, 1) := by decide +kernel
theorem dX5_takeWord_1 : decode cX5_takeWord 1 = .ok (.aload_n 1, 1) := by decide +kernel
theorem dX5_takeWord_2 : decode cX5_takeWord 2 = .ok (.invokevirtual 65, 3) := by decide +kernel
theorem dX5_takeWord_5 : decode cX5_takeWord 5 = .ok (.istore_n 2, 1) := by decide +kernel
theorem dX5_takeWord_6 : decode cX5_takeWord 6 = .ok (.iload_n 2, 1) := by decide +kernel
theorem dX5_takeWord_7 : decode cX5_takeWord 7 = .ok (.ifCond .eq 7, 3) := by decide +kernel
theorem dX5_takeWord_10 : decode cX5_takeWord 10 = .ok (.aload_n 0, 1) := by decide +kernel
theorem dX5_takeWord_11 : decode cX5_takeWord 11 = .ok (.invokevirtual 38, 3) := by decide +kernel
theorem dX5_takeWord_14 : decode cX5_takeWord 14 = .ok (.iload_n 2, 1) := by decide +kernel
theorem dX5_takeWord_15 : decode cX5_takeWord 15 = .ok (.ireturn, 1) := by decide +kernel
theorem dX5_takeNumber_0 : decode cX5_takeNumber 0 = .ok (.aload_n 0, 1) := by decide +kernel
theorem dX5_takeNumber_1 : decode cX5_takeNumber 1 = .ok (.getfield 19, 3) := by decide +kernel
theorem dX5_takeNumber_4 : decode cX5_takeNumber 4 = .ok (.aload_n 0, 1) := by decide +kernel
theorem dX5_takeNumber_5 : decode cX5_takeNumber 5 = .ok (.getfield 31, 3) := by decide +kernel
theorem dX5_takeNumber_8 : decode cX5_takeNumber 8 = .ok (.iaload, 1) := by decide +kernel
theorem dX5_takeNumber_9 : decode cX5_takeNumber 9 = .ok (.iconst 2, 1) := by decide +kernel
theorem dX5_takeNumber_10 : decode cX5_takeNumber 10 = .ok (.if_icmp .eq 5, 3) := by decide +kernel
theorem dX5_takeNumber_13 : decode cX5_takeNumber 13 = .ok (.iconst (-1), 1) := by decide +kernel
theorem dX5_takeNumber_14 : decode cX5_takeNumber 14 = .ok (.ireturn, 1) := by decide +kernel
theorem dX5_takeNumber_15 : decode cX5_takeNumber 15 = .ok (.iconst 0, 1) := by decide +kernel
theorem dX5_takeNumber_16 : decode cX5_takeNumber 16 = .ok (.istore_n 2, 1) := by decide +kernel
theorem dX5_takeNumber_17 : decode cX5_takeNumber 17 = .ok (.aload_n 0, 1) := by decide +kernel
theorem dX5_takeNumber_18 : decode cX5_takeNumber 18 = .ok (.getfield 22, 3) := by decide +kernel
theorem dX5_takeNumber_21 : decode cX5_takeNumber 21 = .ok (.aload_n 0, 1) := by decide +kernel
theorem dX5_takeNumber_22 : decode cX5_takeNumber 22 = .ok (.getfield 31, 3) := by decide +kernel
theorem dX5_takeNumber_25 : decode cX5_takeNumber 25 = .ok (.iaload, 1) := by decide +kernel
theorem dX5_takeNumber_26 : decode cX5_takeNumber 26 = .ok (.istore_n 3, 1) := by decide +kernel
theorem dX5_takeNumber_27 : decode cX5_takeNumber 27 = .ok (.iload_n 3, 1) := by decide +kernel
theorem dX5_takeNumber_28 : decode cX5_takeNumber 28 = .ok (.aload_n 0, 1) := by decide +kernel
theorem dX5_takeNumber_29 : decode cX5_takeNumber 29 = .ok (.getfield 25, 3) := by decide +kernel
theorem dX5_takeNumber_32 : decode cX5_takeNumber 32 = .ok (.aload_n 0, 1) := by decide +kernel
theorem dX5_takeNumber_33 : decode cX5_takeNumber 33 = .ok (.getfield 31, 3) := by decide +kernel
theorem dX5_takeNumber_36 : decode cX5_takeNumber 36 = .ok (.iaload, 1) := by decide +kernel
theorem dX5_takeNumber_37 : decode cX5_takeNumber 37 = .ok (.if_icmp .ge 30, 3) := by decide +kernel
theorem dX5_takeNumber_40 : decode cX5_takeNumber 40 = .ok (.sipush 1000, 3) := by decide +kernel
theorem dX5_takeNumber_43 : decode cX5_takeNumber 43 = .ok (.iload_n 2, 1) := by decide +kernel
theorem dX5_takeNumber_44 : decode cX5_takeNumber 44 = .ok (.bipush 10, 2) := by decide +kernel
theorem dX5_takeNumber_46 : decode cX5_takeNumber 46 = .ok (.imul, 1) := by decide +kernel
theorem dX5_takeNumber_47 : decode cX5_takeNumber 47 = .ok (.aload_n 0, 1) := by decide +kernel
theorem dX5_takeNumber_48 : decode cX5_takeNumber 48 = .ok (.getfield 15, 3) := by decide +kernel
theorem dX5_takeNumber_51 : decode cX5_takeNumber 51 = .ok (.iload_n 3, 1) := by decide +kernel
theorem dX5_takeNumber_52 : decode cX5_takeNumber 52 = .ok (.iaload, 1) := by decide +kernel
theorem dX5_takeNumber_53 : decode cX5_takeNumber 53 = .ok (.iadd, 1) := by decide +kernel
theorem dX5_takeNumber_54 : decode cX5_takeNumber 54 = .ok (.bipush 48, 2) := by decide +kernel
theorem dX5_takeNumber_56 : decode cX5_takeNumber 56 = .ok (.isub, 1) := by decide +kernel
theorem dX5_takeNumber_57 : decode cX5_takeNumber 57 = .ok (.invokestatic 69, 3) := by decide +kernel
theorem dX5_takeNumber_60 : decode cX5_takeNumber 60 = .ok (.istore_n 2, 1) := by decide +kernel
theorem dX5_takeNumber_61 : decode cX5_takeNumber 61 = .ok (.iinc 3 1, 3) := by decide +kernel
theorem dX5_takeNumber_64 : decode cX5_takeNumber 64 = .ok (.goto (-37), 3) := by decide +kernel
theorem dX5_takeNumber_67 : decode cX5_takeNumber 67 = .ok (.iload_n 2, 1) := by decide +kernel
theorem dX5_takeNumber_68 : decode cX5_takeNumber 68 = .ok (.iload_n 1, 1) := by decide +kernel
theorem dX5_takeNumber_69 : decode cX5_takeNumber 69 = .ok (.if_icmp .le 5, 3) := by decide +kernel
theorem dX5_takeNumber_72 : decode cX5_takeNumber 72 = .ok (.iconst (-1), 1) := by decide +kernel
theorem dX5_takeNumber_73 : decode cX5_takeNumber 73 = .ok (.ireturn, 1) := by decide +kernel
theorem dX5_takeNumber_74 : decode cX5_takeNumber 74 = .ok (.aload_n 0, 1) := by decide +kernel
theorem dX5_takeNumber_75 : decode cX5_takeNumber 75 = .ok (.invokevirtual 38, 3) := by decide +kernel
theorem dX5_takeNumber_78 : decode cX5_takeNumber 78 = .ok (.iload_n 2, 1) := by decide +kernel
theorem dX5_takeNumber_79 : decode cX5_takeNumber 79 = .ok (.ireturn, 1) := by decide +kernel
theorem dX5_readItem_0 : decode cX5_readItem 0 = .ok (.aload_n 0, 1) := by decide +kernel
theorem dX5_readItem_1 : decode cX5_readItem 1 = .ok (.invokevirtual 75, 3) := by decide +kernel
theorem dX5_readItem_4 : decode cX5_readItem 4 = .ok (.istore_n 2, 1) := by decide +kernel
theorem dX5_readItem_5 : decode cX5_readItem 5 = .ok (.iload_n 2, 1) := by decide +kernel
theorem dX5_readItem_6 : decode cX5_readItem 6 = .ok (.ifCond .lt 10, 3) := by decide +kernel
theorem dX5_readItem_9 : decode cX5_readItem 9 = .ok (.aload_n 0, 1) := by decide +kernel
theorem dX5_readItem_10 : decode cX5_readItem 10 = .ok (.aload_n 1, 1) := by decide +kernel
theorem dX5_readItem_11 : decode cX5_readItem 11 = .ok (.iload_n 2, 1) := by decide +kernel
theorem dX5_readItem_12 : decode cX5_readItem 12 = .ok (.invokevirtual 78, 3) := by decide +kernel
theorem dX5_readItem_15 : decode cX5_readItem 15 = .ok (.ireturn, 1) := by decide +kernel
theorem dX5_readItem_16 : decode cX5_readItem 16 = .ok (.aload_n 0, 1) := by decide +kernel
theorem dX5_readItem_17 : decode cX5_readItem 17 = .ok (.ldc 82, 2) := by decide +kernel
theorem dX5_readItem_19 : decode cX5_readItem 19 = .ok (.invokevirtual 65, 3) := by decide +kernel
theorem dX5_readItem_22 : decode cX5_readItem 22 = .ok (.ifCond .eq 9, 3) := by decide +kernel
theorem dX5_readItem_25 : decode cX5_readItem 25 = .ok (.aload_n 0, 1) := by decide +kernel
theorem dX5_readItem_26 : decode cX5_readItem 26 = .ok (.aload_n 1, 1) := by decide +kernel
theorem dX5_readItem_27 : decode cX5_readItem 27 = .ok (.invokevirtual 84, 3) := by decide +kernel
theorem dX5_readItem_30 : decode cX5_readItem 30 = .ok (.ireturn, 1) := by decide +kernel
theorem dX5_readItem_31 : decode cX5_readItem 31 = .ok (.aload_n 0, 1) := by decide +kernel
theorem dX5_readItem_32 : decode cX5_readItem 32 = .ok (.ldc 87, 2) := by decide +kernel
theorem dX5_readItem_34 : decode cX5_readItem 34 = .ok (.invokevirtual 89, 3) := by decide +kernel
theorem dX5_readItem_37 : decode cX5_readItem 37 = .ok (.ifCond .eq 15, 3) := by decide +kernel
theorem dX5_readItem_40 : decode cX5_readItem 40 = .ok (.aload_n 0, 1) := by decide +kernel
theorem dX5_readItem_41 : decode cX5_readItem 41 = .ok (.aload_n 1, 1) := by decide +kernel
theorem dX5_readItem_42 : decode cX5_readItem 42 = .ok (.invokevirtual 92, 3) := by decide +kernel
theorem dX5_readItem_45 : decode cX5_readItem 45 = .ok (.ifCond .eq 7, 3) := by decide +kernel
theorem dX5_readItem_48 : decode cX5_readItem 48 = .ok (.iconst 1, 1) := by decide +kernel
theorem dX5_readItem_49 : decode cX5_readItem 49 = .ok (.goto 4, 3) := by decide +kernel
theorem dX5_readItem_52 : decode cX5_readItem 52 = .ok (.iconst 0, 1) := by decide +kernel
theorem dX5_readItem_53 : decode cX5_readItem 53 = .ok (.ireturn, 1) := by decide +kernel
theorem dX5_kindHere_0 : decode cX5_kindHere 0 = .ok (.iconst 0, 1) := by decide +kernel
theorem dX5_kindHere_1 : decode cX5_kindHere 1 = .ok (.istore_n 1, 1) := by decide +kernel
theorem dX5_kindHere_2 : decode cX5_kindHere 2 = .ok (.iload_n 1, 1) := by decide +kernel
theorem dX5_kindHere_3 : decode cX5_kindHere 3 = .ok (.bipush 7, 2) := by decide +kernel
theorem dX5_kindHere_5 : decode cX5_kindHere 5 = .ok (.if_icmp .ge 22, 3) := by decide +kernel
theorem dX5_kindHere_8 : decode cX5_kindHere 8 = .ok (.aload_n 0, 1) := by decide +kernel
theorem dX5_kindHere_9 : decode cX5_kindHere 9 = .ok (.iload_n 1, 1) := by decide +kernel
theorem dX5_kindHere_10 : decode cX5_kindHere 10 = .ok (.invokestatic 95, 3) := by decide +kernel
theorem dX5_kindHere_13 : decode cX5_kindHere 13 = .ok (.invokevirtual 65, 3) := by decide +kernel
theorem dX5_kindHere_16 : decode cX5_kindHere 16 = .ok (.ifCond .eq 5, 3) := by decide +kernel
theorem dX5_kindHere_19 : decode cX5_kindHere 19 = .ok (.iload_n 1, 1) := by decide +kernel
theorem dX5_kindHere_20 : decode cX5_kindHere 20 = .ok (.ireturn, 1) := by decide +kernel
theorem dX5_kindHere_21 : decode cX5_kindHere 21 = .ok (.iinc 1 1, 3) := by decide +kernel
theorem dX5_kindHere_24 : decode cX5_kindHere 24 = .ok (.goto (-22), 3) := by decide +kernel
theorem dX5_kindHere_27 : decode cX5_kindHere 27 = .ok (.iconst (-1), 1) := by decide +kernel
theorem dX5_kindHere_28 : decode cX5_kindHere 28 = .ok (.ireturn, 1) := by decide +kernel
theorem dX5_nameOf_0 : decode cX5_nameOf 0 = .ok (.iload_n 0, 1) := by decide +kernel
theorem dX5_nameOf_1 : decode cX5_nameOf 1 = .ok (.tableswitch 57 1 6 #[39, 42, 45, 48, 51, 54], 39) := by decide +kernel
theorem dX5_nameOf_40 : decode cX5_nameOf 40 = .ok (.ldc 99, 2) := by decide +kernel
theorem dX5_nameOf_42 : decode cX5_nameOf 42 = .ok (.areturn, 1) := by decide +kernel
theorem dX5_nameOf_43 : decode cX5_nameOf 43 = .ok (.ldc 101, 2) := by decide +kernel
theorem dX5_nameOf_45 : decode cX5_nameOf 45 = .ok (.areturn, 1) := by decide +kernel
theorem dX5_nameOf_46 : decode cX5_nameOf 46 = .ok (.ldc 103, 2) := by decide +kernel
theorem dX5_nameOf_48 : decode cX5_nameOf 48 = .ok (.areturn, 1) := by decide +kernel
theorem dX5_nameOf_49 : decode cX5_nameOf 49 = .ok (.ldc 105, 2) := by decide +kernel
theorem dX5_nameOf_51 : decode cX5_nameOf 51 = .ok (.areturn, 1) := by decide +kernel
theorem dX5_nameOf_52 : decode cX5_nameOf 52 = .ok (.ldc 107, 2) := by decide +kernel
theorem dX5_nameOf_54 : decode cX5_nameOf 54 = .ok (.areturn, 1) := by decide +kernel
theorem dX5_nameOf_55 : decode cX5_nameOf 55 = .ok (.ldc 109, 2) := by decide +kernel
theorem dX5_nameOf_57 : decode cX5_nameOf 57 = .ok (.areturn, 1) := by decide +kernel
theorem dX5_nameOf_58 : decode cX5_nameOf 58 = .ok (.ldc 111, 2) := by decide +kernel
theorem dX5_nameOf_60 : decode cX5_nameOf 60 = .ok (.areturn, 1) := by decide +kernel
theorem dX5_readBird_0 : decode cX5_readBird 0 = .ok (.aload_n 1, 1) := by decide +kernel
theorem dX5_readBird_1 : decode cX5_readBird 1 = .ok (.iload_n 2, 1) := by decide +kernel
theorem dX5_readBird_2 : decode cX5_readBird 2 = .ok (.invokevirtual 113, 3) := by decide +kernel
theorem dX5_readBird_5 : decode cX5_readBird 5 = .ok (.istore_n 3, 1) := by decide +kernel
theorem dX5_readBird_6 : decode cX5_readBird 6 = .ok (.iload_n 3, 1) := by decide +kernel
theorem dX5_readBird_7 : decode cX5_readBird 7 = .ok (.ifCond .ge 5, 3) := by decide +kernel
theorem dX5_readBird_10 : decode cX5_readBird 10 = .ok (.iconst 0, 1) := by decide +kernel
theorem dX5_readBird_11 : decode cX5_readBird 11 = .ok (.ireturn, 1) := by decide +kernel
theorem dX5_readBird_12 : decode cX5_readBird 12 = .ok (.aload_n 0, 1) := by decide +kernel
theorem dX5_readBird_13 : decode cX5_readBird 13 = .ok (.invokevirtual 38, 3) := by decide +kernel
theorem dX5_readBird_16 : decode cX5_readBird 16 = .ok (.aload_n 1, 1) := by decide +kernel
theorem dX5_readBird_17 : decode cX5_readBird 17 = .ok (.getfield 118, 3) := by decide +kernel
theorem dX5_readBird_20 : decode cX5_readBird 20 = .ok (.iload_n 3, 1) := by decide +kernel
theorem dX5_readBird_21 : decode cX5_readBird 21 = .ok (.aaload, 1) := by decide +kernel
theorem dX5_readBird_22 : decode cX5_readBird 22 = .ok (.astore 4, 2) := by decide +kernel
theorem dX5_readBird_24 : decode cX5_readBird 24 = .ok (.aload_n 0, 1) := by decide +kernel
theorem dX5_readBird_25 : decode cX5_readBird 25 = .ok (.aload 4, 2) := by decide +kernel
theorem dX5_readBird_27 : decode cX5_readBird 27 = .ok (.invokevirtual 122, 3) := by decide +kernel
theorem dX5_readBird_30 : decode cX5_readBird 30 = .ok (.ifCond .eq 31, 3) := by decide +kernel
theorem dX5_readBird_33 : decode cX5_readBird 33 = .ok (.aload_n 0, 1) := by decide +kernel
theorem dX5_readBird_34 : decode cX5_readBird 34 = .ok (.aload 4, 2) := by decide +kernel
theorem dX5_readBird_36 : decode cX5_readBird 36 = .ok (.ldc 126, 2) := by decide +kernel
theorem dX5_readBird_38 : decode cX5_readBird 38 = .ok (.iconst 1, 1) := by decide +kernel
theorem dX5_readBird_39 : decode cX5_readBird 39 = .ok (.invokevirtual 128, 3) := by decide +kernel
theorem dX5_readBird_42 : decode cX5_readBird 42 = .ok (.ifCond .eq 19, 3) := by decide +kernel
theorem dX5_readBird_45 : decode cX5_readBird 45 = .ok (.aload_n 0, 1) := by decide +kernel
theorem dX5_readBird_46 : decode cX5_readBird 46 = .ok (.aload 4, 2) := by decide +kernel
theorem dX5_readBird_48 : decode cX5_readBird 48 = .ok (.ldc 132, 2) := by decide +kernel
theorem dX5_readBird_50 : decode cX5_readBird 50 = .ok (.iconst 2, 1) := by decide +kernel
theorem dX5_readBird_51 : decode cX5_readBird 51 = .ok (.invokevirtual 128, 3) := by decide +kernel
theorem dX5_readBird_54 : decode cX5_readBird 54 = .ok (.ifCond .eq 7, 3) := by decide +kernel
theorem dX5_readBird_57 : decode cX5_readBird 57 = .ok (.iconst 1, 1) := by decide +kernel
theorem dX5_readBird_58 : decode cX5_readBird 58 = .ok (.goto 4, 3) := by decide +kernel
theorem dX5_readBird_61 : decode cX5_readBird 61 = .ok (.iconst 0, 1) := by decide +kernel
theorem dX5_readBird_62 : decode cX5_readBird 62 = .ok (.ireturn, 1) := by decide +kernel
theorem dX5_readFeathers_0 : decode cX5_readFeathers 0 = .ok (.aload_n 0, 1) := by decide +kernel
theorem dX5_readFeathers_1 : decode cX5_readFeathers 1 = .ok (.ldc 134, 2) := by decide +kernel
theorem dX5_readFeathers_3 : decode cX5_readFeathers 3 = .ok (.invokevirtual 89, 3) := by decide +kernel
theorem dX5_readFeathers_6 : decode cX5_readFeathers 6 = .ok (.ifCond .ne 5, 3) := by decide +kernel
theorem dX5_readFeathers_9 : decode cX5_readFeathers 9 = .ok (.iconst 1, 1) := by decide +kernel
theorem dX5_readFeathers_10 : decode cX5_readFeathers 10 = .ok (.ireturn, 1) := by decide +kernel
theorem dX5_readFeathers_11 : decode cX5_readFeathers 11 = .ok (.iconst 0, 1) := by decide +kernel
theorem dX5_readFeathers_12 : decode cX5_readFeathers 12 = .ok (.istore_n 2, 1) := by decide +kernel
theorem dX5_readFeathers_13 : decode cX5_readFeathers 13 = .ok (.iload_n 2, 1) := by decide +kernel
theorem dX5_readFeathers_14 : decode cX5_readFeathers 14 = .ok (.iconst 4, 1) := by decide +kernel
theorem dX5_readFeathers_15 : decode cX5_readFeathers 15 = .ok (.if_icmp .ge 46, 3) := by decide +kernel
theorem dX5_readFeathers_18 : decode cX5_readFeathers 18 = .ok (.iload_n 2, 1) := by decide +kernel
theorem dX5_readFeathers_19 : decode cX5_readFeathers 19 = .ok (.ifCond .eq 16, 3) := by decide +kernel
theorem dX5_readFeathers_22 : decode cX5_readFeathers 22 = .ok (.aload_n 0, 1) := by decide +kernel
theorem dX5_readFeathers_23 : decode cX5_readFeathers 23 = .ok (.getfield 19, 3) := by decide +kernel
theorem dX5_readFeathers_26 : decode cX5_readFeathers 26 = .ok (.aload_n 0, 1) := by decide +kernel
theorem dX5_readFeathers_27 : decode cX5_readFeathers 27 = .ok (.getfield 31, 3) := by decide +kernel
theorem dX5_readFeathers_30 : decode cX5_readFeathers 30 = .ok (.iaload, 1) := by decide +kernel
theorem dX5_readFeathers_31 : decode cX5_readFeathers 31 = .ok (.iconst 2, 1) := by decide +kernel
theorem dX5_readFeathers_32 : decode cX5_readFeathers 32 = .ok (.if_icmp .ne 29, 3) := by decide +kernel
theorem dX5_readFeathers_35 : decode cX5_readFeathers 35 = .ok (.aload_n 0, 1) := by decide +kernel
theorem dX5_readFeathers_36 : decode cX5_readFeathers 36 = .ok (.bipush 99, 2) := by decide +kernel
theorem dX5_readFeathers_38 : decode cX5_readFeathers 38 = .ok (.invokevirtual 136, 3) := by decide +kernel
theorem dX5_readFeathers_41 : decode cX5_readFeathers 41 = .ok (.istore_n 3, 1) := by decide +kernel
theorem dX5_readFeathers_42 : decode cX5_readFeathers 42 = .ok (.iload_n 3, 1) := by decide +kernel
theorem dX5_readFeathers_43 : decode cX5_readFeathers 43 = .ok (.ifCond .ge 5, 3) := by decide +kernel
theorem dX5_readFeathers_46 : decode cX5_readFeathers 46 = .ok (.iconst 0, 1) := by decide +kernel
theorem dX5_readFeathers_47 : decode cX5_readFeathers 47 = .ok (.ireturn, 1) := by decide +kernel
theorem dX5_readFeathers_48 : decode cX5_readFeathers 48 = .ok (.aload_n 1, 1) := by decide +kernel
theorem dX5_readFeathers_49 : decode cX5_readFeathers 49 = .ok (.getfield 139, 3) := by decide +kernel
theorem dX5_readFeathers_52 : decode cX5_readFeathers 52 = .ok (.iload_n 2, 1) := by decide +kernel
theorem dX5_readFeathers_53 : decode cX5_readFeathers 53 = .ok (.iload_n 3, 1) := by decide +kernel
theorem dX5_readFeathers_54 : decode cX5_readFeathers 54 = .ok (.iastore, 1) := by decide +kernel
theorem dX5_readFeathers_55 : decode cX5_readFeathers 55 = .ok (.iinc 2 1, 3) := by decide +kernel
theorem dX5_readFeathers_58 : decode cX5_readFeathers 58 = .ok (.goto (-45), 3) := by decide +kernel
theorem dX5_readFeathers_61 : decode cX5_readFeathers 61 = .ok (.iconst 1, 1) := by decide +kernel
theorem dX5_readFeathers_62 : decode cX5_readFeathers 62 = .ok (.ireturn, 1) := by decide +kernel
theorem dX5_readBirdFeature_0 : decode cX5_readBirdFeature 0 = .ok (.aload_n 0, 1) := by decide +kernel
theorem dX5_readBirdFeature_1 : decode cX5_readBirdFeature 1 = .ok (.aload_n 2, 1) := by decide +kernel
theorem dX5_readBirdFeature_2 : decode cX5_readBirdFeature 2 = .ok (.invokevirtual 89, 3) := by decide +kernel
theorem dX5_readBirdFeature_5 : decode cX5_readBirdFeature 5 = .ok (.ifCond .ne 5, 3) := by decide +kernel
theorem dX5_readBirdFeature_8 : decode cX5_readBirdFeature 8 = .ok (.iconst 1, 1) := by decide +kernel
theorem dX5_readBirdFeature_9 : decode cX5_readBirdFeature 9 = .ok (.ireturn, 1) := by decide +kernel
theorem dX5_readBirdFeature_10 : decode cX5_readBirdFeature 10 = .ok (.aload_n 0, 1) := by decide +kernel
theorem dX5_readBirdFeature_11 : decode cX5_readBirdFeature 11 = .ok (.iload_n 3, 1) := by decide +kernel
theorem dX5_readBirdFeature_12 : decode cX5_readBirdFeature 12 = .ok (.invokestatic 144, 3) := by decide +kernel
theorem dX5_readBirdFeature_15 : decode cX5_readBirdFeature 15 = .ok (.invokevirtual 136, 3) := by decide +kernel
theorem dX5_readBirdFeature_18 : decode cX5_readBirdFeature 18 = .ok (.istore 4, 2) := by decide +kernel
theorem dX5_readBirdFeature_20 : decode cX5_readBirdFeature 20 = .ok (.iload 4, 2) := by decide +kernel
theorem dX5_readBirdFeature_22 : decode cX5_readBirdFeature 22 = .ok (.ifCond .ge 5, 3) := by decide +kernel
theorem dX5_readBirdFeature_25 : decode cX5_readBirdFeature 25 = .ok (.iconst 0, 1) := by decide +kernel
theorem dX5_readBirdFeature_26 : decode cX5_readBirdFeature 26 = .ok (.ireturn, 1) := by decide +kernel
theorem dX5_readBirdFeature_27 : decode cX5_readBirdFeature 27 = .ok (.aload_n 1, 1) := by decide +kernel
theorem dX5_readBirdFeature_28 : decode cX5_readBirdFeature 28 = .ok (.iload_n 3, 1) := by decide +kernel
theorem dX5_readBirdFeature_29 : decode cX5_readBirdFeature 29 = .ok (.iload 4, 2) := by decide +kernel
theorem dX5_readBirdFeature_31 : decode cX5_readBirdFeature 31 = .ok (.invokevirtual 147, 3) := by decide +kernel
theorem dX5_readBirdFeature_34 : decode cX5_readBirdFeature 34 = .ok (.iconst 1, 1) := by decide +kernel
theorem dX5_readBirdFeature_35 : decode cX5_readBirdFeature 35 = .ok (.ireturn, 1) := by decide +kernel
theorem dX5_readMotion_0 : decode cX5_readMotion 0 = .ok (.aload_n 1, 1) := by decide +kernel
theorem dX5_readMotion_1 : decode cX5_readMotion 1 = .ok (.iconst 0, 1) := by decide +kernel
theorem dX5_readMotion_2 : decode cX5_readMotion 2 = .ok (.invokevirtual 151, 3) := by decide +kernel
theorem dX5_readMotion_5 : decode cX5_readMotion 5 = .ok (.istore_n 2, 1) := by decide +kernel
theorem dX5_readMotion_6 : decode cX5_readMotion 6 = .ok (.iload_n 2, 1) := by decide +kernel
theorem dX5_readMotion_7 : decode cX5_readMotion 7 = .ok (.ifCond .ge 5, 3) := by decide +kernel
theorem dX5_readMotion_10 : decode cX5_readMotion 10 = .ok (.iconst 0, 1) := by decide +kernel
theorem dX5_readMotion_11 : decode cX5_readMotion 11 = .ok (.ireturn, 1) := by decide +kernel
theorem dX5_readMotion_12 : decode cX5_readMotion 12 = .ok (.aload_n 0, 1) := by decide +kernel
theorem dX5_readMotion_13 : decode cX5_readMotion 13 = .ok (.invokevirtual 38, 3) := by decide +kernel
theorem dX5_readMotion_16 : decode cX5_readMotion 16 = .ok (.aload_n 0, 1) := by decide +kernel
theorem dX5_readMotion_17 : decode cX5_readMotion 17 = .ok (.iconst 3, 1) := by decide +kernel
theorem dX5_readMotion_18 : decode cX5_readMotion 18 = .ok (.invokevirtual 136, 3) := by decide +kernel
theorem dX5_readMotion_21 : decode cX5_readMotion 21 = .ok (.istore_n 3, 1) := by decide +kernel
theorem dX5_readMotion_22 : decode cX5_readMotion 22 = .ok (.iload_n 3, 1) := by decide +kernel
theorem dX5_readMotion_23 : decode cX5_readMotion 23 = .ok (.ifCond .ge 5, 3) := by decide +kernel
theorem dX5_readMotion_26 : decode cX5_readMotion 26 = .ok (.iconst 0, 1) := by decide +kernel
theorem dX5_readMotion_27 : decode cX5_readMotion 27 = .ok (.ireturn, 1) := by decide +kernel
theorem dX5_readMotion_28 : decode cX5_readMotion 28 = .ok (.aload_n 1, 1) := by decide +kernel
theorem dX5_readMotion_29 : decode cX5_readMotion 29 = .ok (.getfield 154, 3) := by decide +kernel
theorem dX5_readMotion_32 : decode cX5_readMotion 32 = .ok (.iload_n 2, 1) := by decide +kernel
theorem dX5_readMotion_33 : decode cX5_readMotion 33 = .ok (.aaload, 1) := by decide +kernel
theorem dX5_readMotion_34 : decode cX5_readMotion 34 = .ok (.astore 4, 2) := by decide +kernel
theorem dX5_readMotion_36 : decode cX5_readMotion 36 = .ok (.aload 4, 2) := by decide +kernel
theorem dX5_readMotion_38 : decode cX5_readMotion 38 = .ok (.iload_n 3, 1) := by decide +kernel
theorem dX5_readMotion_39 : decode cX5_readMotion 39 = .ok (.putfield 158, 3) := by decide +kernel
theorem dX5_readMotion_42 : decode cX5_readMotion 42 = .ok (.aload_n 1, 1) := by decide +kernel
theorem dX5_readMotion_43 : decode cX5_readMotion 43 = .ok (.invokevirtual 163, 3) := by decide +kernel
theorem dX5_readMotion_46 : decode cX5_readMotion 46 = .ok (.istore 5, 2) := by decide +kernel
theorem dX5_readMotion_48 : decode cX5_readMotion 48 = .ok (.aload_n 0, 1) := by decide +kernel
theorem dX5_readMotion_49 : decode cX5_readMotion 49 = .ok (.aload 4, 2) := by decide +kernel
theorem dX5_readMotion_51 : decode cX5_readMotion 51 = .ok (.ldc 166, 2) := by decide +kernel
theorem dX5_readMotion_53 : decode cX5_readMotion 53 = .ok (.iconst 1, 1) := by decide +kernel
theorem dX5_readMotion_54 : decode cX5_readMotion 54 = .ok (.iload 5, 2) := by decide +kernel
theorem dX5_readMotion_56 : decode cX5_readMotion 56 = .ok (.invokevirtual 168, 3) := by decide +kernel
theorem dX5_readMotion_59 : decode cX5_readMotion 59 = .ok (.ifCond .eq 35, 3) := by decide +kernel
theorem dX5_readMotion_62 : decode cX5_readMotion 62 = .ok (.aload_n 0, 1) := by decide +kernel
theorem dX5_readMotion_63 : decode cX5_readMotion 63 = .ok (.aload 4, 2) := by decide +kernel
theorem dX5_readMotion_65 : decode cX5_readMotion 65 = .ok (.ldc 172, 2) := by decide +kernel
theorem dX5_readMotion_67 : decode cX5_readMotion 67 = .ok (.iconst 2, 1) := by decide +kernel
theorem dX5_readMotion_68 : decode cX5_readMotion 68 = .ok (.iload 5, 2) := by decide +kernel
theorem dX5_readMotion_70 : decode cX5_readMotion 70 = .ok (.invokevirtual 168, 3) := by decide +kernel
theorem dX5_readMotion_73 : decode cX5_readMotion 73 = .ok (.ifCond .eq 21, 3) := by decide +kernel
theorem dX5_readMotion_76 : decode cX5_readMotion 76 = .ok (.aload_n 0, 1) := by decide +kernel
theorem dX5_readMotion_77 : decode cX5_readMotion 77 = .ok (.aload 4, 2) := by decide +kernel
theorem dX5_readMotion_79 : decode cX5_readMotion 79 = .ok (.ldc 174, 2) := by decide +kernel
theorem dX5_readMotion_81 : decode cX5_readMotion 81 = .ok (.iconst 3, 1) := by decide +kernel
theorem dX5_readMotion_82 : decode cX5_readMotion 82 = .ok (.iload 5, 2) := by decide +kernel
theorem dX5_readMotion_84 : decode cX5_readMotion 84 = .ok (.invokevirtual 168, 3) := by decide +kernel
theorem dX5_readMotion_87 : decode cX5_readMotion 87 = .ok (.ifCond .eq 7, 3) := by decide +kernel
theorem dX5_readMotion_90 : decode cX5_readMotion 90 = .ok (.iconst 1, 1) := by decide +kernel
theorem dX5_readMotion_91 : decode cX5_readMotion 91 = .ok (.goto 4, 3) := by decide +kernel
theorem dX5_readMotion_94 : decode cX5_readMotion 94 = .ok (.iconst 0, 1) := by decide +kernel
theorem dX5_readMotion_95 : decode cX5_readMotion 95 = .ok (.ireturn, 1) := by decide +kernel
theorem dX5_readMotionFeature_0 : decode cX5_readMotionFeature 0 = .ok (.aload_n 0, 1) := by decide +kernel
theorem dX5_readMotionFeature_1 : decode cX5_readMotionFeature 1 = .ok (.aload_n 2, 1) := by decide +kernel
theorem dX5_readMotionFeature_2 : decode cX5_readMotionFeature 2 = .ok (.invokevirtual 89, 3) := by decide +kernel
theorem dX5_readMotionFeature_5 : decode cX5_readMotionFeature 5 = .ok (.ifCond .ne 5, 3) := by decide +kernel
theorem dX5_readMotionFeature_8 : decode cX5_readMotionFeature 8 = .ok (.iconst 1, 1) := by decide +kernel
theorem dX5_readMotionFeature_9 : decode cX5_readMotionFeature 9 = .ok (.ireturn, 1) := by decide +kernel
theorem dX5_readMotionFeature_10 : decode cX5_readMotionFeature 10 = .ok (.aload_n 0, 1) := by decide +kernel
theorem dX5_readMotionFeature_11 : decode cX5_readMotionFeature 11 = .ok (.iload_n 3, 1) := by decide +kernel
theorem dX5_readMotionFeature_12 : decode cX5_readMotionFeature 12 = .ok (.iload 4, 2) := by decide +kernel
theorem dX5_readMotionFeature_14 : decode cX5_readMotionFeature 14 = .ok (.invokestatic 176, 3) := by decide +kernel
theorem dX5_readMotionFeature_17 : decode cX5_readMotionFeature 17 = .ok (.invokevirtual 136, 3) := by decide +kernel
theorem dX5_readMotionFeature_20 : decode cX5_readMotionFeature 20 = .ok (.istore 5, 2) := by decide +kernel
theorem dX5_readMotionFeature_22 : decode cX5_readMotionFeature 22 = .ok (.iload 5, 2) := by decide +kernel
theorem dX5_readMotionFeature_24 : decode cX5_readMotionFeature 24 = .ok (.ifCond .ge 5, 3) := by decide +kernel
theorem dX5_readMotionFeature_27 : decode cX5_readMotionFeature 27 = .ok (.iconst 0, 1) := by decide +kernel
theorem dX5_readMotionFeature_28 : decode cX5_readMotionFeature 28 = .ok (.ireturn, 1) := by decide +kernel
theorem dX5_readMotionFeature_29 : decode cX5_readMotionFeature 29 = .ok (.aload_n 1, 1) := by decide +kernel
theorem dX5_readMotionFeature_30 : decode cX5_readMotionFeature 30 = .ok (.iload_n 3, 1) := by decide +kernel
theorem dX5_readMotionFeature_31 : decode cX5_readMotionFeature 31 = .ok (.iload 5, 2) := by decide +kernel
theorem dX5_readMotionFeature_33 : decode cX5_readMotionFeature 33 = .ok (.invokevirtual 178, 3) := by decide +kernel
theorem dX5_readMotionFeature_36 : decode cX5_readMotionFeature 36 = .ok (.iconst 1, 1) := by decide +kernel
theorem dX5_readMotionFeature_37 : decode cX5_readMotionFeature 37 = .ok (.ireturn, 1) := by decide +kernel
theorem dX5_readSeason_0 : decode cX5_readSeason 0 = .ok (.aload_n 0, 1) := by decide +kernel
theorem dX5_readSeason_1 : decode cX5_readSeason 1 = .ok (.sipush 999, 3) := by decide +kernel
theorem dX5_readSeason_4 : decode cX5_readSeason 4 = .ok (.invokevirtual 136, 3) := by decide +kernel
theorem dX5_readSeason_7 : decode cX5_readSeason 7 = .ok (.istore_n 2, 1) := by decide +kernel
theorem dX5_readSeason_8 : decode cX5_readSeason 8 = .ok (.iload_n 2, 1) := by decide +kernel
theorem dX5_readSeason_9 : decode cX5_readSeason 9 = .ok (.ifCond .ge 5, 3) := by decide +kernel
theorem dX5_readSeason_12 : decode cX5_readSeason 12 = .ok (.iconst 0, 1) := by decide +kernel
theorem dX5_readSeason_13 : decode cX5_readSeason 13 = .ok (.ireturn, 1) := by decide +kernel
theorem dX5_readSeason_14 : decode cX5_readSeason 14 = .ok (.aload_n 1, 1) := by decide +kernel
theorem dX5_readSeason_15 : decode cX5_readSeason 15 = .ok (.iload_n 2, 1) := by decide +kernel
theorem dX5_readSeason_16 : decode cX5_readSeason 16 = .ok (.putfield 179, 3) := by decide +kernel
theorem dX5_readSeason_19 : decode cX5_readSeason 19 = .ok (.iconst 1, 1) := by decide +kernel
theorem dX5_readSeason_20 : decode cX5_readSeason 20 = .ok (.ireturn, 1) := by decide +kernel
