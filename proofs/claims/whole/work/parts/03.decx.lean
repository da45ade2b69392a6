theorem dX0_init_0 : decode cX0_init 0 = .ok (.aload_n 0, 1) := by decide +kernel
theorem dX0_init_1 : decode cX0_init 1 = .ok (.invokespecial 3, 3) := by decide +kernel
theorem dX0_init_4 : decode cX0_init 4 = .ok (.aload_n 0, 1) := by decide +kernel
theorem dX0_init_5 : decode cX0_init 5 = .ok (.bipush 8, 2) := by decide +kernel
theorem dX0_init_7 : decode cX0_init 7 = .ok (.newarray .int, 2) := by decide +kernel
theorem dX0_init_9 : decode cX0_init 9 = .ok (.putfield 9, 3) := by decide +kernel
theorem dX0_init_12 : decode cX0_init 12 = .ok (.aload_n 0, 1) := by decide +kernel
theorem dX0_init_13 : decode cX0_init 13 = .ok (.bipush 8, 2) := by decide +kernel
theorem dX0_init_15 : decode cX0_init 15 = .ok (.newarray .int, 2) := by decide +kernel
theorem dX0_init_17 : decode cX0_init 17 = .ok (.putfield 15, 3) := by decide +kernel
theorem dX0_init_20 : decode cX0_init 20 = .ok (.aload_n 0, 1) := by decide +kernel
theorem dX0_init_21 : decode cX0_init 21 = .ok (.bipush 8, 2) := by decide +kernel
theorem dX0_init_23 : decode cX0_init 23 = .ok (.newarray .int, 2) := by decide +kernel
theorem dX0_init_25 : decode cX0_init 25 = .ok (.putfield 18, 3) := by decide +kernel
theorem dX0_init_28 : decode cX0_init 28 = .ok (.return_, 1) := by decide +kernel
theorem dX0_forget_0 : decode cX0_forget 0 = .ok (.aload_n 0, 1) := by decide +kernel
theorem dX0_forget_1 : decode cX0_forget 1 = .ok (.iconst 0, 1) := by decide +kernel
theorem dX0_forget_2 : decode cX0_forget 2 = .ok (.putfield 21, 3) := by decide +kernel
theorem dX0_forget_5 : decode cX0_forget 5 = .ok (.return_, 1) := by decide +kernel
theorem dX0_add_0 : decode cX0_add 0 = .ok (.aload_n 0, 1) := by decide +kernel
theorem dX0_add_1 : decode cX0_add 1 = .ok (.getfield 21, 3) := by decide +kernel
theorem dX0_add_4 : decode cX0_add 4 = .ok (.bipush 8, 2) := by decide +kernel
theorem dX0_add_6 : decode cX0_add 6 = .ok (.if_icmp .lt 54, 3) := by decide +kernel
theorem dX0_add_9 : decode cX0_add 9 = .ok (.aload_n 0, 1) := by decide +kernel
theorem dX0_add_10 : decode cX0_add 10 = .ok (.getfield 9, 3) := by decide +kernel
theorem dX0_add_13 : decode cX0_add 13 = .ok (.iconst 1, 1) := by decide +kernel
theorem dX0_add_14 : decode cX0_add 14 = .ok (.aload_n 0, 1) := by decide +kernel
theorem dX0_add_15 : decode cX0_add 15 = .ok (.getfield 9, 3) := by decide +kernel
theorem dX0_add_18 : decode cX0_add 18 = .ok (.iconst 0, 1) := by decide +kernel
theorem dX0_add_19 : decode cX0_add 19 = .ok (.bipush 7, 2) := by decide +kernel
theorem dX0_add_21 : decode cX0_add 21 = .ok (.invokestatic 25, 3) := by decide +kernel
theorem dX0_add_24 : decode cX0_add 24 = .ok (.aload_n 0, 1) := by decide +kernel
theorem dX0_add_25 : decode cX0_add 25 = .ok (.getfield 15, 3) := by decide +kernel
theorem dX0_add_28 : decode cX0_add 28 = .ok (.iconst 1, 1) := by decide +kernel
theorem dX0_add_29 : decode cX0_add 29 = .ok (.aload_n 0, 1) := by decide +kernel
theorem dX0_add_30 : decode cX0_add 30 = .ok (.getfield 15, 3) := by decide +kernel
theorem dX0_add_33 : decode cX0_add 33 = .ok (.iconst 0, 1) := by decide +kernel
theorem dX0_add_34 : decode cX0_add 34 = .ok (.bipush 7, 2) := by decide +kernel
theorem dX0_add_36 : decode cX0_add 36 = .ok (.invokestatic 25, 3) := by decide +kernel
theorem dX0_add_39 : decode cX0_add 39 = .ok (.aload_n 0, 1) := by decide +kernel
theorem dX0_add_40 : decode cX0_add 40 = .ok (.getfield 18, 3) := by decide +kernel
theorem dX0_add_43 : decode cX0_add 43 = .ok (.iconst 1, 1) := by decide +kernel
theorem dX0_add_44 : decode cX0_add 44 = .ok (.aload_n 0, 1) := by decide +kernel
theorem dX0_add_45 : decode cX0_add 45 = .ok (.getfield 18, 3) := by decide +kernel
theorem dX0_add_48 : decode cX0_add 48 = .ok (.iconst 0, 1) := by decide +kernel
theorem dX0_add_49 : decode cX0_add 49 = .ok (.bipush 7, 2) := by decide +kernel
theorem dX0_add_51 : decode cX0_add 51 = .ok (.invokestatic 25, 3) := by decide +kernel
theorem dX0_add_54 : decode cX0_add 54 = .ok (.aload_n 0, 1) := by decide +kernel
theorem dX0_add_55 : decode cX0_add 55 = .ok (.bipush 7, 2) := by decide +kernel
theorem dX0_add_57 : decode cX0_add 57 = .ok (.putfield 21, 3) := by decide +kernel
theorem dX0_add_60 : decode cX0_add 60 = .ok (.aload_n 0, 1) := by decide +kernel
theorem dX0_add_61 : decode cX0_add 61 = .ok (.getfield 9, 3) := by decide +kernel
theorem dX0_add_64 : decode cX0_add 64 = .ok (.aload_n 0, 1) := by decide +kernel
theorem dX0_add_65 : decode cX0_add 65 = .ok (.getfield 21, 3) := by decide +kernel
theorem dX0_add_68 : decode cX0_add 68 = .ok (.iload_n 1, 1) := by decide +kernel
theorem dX0_add_69 : decode cX0_add 69 = .ok (.iastore, 1) := by decide +kernel
theorem dX0_add_70 : decode cX0_add 70 = .ok (.aload_n 0, 1) := by decide +kernel
theorem dX0_add_71 : decode cX0_add 71 = .ok (.getfield 15, 3) := by decide +kernel
theorem dX0_add_74 : decode cX0_add 74 = .ok (.aload_n 0, 1) := by decide +kernel
theorem dX0_add_75 : decode cX0_add 75 = .ok (.getfield 21, 3) := by decide +kernel
theorem dX0_add_78 : decode cX0_add 78 = .ok (.iload_n 2, 1) := by decide +kernel
theorem dX0_add_79 : decode cX0_add 79 = .ok (.iastore, 1) := by decide +kernel
theorem dX0_add_80 : decode cX0_add 80 = .ok (.aload_n 0, 1) := by decide +kernel
theorem dX0_add_81 : decode cX0_add 81 = .ok (.getfield 18, 3) := by decide +kernel
theorem dX0_add_84 : decode cX0_add 84 = .ok (.aload_n 0, 1) := by decide +kernel
theorem dX0_add_85 : decode cX0_add 85 = .ok (.getfield 21, 3) := by decide +kernel
theorem dX0_add_88 : decode cX0_add 88 = .ok (.iload_n 3, 1) := by decide +kernel
theorem dX0_add_89 : decode cX0_add 89 = .ok (.iastore, 1) := by decide +kernel
theorem dX0_add_90 : decode cX0_add 90 = .ok (.aload_n 0, 1) := by decide +kernel
theorem dX0_add_91 : decode cX0_add 91 = .ok (.dup, 1) := by decide +kernel
theorem dX0_add_92 : decode cX0_add 92 = .ok (.getfield 21, 3) := by decide +kernel
theorem dX0_add_95 : decode cX0_add 95 = .ok (.iconst 1, 1) := by decide +kernel
theorem dX0_add_96 : decode cX0_add 96 = .ok (.iadd, 1) := by decide +kernel
theorem dX0_add_97 : decode cX0_add 97 = .ok (.putfield 21, 3) := by decide +kernel
theorem dX0_add_100 : decode cX0_add 100 = .ok (.return_, 1) := by decide +kernel
theorem dX0_takeBack_0 : decode cX0_takeBack 0 = .ok (.aload_n 0, 1) := by decide +kernel
theorem dX0_takeBack_1 : decode cX0_takeBack 1 = .ok (.getfield 21, 3) := by decide +kernel
theorem dX0_takeBack_4 : decode cX0_takeBack 4 = .ok (.iconst 1, 1) := by decide +kernel
theorem dX0_takeBack_5 : decode cX0_takeBack 5 = .ok (.if_icmp .ge 4, 3) := by decide +kernel
theorem dX0_takeBack_8 : decode cX0_takeBack 8 = .ok (.return_, 1) := by decide +kernel
theorem dX0_takeBack_9 : decode cX0_takeBack 9 = .ok (.aload_n 0, 1) := by decide +kernel
theorem dX0_takeBack_10 : decode cX0_takeBack 10 = .ok (.dup, 1) := by decide +kernel
theorem dX0_takeBack_11 : decode cX0_takeBack 11 = .ok (.getfield 21, 3) := by decide +kernel
theorem dX0_takeBack_14 : decode cX0_takeBack 14 = .ok (.iconst 1, 1) := by decide +kernel
theorem dX0_takeBack_15 : decode cX0_takeBack 15 = .ok (.isub, 1) := by decide +kernel
theorem dX0_takeBack_16 : decode cX0_takeBack 16 = .ok (.putfield 21, 3) := by decide +kernel
theorem dX0_takeBack_19 : decode cX0_takeBack 19 = .ok (.aload_n 0, 1) := by decide +kernel
theorem dX0_takeBack_20 : decode cX0_takeBack 20 = .ok (.getfield 15, 3) := by decide +kernel
theorem dX0_takeBack_23 : decode cX0_takeBack 23 = .ok (.aload_n 0, 1) := by decide +kernel
theorem dX0_takeBack_24 : decode cX0_takeBack 24 = .ok (.getfield 21, 3) := by decide +kernel
theorem dX0_takeBack_27 : decode cX0_takeBack 27 = .ok (.iaload, 1) := by decide +kernel
theorem dX0_takeBack_28 : decode cX0_takeBack 28 = .ok (.istore_n 2, 1) := by decide +kernel
theorem dX0_takeBack_29 : decode cX0_takeBack 29 = .ok (.aload_n 0, 1) := by decide +kernel
theorem dX0_takeBack_30 : decode cX0_takeBack 30 = .ok (.getfield 18, 3) := by decide +kernel
theorem dX0_takeBack_33 : decode cX0_takeBack 33 = .ok (.aload_n 0, 1) := by decide +kernel
theorem dX0_takeBack_34 : decode cX0_takeBack 34 = .ok (.getfield 21, 3) := by decide +kernel
theorem dX0_takeBack_37 : decode cX0_takeBack 37 = .ok (.iaload, 1) := by decide +kernel
theorem dX0_takeBack_38 : decode cX0_takeBack 38 = .ok (.istore_n 3, 1) := by decide +kernel
theorem dX0_takeBack_39 : decode cX0_takeBack 39 = .ok (.aload_n 0, 1) := by decide +kernel
theorem dX0_takeBack_40 : decode cX0_takeBack 40 = .ok (.getfield 9, 3) := by decide +kernel
theorem dX0_takeBack_43 : decode cX0_takeBack 43 = .ok (.aload_n 0, 1) := by decide +kernel
theorem dX0_takeBack_44 : decode cX0_takeBack 44 = .ok (.getfield 21, 3) := by decide +kernel
theorem dX0_takeBack_47 : decode cX0_takeBack 47 = .ok (.iaload, 1) := by decide +kernel
theorem dX0_takeBack_48 : decode cX0_takeBack 48 = .ok (.tableswitch 55 0 2 #[28, 37, 46], 28) := by decide +kernel
theorem dX0_takeBack_76 : decode cX0_takeBack 76 = .ok (.aload_n 1, 1) := by decide +kernel
theorem dX0_takeBack_77 : decode cX0_takeBack 77 = .ok (.iload_n 2, 1) := by decide +kernel
theorem dX0_takeBack_78 : decode cX0_takeBack 78 = .ok (.iload_n 3, 1) := by decide +kernel
theorem dX0_takeBack_79 : decode cX0_takeBack 79 = .ok (.invokevirtual 31, 3) := by decide +kernel
theorem dX0_takeBack_82 : decode cX0_takeBack 82 = .ok (.goto 40, 3) := by decide +kernel
theorem dX0_takeBack_85 : decode cX0_takeBack 85 = .ok (.aload_n 1, 1) := by decide +kernel
theorem dX0_takeBack_86 : decode cX0_takeBack 86 = .ok (.iload_n 2, 1) := by decide +kernel
theorem dX0_takeBack_87 : decode cX0_takeBack 87 = .ok (.invokevirtual 37, 3) := by decide +kernel
theorem dX0_takeBack_90 : decode cX0_takeBack 90 = .ok (.pop, 1) := by decide +kernel
theorem dX0_takeBack_91 : decode cX0_takeBack 91 = .ok (.goto 31, 3) := by decide +kernel
theorem dX0_takeBack_94 : decode cX0_takeBack 94 = .ok (.aload_n 1, 1) := by decide +kernel
theorem dX0_takeBack_95 : decode cX0_takeBack 95 = .ok (.iload_n 2, 1) := by decide +kernel
theorem dX0_takeBack_96 : decode cX0_takeBack 96 = .ok (.iload_n 3, 1) := by decide +kernel
theorem dX0_takeBack_97 : decode cX0_takeBack 97 = .ok (.invokevirtual 41, 3) := by decide +kernel
theorem dX0_takeBack_100 : decode cX0_takeBack 100 = .ok (.goto 22, 3) := by decide +kernel
theorem dX0_takeBack_103 : decode cX0_takeBack 103 = .ok (.iload_n 2, 1) := by decide +kernel
theorem dX0_takeBack_104 : decode cX0_takeBack 104 = .ok (.ifCond .lt 18, 3) := by decide +kernel
theorem dX0_takeBack_107 : decode cX0_takeBack 107 = .ok (.iload_n 2, 1) := by decide +kernel
theorem dX0_takeBack_108 : decode cX0_takeBack 108 = .ok (.aload_n 1, 1) := by decide +kernel
theorem dX0_takeBack_109 : decode cX0_takeBack 109 = .ok (.getfield 44, 3) := by decide +kernel
theorem dX0_takeBack_112 : decode cX0_takeBack 112 = .ok (.if_icmp .ge 10, 3) := by decide +kernel
theorem dX0_takeBack_115 : decode cX0_takeBack 115 = .ok (.aload_n 1, 1) := by decide +kernel
theorem dX0_takeBack_116 : decode cX0_takeBack 116 = .ok (.getfield 47, 3) := by decide +kernel
theorem dX0_takeBack_119 : decode cX0_takeBack 119 = .ok (.iload_n 2, 1) := by decide +kernel
theorem dX0_takeBack_120 : decode cX0_takeBack 120 = .ok (.iload_n 3, 1) := by decide +kernel
theorem dX0_takeBack_121 : decode cX0_takeBack 121 = .ok (.iastore, 1) := by decide +kernel
theorem dX0_takeBack_122 : decode cX0_takeBack 122 = .ok (.return_, 1) := by decide +kernel
theorem dX1_init_0 : decode cX1_init 0 = .ok (.aload_n 0, 1) := by decide +kernel
theorem dX1_init_1 : decode cX1_init 1 = .ok (.invokespecial 3, 3) := by decide +kernel
theorem dX1_init_4 : decode cX1_init 4 = .ok (.aload_n 0, 1) := by decide +kernel
theorem dX1_init_5 : decode cX1_init 5 = .ok (.bipush 6, 2) := by decide +kernel
theorem dX1_init_7 : decode cX1_init 7 = .ok (.newarray .int, 2) := by decide +kernel
theorem dX1_init_9 : decode cX1_init 9 = .ok (.putfield 9, 3) := by decide +kernel
theorem dX1_init_12 : decode cX1_init 12 = .ok (.aload_n 0, 1) := by decide +kernel
theorem dX1_init_13 : decode cX1_init 13 = .ok (.sipush 144, 3) := by decide +kernel
theorem dX1_init_16 : decode cX1_init 16 = .ok (.newarray .int, 2) := by decide +kernel
theorem dX1_init_18 : decode cX1_init 18 = .ok (.putfield 15, 3) := by decide +kernel
theorem dX1_init_21 : decode cX1_init 21 = .ok (.aload_n 0, 1) := by decide +kernel
theorem dX1_init_22 : decode cX1_init 22 = .ok (.sipush 175, 3) := by decide +kernel
theorem dX1_init_25 : decode cX1_init 25 = .ok (.newarray .int, 2) := by decide +kernel
theorem dX1_init_27 : decode cX1_init 27 = .ok (.putfield 18, 3) := by decide +kernel
theorem dX1_init_30 : decode cX1_init 30 = .ok (.return_, 1) := by decide +kernel
theorem dX1_live_0 : decode cX1_live 0 = .ok (.aload_n 0, 1) := by decide +kernel
theorem dX1_live_1 : decode cX1_live 1 = .ok (.aload_n 1, 1) := by decide +kernel
theorem dX1_live_2 : decode cX1_live 2 = .ok (.getfield 21, 3) := by decide +kernel
theorem dX1_live_5 : decode cX1_live 5 = .ok (.putfield 27, 3) := by decide +kernel
theorem dX1_live_8 : decode cX1_live 8 = .ok (.aload_n 0, 1) := by decide +kernel
theorem dX1_live_9 : decode cX1_live 9 = .ok (.aload_n 1, 1) := by decide +kernel
theorem dX1_live_10 : decode cX1_live 10 = .ok (.getfield 28, 3) := by decide +kernel
theorem dX1_live_13 : decode cX1_live 13 = .ok (.putfield 31, 3) := by decide +kernel
theorem dX1_live_16 : decode cX1_live 16 = .ok (.aload_n 1, 1) := by decide +kernel
theorem dX1_live_17 : decode cX1_live 17 = .ok (.getfield 32, 3) := by decide +kernel
theorem dX1_live_20 : decode cX1_live 20 = .ok (.iconst 0, 1) := by decide +kernel
theorem dX1_live_21 : decode cX1_live 21 = .ok (.aload_n 0, 1) := by decide +kernel
theorem dX1_live_22 : decode cX1_live 22 = .ok (.getfield 18, 3) := by decide +kernel
theorem dX1_live_25 : decode cX1_live 25 = .ok (.iconst 0, 1) := by decide +kernel
theorem dX1_live_26 : decode cX1_live 26 = .ok (.bipush 7, 2) := by decide +kernel
theorem dX1_live_28 : decode cX1_live 28 = .ok (.invokestatic 35, 3) := by decide +kernel
theorem dX1_live_31 : decode cX1_live 31 = .ok (.iconst 0, 1) := by decide +kernel
theorem dX1_live_32 : decode cX1_live 32 = .ok (.istore_n 2, 1) := by decide +kernel
theorem dX1_live_33 : decode cX1_live 33 = .ok (.iload_n 2, 1) := by decide +kernel
theorem dX1_live_34 : decode cX1_live 34 = .ok (.aload_n 0, 1) := by decide +kernel
theorem dX1_live_35 : decode cX1_live 35 = .ok (.getfield 31, 3) := by decide +kernel
theorem dX1_live_38 : decode cX1_live 38 = .ok (.if_icmp .ge 20, 3) := by decide +kernel
theorem dX1_live_41 : decode cX1_live 41 = .ok (.aload_n 0, 1) := by decide +kernel
theorem dX1_live_42 : decode cX1_live 42 = .ok (.getfield 9, 3) := by decide +kernel
theorem dX1_live_45 : decode cX1_live 45 = .ok (.iload_n 2, 1) := by decide +kernel
theorem dX1_live_46 : decode cX1_live 46 = .ok (.aload_n 1, 1) := by decide +kernel
theorem dX1_live_47 : decode cX1_live 47 = .ok (.iload_n 2, 1) := by decide +kernel
theorem dX1_live_48 : decode cX1_live 48 = .ok (.invokevirtual 41, 3) := by decide +kernel
theorem dX1_live_51 : decode cX1_live 51 = .ok (.iastore, 1) := by decide +kernel
theorem dX1_live_52 : decode cX1_live 52 = .ok (.iinc 2 1, 3) := by decide +kernel
theorem dX1_live_55 : decode cX1_live 55 = .ok (.goto (-22), 3) := by decide +kernel
theorem dX1_live_58 : decode cX1_live 58 = .ok (.iconst 0, 1) := by decide +kernel
theorem dX1_live_59 : decode cX1_live 59 = .ok (.istore_n 2, 1) := by decide +kernel
theorem dX1_live_60 : decode cX1_live 60 = .ok (.iload_n 2, 1) := by decide +kernel
theorem dX1_live_61 : decode cX1_live 61 = .ok (.bipush 24, 2) := by decide +kernel
theorem dX1_live_63 : decode cX1_live 63 = .ok (.if_icmp .ge 20, 3) := by decide +kernel
theorem dX1_live_66 : decode cX1_live 66 = .ok (.aload_n 0, 1) := by decide +kernel
theorem dX1_live_67 : decode cX1_live 67 = .ok (.aload_n 1, 1) := by decide +kernel
theorem dX1_live_68 : decode cX1_live 68 = .ok (.iload_n 2, 1) := by decide +kernel
theorem dX1_live_69 : decode cX1_live 69 = .ok (.aload_n 1, 1) := by decide +kernel
theorem dX1_live_70 : decode cX1_live 70 = .ok (.iload_n 2, 1) := by decide +kernel
theorem dX1_live_71 : decode cX1_live 71 = .ok (.invokevirtual 44, 3) := by decide +kernel
theorem dX1_live_74 : decode cX1_live 74 = .ok (.invokevirtual 47, 3) := by decide +kernel
theorem dX1_live_77 : decode cX1_live 77 = .ok (.iinc 2 1, 3) := by decide +kernel
theorem dX1_live_80 : decode cX1_live 80 = .ok (.goto (-20), 3) := by decide +kernel
theorem dX1_live_83 : decode cX1_live 83 = .ok (.return_, 1) := by decide +kernel
theorem dX1_liveHour_0 : decode cX1_liveHour 0 = .ok (.aload_n 0, 1) := by decide +kernel
theorem dX1_liveHour_1 : decode cX1_liveHour 1 = .ok (.getfield 18, 3) := by decide +kernel
theorem dX1_liveHour_4 : decode cX1_liveHour 4 = .ok (.iload_n 2, 1) := by decide +kernel
theorem dX1_liveHour_5 : decode cX1_liveHour 5 = .ok (.bipush 7, 2) := by decide +kernel
theorem dX1_liveHour_7 : decode cX1_liveHour 7 = .ok (.imul, 1) := by decide +kernel
theorem dX1_liveHour_8 : decode cX1_liveHour 8 = .ok (.aload_n 0, 1) := by decide +kernel
theorem dX1_liveHour_9 : decode cX1_liveHour 9 = .ok (.getfield 18, 3) := by decide +kernel
theorem dX1_liveHour_12 : decode cX1_liveHour 12 = .ok (.iload_n 2, 1) := by decide +kernel
theorem dX1_liveHour_13 : decode cX1_liveHour 13 = .ok (.iconst 1, 1) := by decide +kernel
theorem dX1_liveHour_14 : decode cX1_liveHour 14 = .ok (.iadd, 1) := by decide +kernel
theorem dX1_liveHour_15 : decode cX1_liveHour 15 = .ok (.bipush 7, 2) := by decide +kernel
theorem dX1_liveHour_17 : decode cX1_liveHour 17 = .ok (.imul, 1) := by decide +kernel
theorem dX1_liveHour_18 : decode cX1_liveHour 18 = .ok (.bipush 7, 2) := by decide +kernel
theorem dX1_liveHour_20 : decode cX1_liveHour 20 = .ok (.invokestatic 35, 3) := by decide +kernel
theorem dX1_liveHour_23 : decode cX1_liveHour 23 = .ok (.iconst 0, 1) := by decide +kernel
theorem dX1_liveHour_24 : decode cX1_liveHour 24 = .ok (.istore 4, 2) := by decide +kernel
theorem dX1_liveHour_26 : decode cX1_liveHour 26 = .ok (.iconst 0, 1) := by decide +kernel
theorem dX1_liveHour_27 : decode cX1_liveHour 27 = .ok (.istore 5, 2) := by decide +kernel
theorem dX1_liveHour_29 : decode cX1_liveHour 29 = .ok (.iconst 0, 1) := by decide +kernel
theorem dX1_liveHour_30 : decode cX1_liveHour 30 = .ok (.istore 6, 2) := by decide +kernel
theorem dX1_liveHour_32 : decode cX1_liveHour 32 = .ok (.iload 6, 2) := by decide +kernel
theorem dX1_liveHour_34 : decode cX1_liveHour 34 = .ok (.aload_n 0, 1) := by decide +kernel
theorem dX1_liveHour_35 : decode cX1_liveHour 35 = .ok (.getfield 31, 3) := by decide +kernel
theorem dX1_liveHour_38 : decode cX1_liveHour 38 = .ok (.if_icmp .ge 177, 3) := by decide +kernel
theorem dX1_liveHour_41 : decode cX1_liveHour 41 = .ok (.aload_n 1, 1) := by decide +kernel
theorem dX1_liveHour_42 : decode cX1_liveHour 42 = .ok (.getfield 51, 3) := by decide +kernel
theorem dX1_liveHour_45 : decode cX1_liveHour 45 = .ok (.iload 6, 2) := by decide +kernel
theorem dX1_liveHour_47 : decode cX1_liveHour 47 = .ok (.iaload, 1) := by decide +kernel
theorem dX1_liveHour_48 : decode cX1_liveHour 48 = .ok (.istore 7, 2) := by decide +kernel
theorem dX1_liveHour_50 : decode cX1_liveHour 50 = .ok (.aload_n 1, 1) := by decide +kernel
theorem dX1_liveHour_51 : decode cX1_liveHour 51 = .ok (.getfield 54, 3) := by decide +kernel
theorem dX1_liveHour_54 : decode cX1_liveHour 54 = .ok (.iload 6, 2) := by decide +kernel
theorem dX1_liveHour_56 : decode cX1_liveHour 56 = .ok (.iaload, 1) := by decide +kernel
theorem dX1_liveHour_57 : decode cX1_liveHour 57 = .ok (.istore 8, 2) := by decide +kernel
theorem dX1_liveHour_59 : decode cX1_liveHour 59 = .ok (.iload_n 3, 1) := by decide +kernel
theorem dX1_liveHour_60 : decode cX1_liveHour 60 = .ok (.aload_n 0, 1) := by decide +kernel
theorem dX1_liveHour_61 : decode cX1_liveHour 61 = .ok (.getfield 9, 3) := by decide +kernel
theorem dX1_liveHour_64 : decode cX1_liveHour 64 = .ok (.iload 6, 2) := by decide +kernel
theorem dX1_liveHour_66 : decode cX1_liveHour 66 = .ok (.iaload, 1) := by decide +kernel
theorem dX1_liveHour_67 : decode cX1_liveHour 67 = .ok (.iand, 1) := by decide +kernel
theorem dX1_liveHour_68 : decode cX1_liveHour 68 = .ok (.iload 7, 2) := by decide +kernel
theorem dX1_liveHour_70 : decode cX1_liveHour 70 = .ok (.iconst 3, 1) := by decide +kernel
theorem dX1_liveHour_71 : decode cX1_liveHour 71 = .ok (.if_icmp .ne 8, 3) := by decide +kernel
theorem dX1_liveHour_74 : decode cX1_liveHour 74 = .ok (.iload 5, 2) := by decide +kernel
theorem dX1_liveHour_76 : decode cX1_liveHour 76 = .ok (.goto 5, 3) := by decide +kernel
theorem dX1_liveHour_79 : decode cX1_liveHour 79 = .ok (.iload 4, 2) := by decide +kernel
theorem dX1_liveHour_81 : decode cX1_liveHour 81 = .ok (.iconst (-1), 1) := by decide +kernel
theorem dX1_liveHour_82 : decode cX1_liveHour 82 = .ok (.ixor, 1) := by decide +kernel
theorem dX1_liveHour_83 : decode cX1_liveHour 83 = .ok (.iand, 1) := by decide +kernel
theorem dX1_liveHour_84 : decode cX1_liveHour 84 = .ok (.istore 9, 2) := by decide +kernel
theorem dX1_liveHour_86 : decode cX1_liveHour 86 = .ok (.iload 9, 2) := by decide +kernel
theorem dX1_liveHour_88 : decode cX1_liveHour 88 = .ok (.ifCond .eq 16, 3) := by decide +kernel
theorem dX1_liveHour_91 : decode cX1_liveHour 91 = .ok (.aload_n 1, 1) := by decide +kernel
theorem dX1_liveHour_92 : decode cX1_liveHour 92 = .ok (.iload 6, 2) := by decide +kernel
theorem dX1_liveHour_94 : decode cX1_liveHour 94 = .ok (.iload_n 2, 1) := by decide +kernel
theorem dX1_liveHour_95 : decode cX1_liveHour 95 = .ok (.invokevirtual 57, 3) := by decide +kernel
theorem dX1_liveHour_98 : decode cX1_liveHour 98 = .ok (.ifCond .ne 6, 3) := by decide +kernel
theorem dX1_liveHour_101 : decode cX1_liveHour 101 = .ok (.iconst 0, 1) := by decide +kernel
theorem dX1_liveHour_102 : decode cX1_liveHour 102 = .ok (.istore 9, 2) := by decide +kernel
theorem dX1_liveHour_104 : decode cX1_liveHour 104 = .ok (.iload 9, 2) := by decide +kernel
theorem dX1_liveHour_106 : decode cX1_liveHour 106 = .ok (.ifCond .eq 31, 3) := by decide +kernel
theorem dX1_liveHour_109 : decode cX1_liveHour 109 = .ok (.iload 7, 2) := by decide +kernel
theorem dX1_liveHour_111 : decode cX1_liveHour 111 = .ok (.iconst 2, 1) := by decide +kernel
theorem dX1_liveHour_112 : decode cX1_liveHour 112 = .ok (.if_icmp .eq 9, 3) := by decide +kernel
theorem dX1_liveHour_115 : decode cX1_liveHour 115 = .ok (.iload 7, 2) := by decide +kernel
theorem dX1_liveHour_117 : decode cX1_liveHour 117 = .ok (.iconst 4, 1) := by decide +kernel
theorem dX1_liveHour_118 : decode cX1_liveHour 118 = .ok (.if_icmp .ne 19, 3) := by decide +kernel
theorem dX1_liveHour_121 : decode cX1_liveHour 121 = .ok (.iload 9, 2) := by decide +kernel
theorem dX1_liveHour_123 : decode cX1_liveHour 123 = .ok (.aload_n 1, 1) := by decide +kernel
theorem dX1_liveHour_124 : decode cX1_liveHour 124 = .ok (.aload_n 0, 1) := by decide +kernel
theorem dX1_liveHour_125 : decode cX1_liveHour 125 = .ok (.iload_n 2, 1) := by decide +kernel
theorem dX1_liveHour_126 : decode cX1_liveHour 126 = .ok (.iload 8, 2) := by decide +kernel
theorem dX1_liveHour_128 : decode cX1_liveHour 128 = .ok (.invokevirtual 61, 3) := by decide +kernel
theorem dX1_liveHour_131 : decode cX1_liveHour 131 = .ok (.invokevirtual 65, 3) := by decide +kernel
theorem dX1_liveHour_134 : decode cX1_liveHour 134 = .ok (.iand, 1) := by decide +kernel
theorem dX1_liveHour_135 : decode cX1_liveHour 135 = .ok (.istore 9, 2) := by decide +kernel
theorem dX1_liveHour_137 : decode cX1_liveHour 137 = .ok (.aload_n 1, 1) := by decide +kernel
theorem dX1_liveHour_138 : decode cX1_liveHour 138 = .ok (.aload_n 1, 1) := by decide +kernel
theorem dX1_liveHour_139 : decode cX1_liveHour 139 = .ok (.getfield 68, 3) := by decide +kernel
theorem dX1_liveHour_142 : decode cX1_liveHour 142 = .ok (.iload 6, 2) := by decide +kernel
theorem dX1_liveHour_144 : decode cX1_liveHour 144 = .ok (.iaload, 1) := by decide +kernel
theorem dX1_liveHour_145 : decode cX1_liveHour 145 = .ok (.iload 9, 2) := by decide +kernel
theorem dX1_liveHour_147 : decode cX1_liveHour 147 = .ok (.invokevirtual 71, 3) := by decide +kernel
theorem dX1_liveHour_150 : decode cX1_liveHour 150 = .ok (.istore 10, 2) := by decide +kernel
theorem dX1_liveHour_152 : decode cX1_liveHour 152 = .ok (.aload_n 0, 1) := by decide +kernel
theorem dX1_liveHour_153 : decode cX1_liveHour 153 = .ok (.getfield 15, 3) := by decide +kernel
theorem dX1_liveHour_156 : decode cX1_liveHour 156 = .ok (.iload_n 2, 1) := by decide +kernel
theorem dX1_liveHour_157 : decode cX1_liveHour 157 = .ok (.bipush 6, 2) := by decide +kernel
theorem dX1_liveHour_159 : decode cX1_liveHour 159 = .ok (.imul, 1) := by decide +kernel
theorem dX1_liveHour_160 : decode cX1_liveHour 160 = .ok (.iload 6, 2) := by decide +kernel
theorem dX1_liveHour_162 : decode cX1_liveHour 162 = .ok (.iadd, 1) := by decide +kernel
theorem dX1_liveHour_163 : decode cX1_liveHour 163 = .ok (.iload 10, 2) := by decide +kernel
theorem dX1_liveHour_165 : decode cX1_liveHour 165 = .ok (.iastore, 1) := by decide +kernel
theorem dX1_liveHour_166 : decode cX1_liveHour 166 = .ok (.iload 10, 2) := by decide +kernel
theorem dX1_liveHour_168 : decode cX1_liveHour 168 = .ok (.ifCond .lt 41, 3) := by decide +kernel
theorem dX1_liveHour_171 : decode cX1_liveHour 171 = .ok (.iconst 1, 1) := by decide +kernel
theorem dX1_liveHour_172 : decode cX1_liveHour 172 = .ok (.iload 10, 2) := by decide +kernel
theorem dX1_liveHour_174 : decode cX1_liveHour 174 = .ok (.ishl, 1) := by decide +kernel
theorem dX1_liveHour_175 : decode cX1_liveHour 175 = .ok (.istore 11, 2) := by decide +kernel
theorem dX1_liveHour_177 : decode cX1_liveHour 177 = .ok (.iload 5, 2) := by decide +kernel
theorem dX1_liveHour_179 : decode cX1_liveHour 179 = .ok (.iload 4, 2) := by decide +kernel
theorem dX1_liveHour_181 : decode cX1_liveHour 181 = .ok (.iload 11, 2) := by decide +kernel
theorem dX1_liveHour_183 : decode cX1_liveHour 183 = .ok (.iand, 1) := by decide +kernel
theorem dX1_liveHour_184 : decode cX1_liveHour 184 = .ok (.ior, 1) := by decide +kernel
theorem dX1_liveHour_185 : decode cX1_liveHour 185 = .ok (.istore 5, 2) := by decide +kernel
theorem dX1_liveHour_187 : decode cX1_liveHour 187 = .ok (.iload 4, 2) := by decide +kernel
theorem dX1_liveHour_189 : decode cX1_liveHour 189 = .ok (.iload 11, 2) := by decide +kernel
theorem dX1_liveHour_191 : decode cX1_liveHour 191 = .ok (.ior, 1) := by decide +kernel
theorem dX1_liveHour_192 : decode cX1_liveHour 192 = .ok (.istore 4, 2) := by decide +kernel
theorem dX1_liveHour_194 : decode cX1_liveHour 194 = .ok (.aload_n 0, 1) := by decide +kernel
theorem dX1_liveHour_195 : decode cX1_liveHour 195 = .ok (.iload_n 2, 1) := by decide +kernel
theorem dX1_liveHour_196 : decode cX1_liveHour 196 = .ok (.iconst 1, 1) := by decide +kernel
theorem dX1_liveHour_197 : decode cX1_liveHour 197 = .ok (.iadd, 1) := by decide +kernel
theorem dX1_liveHour_198 : decode cX1_liveHour 198 = .ok (.aload_n 1, 1) := by decide +kernel
theorem dX1_liveHour_199 : decode cX1_liveHour 199 = .ok (.iload 11, 2) := by decide +kernel
theorem dX1_liveHour_201 : decode cX1_liveHour 201 = .ok (.invokevirtual 65, 3) := by decide +kernel
theorem dX1_liveHour_204 : decode cX1_liveHour 204 = .ok (.iload 8, 2) := by decide +kernel
theorem dX1_liveHour_206 : decode cX1_liveHour 206 = .ok (.invokevirtual 74, 3) := by decide +kernel
theorem dX1_liveHour_209 : decode cX1_liveHour 209 = .ok (.iinc 6 1, 3) := by decide +kernel
theorem dX1_liveHour_212 : decode cX1_liveHour 212 = .ok (.goto (-180), 3) := by decide +kernel
theorem dX1_liveHour_215 : decode cX1_liveHour 215 = .ok (.return_, 1) := by decide +kernel
theorem dX1_lackers_0 : decode cX1_lackers 0 = .ok (.iconst 0, 1) := by decide +kernel
theorem dX1_lackers_1 : decode cX1_lackers 1 = .ok (.istore_n 3, 1) := by decide +kernel
theorem dX1_lackers_2 : decode cX1_lackers 2 = .ok (.iconst 0, 1) := by decide +kernel
theorem dX1_lackers_3 : decode cX1_lackers 3 = .ok (.istore 4, 2) := by decide +kernel
theorem dX1_lackers_5 : decode cX1_lackers 5 = .ok (.iload 4, 2) := by decide +kernel
theorem dX1_lackers_7 : decode cX1_lackers 7 = .ok (.aload_n 0, 1) := by decide +kernel
theorem dX1_lackers_8 : decode cX1_lackers 8 = .ok (.getfield 27, 3) := by decide +kernel
theorem dX1_lackers_11 : decode cX1_lackers 11 = .ok (.if_icmp .ge 30, 3) := by decide +kernel
theorem dX1_lackers_14 : decode cX1_lackers 14 = .ok (.aload_n 0, 1) := by decide +kernel
theorem dX1_lackers_15 : decode cX1_lackers 15 = .ok (.iload_n 1, 1) := by decide +kernel
theorem dX1_lackers_16 : decode cX1_lackers 16 = .ok (.iload 4, 2) := by decide +kernel
theorem dX1_lackers_18 : decode cX1_lackers 18 = .ok (.invokevirtual 78, 3) := by decide +kernel
theorem dX1_lackers_21 : decode cX1_lackers 21 = .ok (.iload_n 2, 1) := by decide +kernel
theorem dX1_lackers_22 : decode cX1_lackers 22 = .ok (.ishr, 1) := by decide +kernel
theorem dX1_lackers_23 : decode cX1_lackers 23 = .ok (.iconst 1, 1) := by decide +kernel
theorem dX1_lackers_24 : decode cX1_lackers 24 = .ok (.iand, 1) := by decide +kernel
theorem dX1_lackers_25 : decode cX1_lackers 25 = .ok (.ifCond .ne 10, 3) := by decide +kernel
theorem dX1_lackers_28 : decode cX1_lackers 28 = .ok (.iload_n 3, 1) := by decide +kernel
theorem dX1_lackers_29 : decode cX1_lackers 29 = .ok (.iconst 1, 1) := by decide +kernel
theorem dX1_lackers_30 : decode cX1_lackers 30 = .ok (.iload 4, 2) := by decide +kernel
theorem dX1_lackers_32 : decode cX1_lackers 32 = .ok (.ishl, 1) := by decide +kernel
theorem dX1_lackers_33 : decode cX1_lackers 33 = .ok (.ior, 1) := by decide +kernel
theorem dX1_lackers_34 : decode cX1_lackers 34 = .ok (.istore_n 3, 1) := by decide +kernel
theorem dX1_lackers_35 : decode cX1_lackers 35 = .ok (.iinc 4 1, 3) := by decide +kernel
theorem dX1_lackers_38 : decode cX1_lackers 38 = .ok (.goto (-33), 3) := by decide +kernel
theorem dX1_lackers_41 : decode cX1_lackers 41 = .ok (.iload_n 3, 1) := by decide +kernel
theorem dX1_lackers_42 : decode cX1_lackers 42 = .ok (.ireturn, 1) := by decide +kernel
theorem dX1_tell_0 : decode cX1_tell 0 = .ok (.iconst 0, 1) := by decide +kernel
theorem dX1_tell_1 : decode cX1_tell 1 = .ok (.istore 4, 2) := by decide +kernel
theorem dX1_tell_3 : decode cX1_tell 3 = .ok (.iload 4, 2) := by decide +kernel
theorem dX1_tell_5 : decode cX1_tell 5 = .ok (.aload_n 0, 1) := by decide +kernel
theorem dX1_tell_6 : decode cX1_tell 6 = .ok (.getfield 27, 3) := by decide +kernel
theorem dX1_tell_9 : decode cX1_tell 9 = .ok (.if_icmp .ge 36, 3) := by decide +kernel
theorem dX1_tell_12 : decode cX1_tell 12 = .ok (.iload_n 2, 1) := by decide +kernel
theorem dX1_tell_13 : decode cX1_tell 13 = .ok (.iload 4, 2) := by decide +kernel
theorem dX1_tell_15 : decode cX1_tell 15 = .ok (.ishr, 1) := by decide +kernel
theorem dX1_tell_16 : decode cX1_tell 16 = .ok (.iconst 1, 1) := by decide +kernel
theorem dX1_tell_17 : decode cX1_tell 17 = .ok (.iand, 1) := by decide +kernel
theorem dX1_tell_18 : decode cX1_tell 18 = .ok (.ifCond .eq 21, 3) := by decide +kernel
theorem dX1_tell_21 : decode cX1_tell 21 = .ok (.aload_n 0, 1) := by decide +kernel
theorem dX1_tell_22 : decode cX1_tell 22 = .ok (.getfield 18, 3) := by decide +kernel
theorem dX1_tell_25 : decode cX1_tell 25 = .ok (.iload_n 1, 1) := by decide +kernel
theorem dX1_tell_26 : decode cX1_tell 26 = .ok (.bipush 7, 2) := by decide +kernel
theorem dX1_tell_28 : decode cX1_tell 28 = .ok (.imul, 1) := by decide +kernel
theorem dX1_tell_29 : decode cX1_tell 29 = .ok (.iload 4, 2) := by decide +kernel
theorem dX1_tell_31 : decode cX1_tell 31 = .ok (.iadd, 1) := by decide +kernel
theorem dX1_tell_32 : decode cX1_tell 32 = .ok (.dup2, 1) := by decide +kernel
theorem dX1_tell_33 : decode cX1_tell 33 = .ok (.iaload, 1) := by decide +kernel
theorem dX1_tell_34 : decode cX1_tell 34 = .ok (.iconst 1, 1) := by decide +kernel
theorem dX1_tell_35 : decode cX1_tell 35 = .ok (.iload_n 3, 1) := by decide +kernel
theorem dX1_tell_36 : decode cX1_tell 36 = .ok (.ishl, 1) := by decide +kernel
theorem dX1_tell_37 : decode cX1_tell 37 = .ok (.ior, 1) := by decide +kernel
theorem dX1_tell_38 : decode cX1_tell 38 = .ok (.iastore, 1) := by decide +kernel
theorem dX1_tell_39 : decode cX1_tell 39 = .ok (.iinc 4 1, 3) := by decide +kernel
theorem dX1_tell_42 : decode cX1_tell 42 = .ok (.goto (-39), 3) := by decide +kernel
theorem dX1_tell_45 : decode cX1_tell 45 = .ok (.return_, 1) := by decide +kernel
theorem dX1_leaveKnown_0 : decode cX1_leaveKnown 0 = .ok (.aload_n 0, 1) := by decide +kernel
theorem dX1_leaveKnown_1 : decode cX1_leaveKnown 1 = .ok (.getfield 18, 3) := by decide +kernel
theorem dX1_leaveKnown_4 : decode cX1_leaveKnown 4 = .ok (.sipush 168, 3) := by decide +kernel
theorem dX1_leaveKnown_7 : decode cX1_leaveKnown 7 = .ok (.aload_n 1, 1) := by decide +kernel
theorem dX1_leaveKnown_8 : decode cX1_leaveKnown 8 = .ok (.getfield 32, 3) := by decide +kernel
theorem dX1_leaveKnown_11 : decode cX1_leaveKnown 11 = .ok (.iconst 0, 1) := by decide +kernel
theorem dX1_leaveKnown_12 : decode cX1_leaveKnown 12 = .ok (.bipush 7, 2) := by decide +kernel
theorem dX1_leaveKnown_14 : decode cX1_leaveKnown 14 = .ok (.invokestatic 35, 3) := by decide +kernel
theorem dX1_leaveKnown_17 : decode cX1_leaveKnown 17 = .ok (.return_, 1) := by decide +kernel
theorem dX1_knownBehind_0 : decode cX1_knownBehind 0 = .ok (.iload_n 1, 1) := by decide +kernel
theorem dX1_knownBehind_1 : decode cX1_knownBehind 1 = .ok (.ifCond .lt 21, 3) := by decide +kernel
theorem dX1_knownBehind_4 : decode cX1_knownBehind 4 = .ok (.iload_n 1, 1) := by decide +kernel
theorem dX1_knownBehind_5 : decode cX1_knownBehind 5 = .ok (.bipush 24, 2) := by decide +kernel
theorem dX1_knownBehind_7 : decode cX1_knownBehind 7 = .ok (.if_icmp .gt 15, 3) := by decide +kernel
theorem dX1_knownBehind_10 : decode cX1_knownBehind 10 = .ok (.iload_n 2, 1) := by decide +kernel
theorem dX1_knownBehind_11 : decode cX1_knownBehind 11 = .ok (.ifCond .lt 11, 3) := by decide +kernel
theorem dX1_knownBehind_14 : decode cX1_knownBehind 14 = .ok (.iload_n 2, 1) := by decide +kernel
theorem dX1_knownBehind_15 : decode cX1_knownBehind 15 = .ok (.aload_n 0, 1) := by decide +kernel
theorem dX1_knownBehind_16 : decode cX1_knownBehind 16 = .ok (.getfield 27, 3) := by decide +kernel
theorem dX1_knownBehind_19 : decode cX1_knownBehind 19 = .ok (.if_icmp .lt 5, 3) := by decide +kernel
theorem dX1_knownBehind_22 : decode cX1_knownBehind 22 = .ok (.iconst 0, 1) := by decide +kernel
theorem dX1_knownBehind_23 : decode cX1_knownBehind 23 = .ok (.ireturn, 1) := by decide +kernel
theorem dX1_knownBehind_24 : decode cX1_knownBehind 24 = .ok (.aload_n 0, 1) := by decide +kernel
theorem dX1_knownBehind_25 : decode cX1_knownBehind 25 = .ok (.getfield 18, 3) := by decide +kernel
theorem dX1_knownBehind_28 : decode cX1_knownBehind 28 = .ok (.iload_n 1, 1) := by decide +kernel
theorem dX1_knownBehind_29 : decode cX1_knownBehind 29 = .ok (.bipush 7, 2) := by decide +kernel
theorem dX1_knownBehind_31 : decode cX1_knownBehind 31 = .ok (.imul, 1) := by decide +kernel
theorem dX1_knownBehind_32 : decode cX1_knownBehind 32 = .ok (.iload_n 2, 1) := by decide +kernel
theorem dX1_knownBehind_33 : decode cX1_knownBehind 33 = .ok (.iadd, 1) := by decide +kernel
theorem dX1_knownBehind_34 : decode cX1_knownBehind 34 = .ok (.iaload, 1) := by decide +kernel
theorem dX1_knownBehind_35 : decode cX1_knownBehind 35 = .ok (.ireturn, 1) := by decide +kernel
theorem dX1_knownInAllBehind_0 : decode cX1_knownInAllBehind 0 = .ok (.iconst 0, 1) := by decide +kernel
theorem dX1_knownInAllBehind_1 : decode cX1_knownInAllBehind 1 = .ok (.istore_n 2, 1) := by decide +kernel
theorem dX1_knownInAllBehind_2 : decode cX1_knownInAllBehind 2 = .ok (.iconst 0, 1) := by decide +kernel
theorem dX1_knownInAllBehind_3 : decode cX1_knownInAllBehind 3 = .ok (.istore_n 3, 1) := by decide +kernel
theorem dX1_knownInAllBehind_4 : decode cX1_knownInAllBehind 4 = .ok (.iload_n 3, 1) := by decide +kernel
theorem dX1_knownInAllBehind_5 : decode cX1_knownInAllBehind 5 = .ok (.aload_n 0, 1) := by decide +kernel
theorem dX1_knownInAllBehind_6 : decode cX1_knownInAllBehind 6 = .ok (.getfield 27, 3) := by decide +kernel
theorem dX1_knownInAllBehind_9 : decode cX1_knownInAllBehind 9 = .ok (.if_icmp .ge 21, 3) := by decide +kernel
theorem dX1_knownInAllBehind_12 : decode cX1_knownInAllBehind 12 = .ok (.iload_n 2, 1) := by decide +kernel
theorem dX1_knownInAllBehind_13 : decode cX1_knownInAllBehind 13 = .ok (.aload_n 0, 1) := by decide +kernel
theorem dX1_knownInAllBehind_14 : decode cX1_knownInAllBehind 14 = .ok (.iload_n 1, 1) := by decide +kernel
theorem dX1_knownInAllBehind_15 : decode cX1_knownInAllBehind 15 = .ok (.iload_n 3, 1) := by decide +kernel
theorem dX1_knownInAllBehind_16 : decode cX1_knownInAllBehind 16 = .ok (.invokevirtual 78, 3) := by decide +kernel
theorem dX1_knownInAllBehind_19 : decode cX1_knownInAllBehind 19 = .ok (.invokestatic 81, 3) := by decide +kernel
theorem dX1_knownInAllBehind_22 : decode cX1_knownInAllBehind 22 = .ok (.iadd, 1) := by decide +kernel
theorem dX1_knownInAllBehind_23 : decode cX1_knownInAllBehind 23 = .ok (.istore_n 2, 1) := by decide +kernel
theorem dX1_knownInAllBehind_24 : decode cX1_knownInAllBehind 24 = .ok (.iinc 3 1, 3) := by decide +kernel
theorem dX1_knownInAllBehind_27 : decode cX1_knownInAllBehind 27 = .ok (.goto (-23), 3) := by decide +kernel
theorem dX1_knownInAllBehind_30 : decode cX1_knownInAllBehind 30 = .ok (.iload_n 2, 1) := by decide +kernel
theorem dX1_knownInAllBehind_31 : decode cX1_knownInAllBehind 31 = .ok (.ireturn, 1) := by decide +kernel
theorem dX1_knownTogether_0 : decode cX1_knownTogether 0 = .ok (.iconst 0, 1) := by decide +kernel
theorem dX1_knownTogether_1 : decode cX1_knownTogether 1 = .ok (.istore_n 2, 1) := by decide +kernel
theorem dX1_knownTogether_2 : decode cX1_knownTogether 2 = .ok (.iconst 0, 1) := by decide +kernel
theorem dX1_knownTogether_3 : decode cX1_knownTogether 3 = .ok (.istore_n 3, 1) := by decide +kernel
theorem dX1_knownTogether_4 : decode cX1_knownTogether 4 = .ok (.iload_n 3, 1) := by decide +kernel
theorem dX1_knownTogether_5 : decode cX1_knownTogether 5 = .ok (.aload_n 0, 1) := by decide +kernel
theorem dX1_knownTogether_6 : decode cX1_knownTogether 6 = .ok (.getfield 27, 3) := by decide +kernel
theorem dX1_knownTogether_9 : decode cX1_knownTogether 9 = .ok (.if_icmp .ge 27, 3) := by decide +kernel
theorem dX1_knownTogether_12 : decode cX1_knownTogether 12 = .ok (.iload_n 1, 1) := by decide +kernel
theorem dX1_knownTogether_13 : decode cX1_knownTogether 13 = .ok (.iload_n 3, 1) := by decide +kernel
theorem dX1_knownTogether_14 : decode cX1_knownTogether 14 = .ok (.ishr, 1) := by decide +kernel
theorem dX1_knownTogether_15 : decode cX1_knownTogether 15 = .ok (.iconst 1, 1) := by decide +kernel
theorem dX1_knownTogether_16 : decode cX1_knownTogether 16 = .ok (.iand, 1) := by decide +kernel
theorem dX1_knownTogether_17 : decode cX1_knownTogether 17 = .ok (.ifCond .eq 13, 3) := by decide +kernel
theorem dX1_knownTogether_20 : decode cX1_knownTogether 20 = .ok (.iload_n 2, 1) := by decide +kernel
theorem dX1_knownTogether_21 : decode cX1_knownTogether 21 = .ok (.aload_n 0, 1) := by decide +kernel
theorem dX1_knownTogether_22 : decode cX1_knownTogether 22 = .ok (.bipush 24, 2) := by decide +kernel
theorem dX1_knownTogether_24 : decode cX1_knownTogether 24 = .ok (.iload_n 3, 1) := by decide +kernel
theorem dX1_knownTogether_25 : decode cX1_knownTogether 25 = .ok (.invokevirtual 78, 3) := by decide +kernel
theorem dX1_knownTogether_28 : decode cX1_knownTogether 28 = .ok (.ior, 1) := by decide +kernel
theorem dX1_knownTogether_29 : decode cX1_knownTogether 29 = .ok (.istore_n 2, 1) := by decide +kernel
theorem dX1_knownTogether_30 : decode cX1_knownTogether 30 = .ok (.iinc 3 1, 3) := by decide +kernel
theorem dX1_knownTogether_33 : decode cX1_knownTogether 33 = .ok (.goto (-29), 3) := by decide +kernel
theorem dX1_knownTogether_36 : decode cX1_knownTogether 36 = .ok (.iload_n 2, 1) := by decide +kernel
theorem dX1_knownTogether_37 : decode cX1_knownTogether 37 = .ok (.ireturn, 1) := by decide +kernel
theorem dX1_knownToEach_0 : decode cX1_knownToEach 0 = .ok (.aload_n 0, 1) := by decide +kernel
theorem dX1_knownToEach_1 : decode cX1_knownToEach 1 = .ok (.getfield 27, 3) := by decide +kernel
theorem dX1_knownToEach_4 : decode cX1_knownToEach 4 = .ok (.ifCond .le 9, 3) := by decide +kernel
theorem dX1_knownToEach_7 : decode cX1_knownToEach 7 = .ok (.sipush 1023, 3) := by decide +kernel
theorem dX1_knownToEach_10 : decode cX1_knownToEach 10 = .ok (.goto 4, 3) := by decide +kernel
theorem dX1_knownToEach_13 : decode cX1_knownToEach 13 = .ok (.iconst 0, 1) := by decide +kernel
theorem dX1_knownToEach_14 : decode cX1_knownToEach 14 = .ok (.istore_n 1, 1) := by decide +kernel
theorem dX1_knownToEach_15 : decode cX1_knownToEach 15 = .ok (.iconst 0, 1) := by decide +kernel
theorem dX1_knownToEach_16 : decode cX1_knownToEach 16 = .ok (.istore_n 2, 1) := by decide +kernel
theorem dX1_knownToEach_17 : decode cX1_knownToEach 17 = .ok (.iload_n 2, 1) := by decide +kernel
theorem dX1_knownToEach_18 : decode cX1_knownToEach 18 = .ok (.aload_n 0, 1) := by decide +kernel
theorem dX1_knownToEach_19 : decode cX1_knownToEach 19 = .ok (.getfield 27, 3) := by decide +kernel
theorem dX1_knownToEach_22 : decode cX1_knownToEach 22 = .ok (.if_icmp .ge 19, 3) := by decide +kernel
theorem dX1_knownToEach_25 : decode cX1_knownToEach 25 = .ok (.iload_n 1, 1) := by decide +kernel
theorem dX1_knownToEach_26 : decode cX1_knownToEach 26 = .ok (.aload_n 0, 1) := by decide +kernel
theorem dX1_knownToEach_27 : decode cX1_knownToEach 27 = .ok (.bipush 24, 2) := by decide +kernel
theorem dX1_knownToEach_29 : decode cX1_knownToEach 29 = .ok (.iload_n 2, 1) := by decide +kernel
theorem dX1_knownToEach_30 : decode cX1_knownToEach 30 = .ok (.invokevirtual 78, 3) := by decide +kernel
theorem dX1_knownToEach_33 : decode cX1_knownToEach 33 = .ok (.iand, 1) := by decide +kernel
theorem dX1_knownToEach_34 : decode cX1_knownToEach 34 = .ok (.istore_n 1, 1) := by decide +kernel
theorem dX1_knownToEach_35 : decode cX1_knownToEach 35 = .ok (.iinc 2 1, 3) := by decide +kernel
theorem dX1_knownToEach_38 : decode cX1_knownToEach 38 = .ok (.goto (-21), 3) := by decide +kernel
theorem dX1_knownToEach_41 : decode cX1_knownToEach 41 = .ok (.iload_n 1, 1) := by decide +kernel
theorem dX1_knownToEach_42 : decode cX1_knownToEach 42 = .ok (.ireturn, 1) := by decide +kernel
theorem dX1_knowers_0 : decode cX1_knowers 0 = .ok (.iconst 1, 1) := by decide +kernel
theorem dX1_knowers_1 : decode cX1_knowers 1 = .ok (.aload_n 0, 1) := by decide +kernel
theorem dX1_knowers_2 : decode cX1_knowers 2 = .ok (.getfield 27, 3) := by decide +kernel
theorem dX1_knowers_5 : decode cX1_knowers 5 = .ok (.ishl, 1) := by decide +kernel
theorem dX1_knowers_6 : decode cX1_knowers 6 = .ok (.iconst 1, 1) := by decide +kernel
theorem dX1_knowers_7 : decode cX1_knowers 7 = .ok (.isub, 1) := by decide +kernel
theorem dX1_knowers_8 : decode cX1_knowers 8 = .ok (.aload_n 0, 1) := by decide +kernel
theorem dX1_knowers_9 : decode cX1_knowers 9 = .ok (.bipush 24, 2) := by decide +kernel
theorem dX1_knowers_11 : decode cX1_knowers 11 = .ok (.iload_n 1, 1) := by decide +kernel
theorem dX1_knowers_12 : decode cX1_knowers 12 = .ok (.invokevirtual 61, 3) := by decide +kernel
theorem dX1_knowers_15 : decode cX1_knowers 15 = .ok (.iconst (-1), 1) := by decide +kernel
theorem dX1_knowers_16 : decode cX1_knowers 16 = .ok (.ixor, 1) := by decide +kernel
theorem dX1_knowers_17 : decode cX1_knowers 17 = .ok (.iand, 1) := by decide +kernel
theorem dX1_knowers_18 : decode cX1_knowers 18 = .ok (.ireturn, 1) := by decide +kernel
theorem dX1_heardBehind_0 : decode cX1_heardBehind 0 = .ok (.iconst 0, 1) := by decide +kernel
theorem dX1_heardBehind_1 : decode cX1_heardBehind 1 = .ok (.istore_n 3, 1) := by decide +kernel
theorem dX1_heardBehind_2 : decode cX1_heardBehind 2 = .ok (.iload_n 3, 1) := by decide +kernel
theorem dX1_heardBehind_3 : decode cX1_heardBehind 3 = .ok (.bipush 24, 2) := by decide +kernel
theorem dX1_heardBehind_5 : decode cX1_heardBehind 5 = .ok (.if_icmp .gt 24, 3) := by decide +kernel
theorem dX1_heardBehind_8 : decode cX1_heardBehind 8 = .ok (.aload_n 0, 1) := by decide +kernel
theorem dX1_heardBehind_9 : decode cX1_heardBehind 9 = .ok (.iload_n 3, 1) := by decide +kernel
theorem dX1_heardBehind_10 : decode cX1_heardBehind 10 = .ok (.iload_n 1, 1) := by decide +kernel
theorem dX1_heardBehind_11 : decode cX1_heardBehind 11 = .ok (.invokevirtual 78, 3) := by decide +kernel
theorem dX1_heardBehind_14 : decode cX1_heardBehind 14 = .ok (.iload_n 2, 1) := by decide +kernel
theorem dX1_heardBehind_15 : decode cX1_heardBehind 15 = .ok (.ishr, 1) := by decide +kernel
theorem dX1_heardBehind_16 : decode cX1_heardBehind 16 = .ok (.iconst 1, 1) := by decide +kernel
theorem dX1_heardBehind_17 : decode cX1_heardBehind 17 = .ok (.iand, 1) := by decide +kernel
theorem dX1_heardBehind_18 : decode cX1_heardBehind 18 = .ok (.ifCond .eq 5, 3) := by decide +kernel
theorem dX1_heardBehind_21 : decode cX1_heardBehind 21 = .ok (.iload_n 3, 1) := by decide +kernel
theorem dX1_heardBehind_22 : decode cX1_heardBehind 22 = .ok (.ireturn, 1) := by decide +kernel
theorem dX1_heardBehind_23 : decode cX1_heardBehind 23 = .ok (.iinc 3 1, 3) := by decide +kernel
theorem dX1_heardBehind_26 : decode cX1_heardBehind 26 = .ok (.goto (-24), 3) := by decide +kernel
theorem dX1_heardBehind_29 : decode cX1_heardBehind 29 = .ok (.bipush (-9), 2) := by decide +kernel
theorem dX1_heardBehind_31 : decode cX1_heardBehind 31 = .ok (.ireturn, 1) := by decide +kernel
theorem dX1_mouth_0 : decode cX1_mouth 0 = .ok (.iload_n 1, 1) := by decide +kernel
theorem dX1_mouth_1 : decode cX1_mouth 1 = .ok (.ifCond .lt 21, 3) := by decide +kernel
theorem dX1_mouth_4 : decode cX1_mouth 4 = .ok (.iload_n 1, 1) := by decide +kernel
theorem dX1_mouth_5 : decode cX1_mouth 5 = .ok (.aload_n 0, 1) := by decide +kernel
theorem dX1_mouth_6 : decode cX1_mouth 6 = .ok (.getfield 31, 3) := by decide +kernel
theorem dX1_mouth_9 : decode cX1_mouth 9 = .ok (.if_icmp .ge 13, 3) := by decide +kernel
theorem dX1_mouth_12 : decode cX1_mouth 12 = .ok (.iload_n 2, 1) := by decide +kernel
theorem dX1_mouth_13 : decode cX1_mouth 13 = .ok (.ifCond .lt 9, 3) := by decide +kernel
theorem dX1_mouth_16 : decode cX1_mouth 16 = .ok (.iload_n 2, 1) := by decide +kernel
theorem dX1_mouth_17 : decode cX1_mouth 17 = .ok (.bipush 24, 2) := by decide +kernel
theorem dX1_mouth_19 : decode cX1_mouth 19 = .ok (.if_icmp .lt 6, 3) := by decide +kernel
theorem dX1_mouth_22 : decode cX1_mouth 22 = .ok (.bipush (-9), 2) := by decide +kernel
theorem dX1_mouth_24 : decode cX1_mouth 24 = .ok (.ireturn, 1) := by decide +kernel
theorem dX1_mouth_25 : decode cX1_mouth 25 = .ok (.aload_n 0, 1) := by decide +kernel
theorem dX1_mouth_26 : decode cX1_mouth 26 = .ok (.getfield 15, 3) := by decide +kernel
theorem dX1_mouth_29 : decode cX1_mouth 29 = .ok (.iload_n 2, 1) := by decide +kernel
theorem dX1_mouth_30 : decode cX1_mouth 30 = .ok (.bipush 6, 2) := by decide +kernel
theorem dX1_mouth_32 : decode cX1_mouth 32 = .ok (.imul, 1) := by decide +kernel
theorem dX1_mouth_33 : decode cX1_mouth 33 = .ok (.iload_n 1, 1) := by decide +kernel
theorem dX1_mouth_34 : decode cX1_mouth 34 = .ok (.iadd, 1) := by decide +kernel
theorem dX1_mouth_35 : decode cX1_mouth 35 = .ok (.iaload, 1) := by decide +kernel
theorem dX1_mouth_36 : decode cX1_mouth 36 = .ok (.ireturn, 1) := by decide +kernel
theorem dX1_speakers_0 : decode cX1_speakers 0 = .ok (.iconst 0, 1) := by decide +kernel
theorem dX1_speakers_1 : decode cX1_speakers 1 = .ok (.istore_n 2, 1) := by decide +kernel
theorem dX1_speakers_2 : decode cX1_speakers 2 = .ok (.iconst 0, 1) := by decide +kernel
theorem dX1_speakers_3 : decode cX1_speakers 3 = .ok (.istore_n 3, 1) := by decide +kernel
theorem dX1_speakers_4 : decode cX1_speakers 4 = .ok (.iload_n 3, 1) := by decide +kernel
theorem dX1_speakers_5 : decode cX1_speakers 5 = .ok (.aload_n 0, 1) := by decide +kernel
theorem dX1_speakers_6 : decode cX1_speakers 6 = .ok (.getfield 31, 3) := by decide +kernel
theorem dX1_speakers_9 : decode cX1_speakers 9 = .ok (.if_icmp .ge 24, 3) := by decide +kernel
theorem dX1_speakers_12 : decode cX1_speakers 12 = .ok (.aload_n 0, 1) := by decide +kernel
theorem dX1_speakers_13 : decode cX1_speakers 13 = .ok (.iload_n 3, 1) := by decide +kernel
theorem dX1_speakers_14 : decode cX1_speakers 14 = .ok (.iload_n 1, 1) := by decide +kernel
theorem dX1_speakers_15 : decode cX1_speakers 15 = .ok (.invokevirtual 86, 3) := by decide +kernel
theorem dX1_speakers_18 : decode cX1_speakers 18 = .ok (.ifCond .lt 9, 3) := by decide +kernel
theorem dX1_speakers_21 : decode cX1_speakers 21 = .ok (.iload_n 2, 1) := by decide +kernel
theorem dX1_speakers_22 : decode cX1_speakers 22 = .ok (.iconst 1, 1) := by decide +kernel
theorem dX1_speakers_23 : decode cX1_speakers 23 = .ok (.iload_n 3, 1) := by decide +kernel
theorem dX1_speakers_24 : decode cX1_speakers 24 = .ok (.ishl, 1) := by decide +kernel
theorem dX1_speakers_25 : decode cX1_speakers 25 = .ok (.ior, 1) := by decide +kernel
theorem dX1_speakers_26 : decode cX1_speakers 26 = .ok (.istore_n 2, 1) := by decide +kernel
theorem dX1_speakers_27 : decode cX1_speakers 27 = .ok (.iinc 3 1, 3) := by decide +kernel
theorem dX1_speakers_30 : decode cX1_speakers 30 = .ok (.goto (-26), 3) := by decide +kernel
theorem dX1_speakers_33 : decode cX1_speakers 33 = .ok (.iload_n 2, 1) := by decide +kernel
theorem dX1_speakers_34 : decode cX1_speakers 34 = .ok (.ireturn, 1) := by decide +kernel
theorem dX1_speakersThrough_0 : decode cX1_speakersThrough 0 = .ok (.iconst 0, 1) := by decide +kernel
theorem dX1_speakersThrough_1 : decode cX1_speakersThrough 1 = .ok (.istore_n 3, 1) := by decide +kernel
theorem dX1_speakersThrough_2 : decode cX1_speakersThrough 2 = .ok (.iconst 0, 1) := by decide +kernel
theorem dX1_speakersThrough_3 : decode cX1_speakersThrough 3 = .ok (.istore 4, 2) := by decide +kernel
theorem dX1_speakersThrough_5 : decode cX1_speakersThrough 5 = .ok (.iload 4, 2) := by decide +kernel
theorem dX1_speakersThrough_7 : decode cX1_speakersThrough 7 = .ok (.aload_n 0, 1) := by decide +kernel
theorem dX1_speakersThrough_8 : decode cX1_speakersThrough 8 = .ok (.getfield 31, 3) := by decide +kernel
theorem dX1_speakersThrough_11 : decode cX1_speakersThrough 11 = .ok (.if_icmp .ge 27, 3) := by decide +kernel
theorem dX1_speakersThrough_14 : decode cX1_speakersThrough 14 = .ok (.aload_n 0, 1) := by decide +kernel
theorem dX1_speakersThrough_15 : decode cX1_speakersThrough 15 = .ok (.iload 4, 2) := by decide +kernel
theorem dX1_speakersThrough_17 : decode cX1_speakersThrough 17 = .ok (.iload_n 2, 1) := by decide +kernel
theorem dX1_speakersThrough_18 : decode cX1_speakersThrough 18 = .ok (.invokevirtual 86, 3) := by decide +kernel
theorem dX1_speakersThrough_21 : decode cX1_speakersThrough 21 = .ok (.iload_n 1, 1) := by decide +kernel
theorem dX1_speakersThrough_22 : decode cX1_speakersThrough 22 = .ok (.if_icmp .ne 10, 3) := by decide +kernel
theorem dX1_speakersThrough_25 : decode cX1_speakersThrough 25 = .ok (.iload_n 3, 1) := by decide +kernel
theorem dX1_speakersThrough_26 : decode cX1_speakersThrough 26 = .ok (.iconst 1, 1) := by decide +kernel
theorem dX1_speakersThrough_27 : decode cX1_speakersThrough 27 = .ok (.iload 4, 2) := by decide +kernel
theorem dX1_speakersThrough_29 : decode cX1_speakersThrough 29 = .ok (.ishl, 1) := by decide +kernel
theorem dX1_speakersThrough_30 : decode cX1_speakersThrough 30 = .ok (.ior, 1) := by decide +kernel
theorem dX1_speakersThrough_31 : decode cX1_speakersThrough 31 = .ok (.istore_n 3, 1) := by decide +kernel
theorem dX1_speakersThrough_32 : decode cX1_speakersThrough 32 = .ok (.iinc 4 1, 3) := by decide +kernel
theorem dX1_speakersThrough_35 : decode cX1_speakersThrough 35 = .ok (.goto (-30), 3) := by decide +kernel
theorem dX1_speakersThrough_38 : decode cX1_speakersThrough 38 = .ok (.iload_n 3, 1) := by decide +kernel
theorem dX1_speakersThrough_39 : decode cX1_speakersThrough 39 = .ok (.ireturn, 1) := by decide +kernel
theorem dX1_twoThroughOne_0 : decode cX1_twoThroughOne 0 = .ok (.iconst 0, 1) := by decide +kernel
theorem dX1_twoThroughOne_1 : decode cX1_twoThroughOne 1 = .ok (.istore_n 2, 1) := by decide +kernel
theorem dX1_twoThroughOne_2 : decode cX1_twoThroughOne 2 = .ok (.iload_n 2, 1) := by decide +kernel
theorem dX1_twoThroughOne_3 : decode cX1_twoThroughOne 3 = .ok (.aload_n 0, 1) := by decide +kernel
theorem dX1_twoThroughOne_4 : decode cX1_twoThroughOne 4 = .ok (.getfield 27, 3) := by decide +kernel
theorem dX1_twoThroughOne_7 : decode cX1_twoThroughOne 7 = .ok (.if_icmp .ge 24, 3) := by decide +kernel
theorem dX1_twoThroughOne_10 : decode cX1_twoThroughOne 10 = .ok (.aload_n 0, 1) := by decide +kernel
theorem dX1_twoThroughOne_11 : decode cX1_twoThroughOne 11 = .ok (.iload_n 2, 1) := by decide +kernel
theorem dX1_twoThroughOne_12 : decode cX1_twoThroughOne 12 = .ok (.iload_n 1, 1) := by decide +kernel
theorem dX1_twoThroughOne_13 : decode cX1_twoThroughOne 13 = .ok (.invokevirtual 89, 3) := by decide +kernel
theorem dX1_twoThroughOne_16 : decode cX1_twoThroughOne 16 = .ok (.invokestatic 81, 3) := by decide +kernel
theorem dX1_twoThroughOne_19 : decode cX1_twoThroughOne 19 = .ok (.iconst 2, 1) := by decide +kernel
theorem dX1_twoThroughOne_20 : decode cX1_twoThroughOne 20 = .ok (.if_icmp .lt 5, 3) := by decide +kernel
theorem dX1_twoThroughOne_23 : decode cX1_twoThroughOne 23 = .ok (.iconst 1, 1) := by decide +kernel
theorem dX1_twoThroughOne_24 : decode cX1_twoThroughOne 24 = .ok (.ireturn, 1) := by decide +kernel
theorem dX1_twoThroughOne_25 : decode cX1_twoThroughOne 25 = .ok (.iinc 2 1, 3) := by decide +kernel
theorem dX1_twoThroughOne_28 : decode cX1_twoThroughOne 28 = .ok (.goto (-26), 3) := by decide +kernel
theorem dX1_twoThroughOne_31 : decode cX1_twoThroughOne 31 = .ok (.iconst 0, 1) := by decide +kernel
theorem dX1_twoThroughOne_32 : decode cX1_twoThroughOne 32 = .ok (.ireturn, 1) := by decide +kernel
theorem dX1_timesOf_0 : decode cX1_timesOf 0 = .ok (.iconst 0, 1) := by decide +kernel
theorem dX1_timesOf_1 : decode cX1_timesOf 1 = .ok (.istore_n 2, 1) := by decide +kernel
theorem dX1_timesOf_2 : decode cX1_timesOf 2 = .ok (.iconst 0, 1) := by decide +kernel
theorem dX1_timesOf_3 : decode cX1_timesOf 3 = .ok (.istore_n 3, 1) := by decide +kernel
theorem dX1_timesOf_4 : decode cX1_timesOf 4 = .ok (.iload_n 3, 1) := by decide +kernel
theorem dX1_timesOf_5 : decode cX1_timesOf 5 = .ok (.bipush 24, 2) := by decide +kernel
theorem dX1_timesOf_7 : decode cX1_timesOf 7 = .ok (.if_icmp .ge 21, 3) := by decide +kernel
theorem dX1_timesOf_10 : decode cX1_timesOf 10 = .ok (.aload_n 0, 1) := by decide +kernel
theorem dX1_timesOf_11 : decode cX1_timesOf 11 = .ok (.iload_n 1, 1) := by decide +kernel
theorem dX1_timesOf_12 : decode cX1_timesOf 12 = .ok (.iload_n 3, 1) := by decide +kernel
theorem dX1_timesOf_13 : decode cX1_timesOf 13 = .ok (.invokevirtual 86, 3) := by decide +kernel
theorem dX1_timesOf_16 : decode cX1_timesOf 16 = .ok (.ifCond .lt 6, 3) := by decide +kernel
theorem dX1_timesOf_19 : decode cX1_timesOf 19 = .ok (.iinc 2 1, 3) := by decide +kernel
theorem dX1_timesOf_22 : decode cX1_timesOf 22 = .ok (.iinc 3 1, 3) := by decide +kernel
theorem dX1_timesOf_25 : decode cX1_timesOf 25 = .ok (.goto (-21), 3) := by decide +kernel
theorem dX1_timesOf_28 : decode cX1_timesOf 28 = .ok (.iload_n 2, 1) := by decide +kernel
theorem dX1_timesOf_29 : decode cX1_timesOf 29 = .ok (.ireturn, 1) := by decide +kernel
theorem dX1_timesThrough_0 : decode cX1_timesThrough 0 = .ok (.iconst 0, 1) := by decide +kernel
theorem dX1_timesThrough_1 : decode cX1_timesThrough 1 = .ok (.istore_n 3, 1) := by decide +kernel
theorem dX1_timesThrough_2 : decode cX1_timesThrough 2 = .ok (.iconst 0, 1) := by decide +kernel
theorem dX1_timesThrough_3 : decode cX1_timesThrough 3 = .ok (.istore 4, 2) := by decide +kernel
theorem dX1_timesThrough_5 : decode cX1_timesThrough 5 = .ok (.iload 4, 2) := by decide +kernel
theorem dX1_timesThrough_7 : decode cX1_timesThrough 7 = .ok (.bipush 24, 2) := by decide +kernel
theorem dX1_timesThrough_9 : decode cX1_timesThrough 9 = .ok (.if_icmp .ge 23, 3) := by decide +kernel
theorem dX1_timesThrough_12 : decode cX1_timesThrough 12 = .ok (.aload_n 0, 1) := by decide +kernel
theorem dX1_timesThrough_13 : decode cX1_timesThrough 13 = .ok (.iload_n 1, 1) := by decide +kernel
theorem dX1_timesThrough_14 : decode cX1_timesThrough 14 = .ok (.iload 4, 2) := by decide +kernel
theorem dX1_timesThrough_16 : decode cX1_timesThrough 16 = .ok (.invokevirtual 86, 3) := by decide +kernel
theorem dX1_timesThrough_19 : decode cX1_timesThrough 19 = .ok (.iload_n 2, 1) := by decide +kernel
theorem dX1_timesThrough_20 : decode cX1_timesThrough 20 = .ok (.if_icmp .ne 6, 3) := by decide +kernel
theorem dX1_timesThrough_23 : decode cX1_timesThrough 23 = .ok (.iinc 3 1, 3) := by decide +kernel
theorem dX1_timesThrough_26 : decode cX1_timesThrough 26 = .ok (.iinc 4 1, 3) := by decide +kernel
theorem dX1_timesThrough_29 : decode cX1_timesThrough 29 = .ok (.goto (-24), 3) := by decide +kernel
theorem dX1_timesThrough_32 : decode cX1_timesThrough 32 = .ok (.iload_n 3, 1) := by decide +kernel
theorem dX1_timesThrough_33 : decode cX1_timesThrough 33 = .ok (.ireturn, 1) := by decide +kernel
theorem dX1_timesTogether_0 : decode cX1_timesTogether 0 = .ok (.iconst 0, 1) := by decide +kernel
theorem dX1_timesTogether_1 : decode cX1_timesTogether 1 = .ok (.istore_n 3, 1) := by decide +kernel
theorem dX1_timesTogether_2 : decode cX1_timesTogether 2 = .ok (.iconst 0, 1) := by decide +kernel
theorem dX1_timesTogether_3 : decode cX1_timesTogether 3 = .ok (.istore 4, 2) := by decide +kernel
theorem dX1_timesTogether_5 : decode cX1_timesTogether 5 = .ok (.iload 4, 2) := by decide +kernel
theorem dX1_timesTogether_7 : decode cX1_timesTogether 7 = .ok (.bipush 24, 2) := by decide +kernel
theorem dX1_timesTogether_9 : decode cX1_timesTogether 9 = .ok (.if_icmp .ge 32, 3) := by decide +kernel
theorem dX1_timesTogether_12 : decode cX1_timesTogether 12 = .ok (.aload_n 0, 1) := by decide +kernel
theorem dX1_timesTogether_13 : decode cX1_timesTogether 13 = .ok (.iload_n 1, 1) := by decide +kernel
theorem dX1_timesTogether_14 : decode cX1_timesTogether 14 = .ok (.iload 4, 2) := by decide +kernel
theorem dX1_timesTogether_16 : decode cX1_timesTogether 16 = .ok (.invokevirtual 86, 3) := by decide +kernel
theorem dX1_timesTogether_19 : decode cX1_timesTogether 19 = .ok (.ifCond .lt 16, 3) := by decide +kernel
theorem dX1_timesTogether_22 : decode cX1_timesTogether 22 = .ok (.aload_n 0, 1) := by decide +kernel
theorem dX1_timesTogether_23 : decode cX1_timesTogether 23 = .ok (.iload_n 2, 1) := by decide +kernel
theorem dX1_timesTogether_24 : decode cX1_timesTogether 24 = .ok (.iload 4, 2) := by decide +kernel
theorem dX1_timesTogether_26 : decode cX1_timesTogether 26 = .ok (.invokevirtual 86, 3) := by decide +kernel
theorem dX1_timesTogether_29 : decode cX1_timesTogether 29 = .ok (.ifCond .lt 6, 3) := by decide +kernel
theorem dX1_timesTogether_32 : decode cX1_timesTogether 32 = .ok (.iinc 3 1, 3) := by decide +kernel
theorem dX1_timesTogether_35 : decode cX1_timesTogether 35 = .ok (.iinc 4 1, 3) := by decide +kernel
theorem dX1_timesTogether_38 : decode cX1_timesTogether 38 = .ok (.goto (-33), 3) := by decide +kernel
theorem dX1_timesTogether_41 : decode cX1_timesTogether 41 = .ok (.iload_n 3, 1) := by decide +kernel
theorem dX1_timesTogether_42 : decode cX1_timesTogether 42 = .ok (.ireturn, 1) := by decide +kernel
theorem dX2_init_0 : decode cX2_init 0 = .ok (.aload_n 0, 1) := by decide +kernel
theorem dX2_init_1 : decode cX2_init 1 = .ok (.invokespecial 3, 3) := by decide +kernel
theorem dX2_init_4 : decode cX2_init 4 = .ok (.aload_n 0, 1) := by decide +kernel
theorem dX2_init_5 : decode cX2_init 5 = .ok (.bipush 7, 2) := by decide +kernel
theorem dX2_init_7 : decode cX2_init 7 = .ok (.newarray .int, 2) := by decide +kernel
theorem dX2_init_9 : decode cX2_init 9 = .ok (.putfield 9, 3) := by decide +kernel
theorem dX2_init_12 : decode cX2_init 12 = .ok (.aload_n 0, 1) := by decide +kernel
theorem dX2_init_13 : decode cX2_init 13 = .ok (.bipush 7, 2) := by decide +kernel
theorem dX2_init_15 : decode cX2_init 15 = .ok (.newarray .int, 2) := by decide +kernel
theorem dX2_init_17 : decode cX2_init 17 = .ok (.putfield 15, 3) := by decide +kernel
theorem dX2_init_20 : decode cX2_init 20 = .ok (.aload_n 0, 1) := by decide +kernel
theorem dX2_init_21 : decode cX2_init 21 = .ok (.bipush 7, 2) := by decide +kernel
theorem dX2_init_23 : decode cX2_init 23 = .ok (.newarray .int, 2) := by decide +kernel
theorem dX2_init_25 : decode cX2_init 25 = .ok (.putfield 18, 3) := by decide +kernel
theorem dX2_init_28 : decode cX2_init 28 = .ok (.aload_n 0, 1) := by decide +kernel
theorem dX2_init_29 : decode cX2_init 29 = .ok (.bipush 6, 2) := by decide +kernel
theorem dX2_init_31 : decode cX2_init 31 = .ok (.newarray .int, 2) := by decide +kernel
theorem dX2_init_33 : decode cX2_init 33 = .ok (.putfield 21, 3) := by decide +kernel
theorem dX2_init_36 : decode cX2_init 36 = .ok (.aload_n 0, 1) := by decide +kernel
theorem dX2_init_37 : decode cX2_init 37 = .ok (.bipush 6, 2) := by decide +kernel
theorem dX2_init_39 : decode cX2_init 39 = .ok (.newarray .int, 2) := by decide +kernel
theorem dX2_init_41 : decode cX2_init 41 = .ok (.putfield 24, 3) := by decide +kernel
theorem dX2_init_44 : decode cX2_init 44 = .ok (.aload_n 0, 1) := by decide +kernel
theorem dX2_init_45 : decode cX2_init 45 = .ok (.bipush 6, 2) := by decide +kernel
theorem dX2_init_47 : decode cX2_init 47 = .ok (.newarray .int, 2) := by decide +kernel
theorem dX2_init_49 : decode cX2_init 49 = .ok (.putfield 27, 3) := by decide +kernel
theorem dX2_init_52 : decode cX2_init 52 = .ok (.return_, 1) := by decide +kernel
theorem dX2_become_0 : decode cX2_become 0 = .ok (.aload_n 0, 1) := by decide +kernel
theorem dX2_become_1 : decode cX2_become 1 = .ok (.aload_n 1, 1) := by decide +kernel
theorem dX2_become_2 : decode cX2_become 2 = .ok (.getfield 30, 3) := by decide +kernel
theorem dX2_become_5 : decode cX2_become 5 = .ok (.putfield 30, 3) := by decide +kernel
theorem dX2_become_8 : decode cX2_become 8 = .ok (.aload_n 0, 1) := by decide +kernel
theorem dX2_become_9 : decode cX2_become 9 = .ok (.aload_n 1, 1) := by decide +kernel
theorem dX2_become_10 : decode cX2_become 10 = .ok (.getfield 34, 3) := by decide +kernel
theorem dX2_become_13 : decode cX2_become 13 = .ok (.putfield 34, 3) := by decide +kernel
theorem dX2_become_16 : decode cX2_become 16 = .ok (.aload_n 0, 1) := by decide +kernel
theorem dX2_become_17 : decode cX2_become 17 = .ok (.aload_n 1, 1) := by decide +kernel
theorem dX2_become_18 : decode cX2_become 18 = .ok (.getfield 37, 3) := by decide +kernel
theorem dX2_become_21 : decode cX2_become 21 = .ok (.putfield 37, 3) := by decide +kernel
theorem dX2_become_24 : decode cX2_become 24 = .ok (.aload_n 0, 1) := by decide +kernel
theorem dX2_become_25 : decode cX2_become 25 = .ok (.iconst 0, 1) := by decide +kernel
theorem dX2_become_26 : decode cX2_become 26 = .ok (.putfield 40, 3) := by decide +kernel
theorem dX2_become_29 : decode cX2_become 29 = .ok (.aload_n 1, 1) := by decide +kernel
theorem dX2_become_30 : decode cX2_become 30 = .ok (.getfield 9, 3) := by decide +kernel
theorem dX2_become_33 : decode cX2_become 33 = .ok (.iconst 0, 1) := by decide +kernel
theorem dX2_become_34 : decode cX2_become 34 = .ok (.aload_n 0, 1) := by decide +kernel
theorem dX2_become_35 : decode cX2_become 35 = .ok (.getfield 9, 3) := by decide +kernel
theorem dX2_become_38 : decode cX2_become 38 = .ok (.iconst 0, 1) := by decide +kernel
theorem dX2_become_39 : decode cX2_become 39 = .ok (.bipush 7, 2) := by decide +kernel
theorem dX2_become_41 : decode cX2_become 41 = .ok (.invokestatic 43, 3) := by decide +kernel
theorem dX2_become_44 : decode cX2_become 44 = .ok (.aload_n 1, 1) := by decide +kernel
theorem dX2_become_45 : decode cX2_become 45 = .ok (.getfield 15, 3) := by decide +kernel
theorem dX2_become_48 : decode cX2_become 48 = .ok (.iconst 0, 1) := by decide +kernel
theorem dX2_become_49 : decode cX2_become 49 = .ok (.aload_n 0, 1) := by decide +kernel
theorem dX2_become_50 : decode cX2_become 50 = .ok (.getfield 15, 3) := by decide +kernel
theorem dX2_become_53 : decode cX2_become 53 = .ok (.iconst 0, 1) := by decide +kernel
theorem dX2_become_54 : decode cX2_become 54 = .ok (.bipush 7, 2) := by decide +kernel
theorem dX2_become_56 : decode cX2_become 56 = .ok (.invokestatic 43, 3) := by decide +kernel
theorem dX2_become_59 : decode cX2_become 59 = .ok (.aload_n 1, 1) := by decide +kernel
theorem dX2_become_60 : decode cX2_become 60 = .ok (.getfield 18, 3) := by decide +kernel
theorem dX2_become_63 : decode cX2_become 63 = .ok (.iconst 0, 1) := by decide +kernel
theorem dX2_become_64 : decode cX2_become 64 = .ok (.aload_n 0, 1) := by decide +kernel
theorem dX2_become_65 : decode cX2_become 65 = .ok (.getfield 18, 3) := by decide +kernel
theorem dX2_become_68 : decode cX2_become 68 = .ok (.iconst 0, 1) := by decide +kernel
theorem dX2_become_69 : decode cX2_become 69 = .ok (.bipush 7, 2) := by decide +kernel
theorem dX2_become_71 : decode cX2_become 71 = .ok (.invokestatic 43, 3) := by decide +kernel
theorem dX2_become_74 : decode cX2_become 74 = .ok (.aload_n 1, 1) := by decide +kernel
theorem dX2_become_75 : decode cX2_become 75 = .ok (.getfield 21, 3) := by decide +kernel
theorem dX2_become_78 : decode cX2_become 78 = .ok (.iconst 0, 1) := by decide +kernel
theorem dX2_become_79 : decode cX2_become 79 = .ok (.aload_n 0, 1) := by decide +kernel
theorem dX2_become_80 : decode cX2_become 80 = .ok (.getfield 21, 3) := by decide +kernel
theorem dX2_become_83 : decode cX2_become 83 = .ok (.iconst 0, 1) := by decide +kernel
theorem dX2_become_84 : decode cX2_become 84 = .ok (.bipush 6, 2) := by decide +kernel
theorem dX2_become_86 : decode cX2_become 86 = .ok (.invokestatic 43, 3) := by decide +kernel
theorem dX2_become_89 : decode cX2_become 89 = .ok (.aload_n 1, 1) := by decide +kernel
theorem dX2_become_90 : decode cX2_become 90 = .ok (.getfield 24, 3) := by decide +kernel
theorem dX2_become_93 : decode cX2_become 93 = .ok (.iconst 0, 1) := by decide +kernel
theorem dX2_become_94 : decode cX2_become 94 = .ok (.aload_n 0, 1) := by decide +kernel
theorem dX2_become_95 : decode cX2_become 95 = .ok (.getfield 24, 3) := by decide +kernel
theorem dX2_become_98 : decode cX2_become 98 = .ok (.iconst 0, 1) := by decide +kernel
theorem dX2_become_99 : decode cX2_become 99 = .ok (.bipush 6, 2) := by decide +kernel
theorem dX2_become_101 : decode cX2_become 101 = .ok (.invokestatic 43, 3) := by decide +kernel
theorem dX2_become_104 : decode cX2_become 104 = .ok (.aload_n 1, 1) := by decide +kernel
theorem dX2_become_105 : decode cX2_become 105 = .ok (.getfield 27, 3) := by decide +kernel
theorem dX2_become_108 : decode cX2_become 108 = .ok (.iconst 0, 1) := by decide +kernel
theorem dX2_become_109 : decode cX2_become 109 = .ok (.aload_n 0, 1) := by decide +kernel
theorem dX2_become_110 : decode cX2_become 110 = .ok (.getfield 27, 3) := by decide +kernel
theorem dX2_become_113 : decode cX2_become 113 = .ok (.iconst 0, 1) := by decide +kernel
theorem dX2_become_114 : decode cX2_become 114 = .ok (.bipush 6, 2) := by decide +kernel
theorem dX2_become_116 : decode cX2_become 116 = .ok (.invokestatic 43, 3) := by decide +kernel
theorem dX2_become_119 : decode cX2_become 119 = .ok (.return_, 1) := by decide +kernel
theorem dX2_addPerson_0 : decode cX2_addPerson 0 = .ok (.iload_n 1, 1) := by decide +kernel
theorem dX2_addPerson_1 : decode cX2_addPerson 1 = .ok (.ifCond .lt 18, 3) := by decide +kernel
theorem dX2_addPerson_4 : decode cX2_addPerson 4 = .ok (.iload_n 1, 1) := by decide +kernel
theorem dX2_addPerson_5 : decode cX2_addPerson 5 = .ok (.bipush 63, 2) := by decide +kernel
theorem dX2_addPerson_7 : decode cX2_addPerson 7 = .ok (.if_icmp .gt 12, 3) := by decide +kernel
theorem dX2_addPerson_10 : decode cX2_addPerson 10 = .ok (.aload_n 0, 1) := by decide +kernel
theorem dX2_addPerson_11 : decode cX2_addPerson 11 = .ok (.getfield 30, 3) := by decide +kernel
theorem dX2_addPerson_14 : decode cX2_addPerson 14 = .ok (.bipush 7, 2) := by decide +kernel
theorem dX2_addPerson_16 : decode cX2_addPerson 16 = .ok (.if_icmp .lt 5, 3) := by decide +kernel
theorem dX2_addPerson_19 : decode cX2_addPerson 19 = .ok (.iconst 0, 1) := by decide +kernel
theorem dX2_addPerson_20 : decode cX2_addPerson 20 = .ok (.ireturn, 1) := by decide +kernel
theorem dX2_addPerson_21 : decode cX2_addPerson 21 = .ok (.aload_n 0, 1) := by decide +kernel
theorem dX2_addPerson_22 : decode cX2_addPerson 22 = .ok (.getfield 9, 3) := by decide +kernel
theorem dX2_addPerson_25 : decode cX2_addPerson 25 = .ok (.aload_n 0, 1) := by decide +kernel
theorem dX2_addPerson_26 : decode cX2_addPerson 26 = .ok (.getfield 30, 3) := by decide +kernel
theorem dX2_addPerson_29 : decode cX2_addPerson 29 = .ok (.iload_n 1, 1) := by decide +kernel
theorem dX2_addPerson_30 : decode cX2_addPerson 30 = .ok (.iastore, 1) := by decide +kernel
theorem dX2_addPerson_31 : decode cX2_addPerson 31 = .ok (.aload_n 0, 1) := by decide +kernel
theorem dX2_addPerson_32 : decode cX2_addPerson 32 = .ok (.getfield 15, 3) := by decide +kernel
theorem dX2_addPerson_35 : decode cX2_addPerson 35 = .ok (.aload_n 0, 1) := by decide +kernel
theorem dX2_addPerson_36 : decode cX2_addPerson 36 = .ok (.getfield 30, 3) := by decide +kernel
theorem dX2_addPerson_39 : decode cX2_addPerson 39 = .ok (.iconst 0, 1) := by decide +kernel
theorem dX2_addPerson_40 : decode cX2_addPerson 40 = .ok (.iastore, 1) := by decide +kernel
theorem dX2_addPerson_41 : decode cX2_addPerson 41 = .ok (.aload_n 0, 1) := by decide +kernel
theorem dX2_addPerson_42 : decode cX2_addPerson 42 = .ok (.getfield 18, 3) := by decide +kernel
theorem dX2_addPerson_45 : decode cX2_addPerson 45 = .ok (.aload_n 0, 1) := by decide +kernel
theorem dX2_addPerson_46 : decode cX2_addPerson 46 = .ok (.getfield 30, 3) := by decide +kernel
theorem dX2_addPerson_49 : decode cX2_addPerson 49 = .ok (.iconst 0, 1) := by decide +kernel
theorem dX2_addPerson_50 : decode cX2_addPerson 50 = .ok (.iastore, 1) := by decide +kernel
theorem dX2_addPerson_51 : decode cX2_addPerson 51 = .ok (.aload_n 0, 1) := by decide +kernel
theorem dX2_addPerson_52 : decode cX2_addPerson 52 = .ok (.dup, 1) := by decide +kernel
theorem dX2_addPerson_53 : decode cX2_addPerson 53 = .ok (.getfield 37, 3) := by decide +kernel
theorem dX2_addPerson_56 : decode cX2_addPerson 56 = .ok (.iconst 1, 1) := by decide +kernel
theorem dX2_addPerson_57 : decode cX2_addPerson 57 = .ok (.aload_n 0, 1) := by decide +kernel
theorem dX2_addPerson_58 : decode cX2_addPerson 58 = .ok (.getfield 30, 3) := by decide +kernel
theorem dX2_addPerson_61 : decode cX2_addPerson 61 = .ok (.ishl, 1) := by decide +kernel
theorem dX2_addPerson_62 : decode cX2_addPerson 62 = .ok (.iconst (-1), 1) := by decide +kernel
theorem dX2_addPerson_63 : decode cX2_addPerson 63 = .ok (.ixor, 1) := by decide +kernel
theorem dX2_addPerson_64 : decode cX2_addPerson 64 = .ok (.iand, 1) := by decide +kernel
theorem dX2_addPerson_65 : decode cX2_addPerson 65 = .ok (.putfield 37, 3) := by decide +kernel
theorem dX2_addPerson_68 : decode cX2_addPerson 68 = .ok (.aload_n 0, 1) := by decide +kernel
theorem dX2_addPerson_69 : decode cX2_addPerson 69 = .ok (.dup, 1) := by decide +kernel
theorem dX2_addPerson_70 : decode cX2_addPerson 70 = .ok (.getfield 30, 3) := by decide +kernel
theorem dX2_addPerson_73 : decode cX2_addPerson 73 = .ok (.iconst 1, 1) := by decide +kernel
theorem dX2_addPerson_74 : decode cX2_addPerson 74 = .ok (.iadd, 1) := by decide +kernel
theorem dX2_addPerson_75 : decode cX2_addPerson 75 = .ok (.putfield 30, 3) := by decide +kernel
theorem dX2_addPerson_78 : decode cX2_addPerson 78 = .ok (.iconst 1, 1) := by decide +kernel
theorem dX2_addPerson_79 : decode cX2_addPerson 79 = .ok (.ireturn, 1) := by decide +kernel
theorem dX2_addDead_0 : decode cX2_addDead 0 = .ok (.iload_n 1, 1) := by decide +kernel
theorem dX2_addDead_1 : decode cX2_addDead 1 = .ok (.ifCond .lt 33, 3) := by decide +kernel
theorem dX2_addDead_4 : decode cX2_addDead 4 = .ok (.iload_n 1, 1) := by decide +kernel
theorem dX2_addDead_5 : decode cX2_addDead 5 = .ok (.bipush 6, 2) := by decide +kernel
theorem dX2_addDead_7 : decode cX2_addDead 7 = .ok (.if_icmp .ge 27, 3) := by decide +kernel
theorem dX2_addDead_10 : decode cX2_addDead 10 = .ok (.iload_n 2, 1) := by decide +kernel
theorem dX2_addDead_11 : decode cX2_addDead 11 = .ok (.ifCond .lt 23, 3) := by decide +kernel
theorem dX2_addDead_14 : decode cX2_addDead 14 = .ok (.iload_n 2, 1) := by decide +kernel
theorem dX2_addDead_15 : decode cX2_addDead 15 = .ok (.bipush 10, 2) := by decide +kernel
theorem dX2_addDead_17 : decode cX2_addDead 17 = .ok (.if_icmp .ge 17, 3) := by decide +kernel
theorem dX2_addDead_20 : decode cX2_addDead 20 = .ok (.iload_n 3, 1) := by decide +kernel
theorem dX2_addDead_21 : decode cX2_addDead 21 = .ok (.ifCond .lt 13, 3) := by decide +kernel
theorem dX2_addDead_24 : decode cX2_addDead 24 = .ok (.iload_n 3, 1) := by decide +kernel
theorem dX2_addDead_25 : decode cX2_addDead 25 = .ok (.bipush 10, 2) := by decide +kernel
theorem dX2_addDead_27 : decode cX2_addDead 27 = .ok (.if_icmp .ge 7, 3) := by decide +kernel
theorem dX2_addDead_30 : decode cX2_addDead 30 = .ok (.iconst 1, 1) := by decide +kernel
theorem dX2_addDead_31 : decode cX2_addDead 31 = .ok (.goto 4, 3) := by decide +kernel
theorem dX2_addDead_34 : decode cX2_addDead 34 = .ok (.iconst 0, 1) := by decide +kernel
theorem dX2_addDead_35 : decode cX2_addDead 35 = .ok (.istore 4, 2) := by decide +kernel
theorem dX2_addDead_37 : decode cX2_addDead 37 = .ok (.iload 4, 2) := by decide +kernel
theorem dX2_addDead_39 : decode cX2_addDead 39 = .ok (.ifCond .eq 12, 3) := by decide +kernel
theorem dX2_addDead_42 : decode cX2_addDead 42 = .ok (.aload_n 0, 1) := by decide +kernel
theorem dX2_addDead_43 : decode cX2_addDead 43 = .ok (.getfield 34, 3) := by decide +kernel
theorem dX2_addDead_46 : decode cX2_addDead 46 = .ok (.bipush 6, 2) := by decide +kernel
theorem dX2_addDead_48 : decode cX2_addDead 48 = .ok (.if_icmp .lt 5, 3) := by decide +kernel
theorem dX2_addDead_51 : decode cX2_addDead 51 = .ok (.iconst 0, 1) := by decide +kernel
theorem dX2_addDead_52 : decode cX2_addDead 52 = .ok (.ireturn, 1) := by decide +kernel
theorem dX2_addDead_53 : decode cX2_addDead 53 = .ok (.aload_n 0, 1) := by decide +kernel
theorem dX2_addDead_54 : decode cX2_addDead 54 = .ok (.getfield 21, 3) := by decide +kernel
theorem dX2_addDead_57 : decode cX2_addDead 57 = .ok (.aload_n 0, 1) := by decide +kernel
theorem dX2_addDead_58 : decode cX2_addDead 58 = .ok (.getfield 34, 3) := by decide +kernel
theorem dX2_addDead_61 : decode cX2_addDead 61 = .ok (.iload_n 1, 1) := by decide +kernel
theorem dX2_addDead_62 : decode cX2_addDead 62 = .ok (.iastore, 1) := by decide +kernel
theorem dX2_addDead_63 : decode cX2_addDead 63 = .ok (.aload_n 0, 1) := by decide +kernel
theorem dX2_addDead_64 : decode cX2_addDead 64 = .ok (.getfield 24, 3) := by decide +kernel
theorem dX2_addDead_67 : decode cX2_addDead 67 = .ok (.aload_n 0, 1) := by decide +kernel
theorem dX2_addDead_68 : decode cX2_addDead 68 = .ok (.getfield 34, 3) := by decide +kernel
theorem dX2_addDead_71 : decode cX2_addDead 71 = .ok (.iload_n 2, 1) := by decide +kernel
theorem dX2_addDead_72 : decode cX2_addDead 72 = .ok (.iastore, 1) := by decide +kernel
theorem dX2_addDead_73 : decode cX2_addDead 73 = .ok (.aload_n 0, 1) := by decide +kernel
theorem dX2_addDead_74 : decode cX2_addDead 74 = .ok (.getfield 27, 3) := by decide +kernel
theorem dX2_addDead_77 : decode cX2_addDead 77 = .ok (.aload_n 0, 1) := by decide +kernel
theorem dX2_addDead_78 : decode cX2_addDead 78 = .ok (.getfield 34, 3) := by decide +kernel
theorem dX2_addDead_81 : decode cX2_addDead 81 = .ok (.iload_n 3, 1) := by decide +kernel
theorem dX2_addDead_82 : decode cX2_addDead 82 = .ok (.iastore, 1) := by decide +kernel
theorem dX2_addDead_83 : decode cX2_addDead 83 = .ok (.aload_n 0, 1) := by decide +kernel
theorem dX2_addDead_84 : decode cX2_addDead 84 = .ok (.dup, 1) := by decide +kernel
theorem dX2_addDead_85 : decode cX2_addDead 85 = .ok (.getfield 34, 3) := by decide +kernel
theorem dX2_addDead_88 : decode cX2_addDead 88 = .ok (.iconst 1, 1) := by decide +kernel
theorem dX2_addDead_89 : decode cX2_addDead 89 = .ok (.iadd, 1) := by decide +kernel
theorem dX2_addDead_90 : decode cX2_addDead 90 = .ok (.putfield 34, 3) := by decide +kernel
theorem dX2_addDead_93 : decode cX2_addDead 93 = .ok (.iconst 1, 1) := by decide +kernel
theorem dX2_addDead_94 : decode cX2_addDead 94 = .ok (.ireturn, 1) := by decide +kernel
theorem dX2_openFrom_0 : decode cX2_openFrom 0 = .ok (.iload_n 1, 1) := by decide +kernel
theorem dX2_openFrom_1 : decode cX2_openFrom 1 = .ok (.ifCond .lt 26, 3) := by decide +kernel
theorem dX2_openFrom_4 : decode cX2_openFrom 4 = .ok (.iload_n 1, 1) := by decide +kernel
theorem dX2_openFrom_5 : decode cX2_openFrom 5 = .ok (.aload_n 0, 1) := by decide +kernel
theorem dX2_openFrom_6 : decode cX2_openFrom 6 = .ok (.getfield 30, 3) := by decide +kernel
theorem dX2_openFrom_9 : decode cX2_openFrom 9 = .ok (.if_icmp .ge 18, 3) := by decide +kernel
theorem dX2_openFrom_12 : decode cX2_openFrom 12 = .ok (.iload_n 2, 1) := by decide +kernel
theorem dX2_openFrom_13 : decode cX2_openFrom 13 = .ok (.ifCond .lt 14, 3) := by decide +kernel
theorem dX2_openFrom_16 : decode cX2_openFrom 16 = .ok (.iload_n 2, 1) := by decide +kernel
theorem dX2_openFrom_17 : decode cX2_openFrom 17 = .ok (.iload_n 3, 1) := by decide +kernel
theorem dX2_openFrom_18 : decode cX2_openFrom 18 = .ok (.if_icmp .gt 9, 3) := by decide +kernel
theorem dX2_openFrom_21 : decode cX2_openFrom 21 = .ok (.iload_n 3, 1) := by decide +kernel
theorem dX2_openFrom_22 : decode cX2_openFrom 22 = .ok (.bipush 24, 2) := by decide +kernel
theorem dX2_openFrom_24 : decode cX2_openFrom 24 = .ok (.if_icmp .lt 5, 3) := by decide +kernel
theorem dX2_openFrom_27 : decode cX2_openFrom 27 = .ok (.iconst 0, 1) := by decide +kernel
theorem dX2_openFrom_28 : decode cX2_openFrom 28 = .ok (.ireturn, 1) := by decide +kernel
theorem dX2_openFrom_29 : decode cX2_openFrom 29 = .ok (.iload_n 2, 1) := by decide +kernel
theorem dX2_openFrom_30 : decode cX2_openFrom 30 = .ok (.iload_n 3, 1) := by decide +kernel
theorem dX2_openFrom_31 : decode cX2_openFrom 31 = .ok (.invokestatic 49, 3) := by decide +kernel
theorem dX2_openFrom_34 : decode cX2_openFrom 34 = .ok (.istore 5, 2) := by decide +kernel
theorem dX2_openFrom_36 : decode cX2_openFrom 36 = .ok (.aload_n 0, 1) := by decide +kernel
theorem dX2_openFrom_37 : decode cX2_openFrom 37 = .ok (.getfield 15, 3) := by decide +kernel
theorem dX2_openFrom_40 : decode cX2_openFrom 40 = .ok (.iload_n 1, 1) := by decide +kernel
theorem dX2_openFrom_41 : decode cX2_openFrom 41 = .ok (.iload 4, 2) := by decide +kernel
theorem dX2_openFrom_43 : decode cX2_openFrom 43 = .ok (.ifCond .eq 15, 3) := by decide +kernel
theorem dX2_openFrom_46 : decode cX2_openFrom 46 = .ok (.aload_n 0, 1) := by decide +kernel
theorem dX2_openFrom_47 : decode cX2_openFrom 47 = .ok (.getfield 15, 3) := by decide +kernel
theorem dX2_openFrom_50 : decode cX2_openFrom 50 = .ok (.iload_n 1, 1) := by decide +kernel
theorem dX2_openFrom_51 : decode cX2_openFrom 51 = .ok (.iaload, 1) := by decide +kernel
theorem dX2_openFrom_52 : decode cX2_openFrom 52 = .ok (.iload 5, 2) := by decide +kernel
theorem dX2_openFrom_54 : decode cX2_openFrom 54 = .ok (.ior, 1) := by decide +kernel
theorem dX2_openFrom_55 : decode cX2_openFrom 55 = .ok (.goto 14, 3) := by decide +kernel
theorem dX2_openFrom_58 : decode cX2_openFrom 58 = .ok (.aload_n 0, 1) := by decide +kernel
theorem dX2_openFrom_59 : decode cX2_openFrom 59 = .ok (.getfield 15, 3) := by decide +kernel
theorem dX2_openFrom_62 : decode cX2_openFrom 62 = .ok (.iload_n 1, 1) := by decide +kernel
theorem dX2_openFrom_63 : decode cX2_openFrom 63 = .ok (.iaload, 1) := by decide +kernel
theorem dX2_openFrom_64 : decode cX2_openFrom 64 = .ok (.iload 5, 2) := by decide +kernel
theorem dX2_openFrom_66 : decode cX2_openFrom 66 = .ok (.iconst (-1), 1) := by decide +kernel
theorem dX2_openFrom_67 : decode cX2_openFrom 67 = .ok (.ixor, 1) := by decide +kernel
theorem dX2_openFrom_68 : decode cX2_openFrom 68 = .ok (.iand, 1) := by decide +kernel
theorem dX2_openFrom_69 : decode cX2_openFrom 69 = .ok (.iastore, 1) := by decide +kernel
theorem dX2_openFrom_70 : decode cX2_openFrom 70 = .ok (.iconst 1, 1) := by decide +kernel
theorem dX2_openFrom_71 : decode cX2_openFrom 71 = .ok (.ireturn, 1) := by decide +kernel
theorem dX2_turnOpen_0 : decode cX2_turnOpen 0 = .ok (.iload_n 1, 1) := by decide +kernel
theorem dX2_turnOpen_1 : decode cX2_turnOpen 1 = .ok (.ifCond .lt 23, 3) := by decide +kernel
theorem dX2_turnOpen_4 : decode cX2_turnOpen 4 = .ok (.iload_n 1, 1) := by decide +kernel
theorem dX2_turnOpen_5 : decode cX2_turnOpen 5 = .ok (.aload_n 0, 1) := by decide +kernel
theorem dX2_turnOpen_6 : decode cX2_turnOpen 6 = .ok (.getfield 30, 3) := by decide +kernel
theorem dX2_turnOpen_9 : decode cX2_turnOpen 9 = .ok (.if_icmp .ge 15, 3) := by decide +kernel
theorem dX2_turnOpen_12 : decode cX2_turnOpen 12 = .ok (.aload_n 0, 1) := by decide +kernel
theorem dX2_turnOpen_13 : decode cX2_turnOpen 13 = .ok (.getfield 15, 3) := by decide +kernel
theorem dX2_turnOpen_16 : decode cX2_turnOpen 16 = .ok (.iload_n 1, 1) := by decide +kernel
theorem dX2_turnOpen_17 : decode cX2_turnOpen 17 = .ok (.dup2, 1) := by decide +kernel
theorem dX2_turnOpen_18 : decode cX2_turnOpen 18 = .ok (.iaload, 1) := by decide +kernel
theorem dX2_turnOpen_19 : decode cX2_turnOpen 19 = .ok (.iconst 1, 1) := by decide +kernel
theorem dX2_turnOpen_20 : decode cX2_turnOpen 20 = .ok (.iload_n 2, 1) := by decide +kernel
theorem dX2_turnOpen_21 : decode cX2_turnOpen 21 = .ok (.ishl, 1) := by decide +kernel
theorem dX2_turnOpen_22 : decode cX2_turnOpen 22 = .ok (.ixor, 1) := by decide +kernel
theorem dX2_turnOpen_23 : decode cX2_turnOpen 23 = .ok (.iastore, 1) := by decide +kernel
theorem dX2_turnOpen_24 : decode cX2_turnOpen 24 = .ok (.return_, 1) := by decide +kernel
theorem dX2_turnShut_0 : decode cX2_turnShut 0 = .ok (.iload_n 1, 1) := by decide +kernel
theorem dX2_turnShut_1 : decode cX2_turnShut 1 = .ok (.ifCond .lt 11, 3) := by decide +kernel
theorem dX2_turnShut_4 : decode cX2_turnShut 4 = .ok (.iload_n 1, 1) := by decide +kernel
theorem dX2_turnShut_5 : decode cX2_turnShut 5 = .ok (.aload_n 0, 1) := by decide +kernel
theorem dX2_turnShut_6 : decode cX2_turnShut 6 = .ok (.getfield 30, 3) := by decide +kernel
theorem dX2_turnShut_9 : decode cX2_turnShut 9 = .ok (.if_icmp .lt 5, 3) := by decide +kernel
theorem dX2_turnShut_12 : decode cX2_turnShut 12 = .ok (.iconst 0, 1) := by decide +kernel
theorem dX2_turnShut_13 : decode cX2_turnShut 13 = .ok (.ireturn, 1) := by decide +kernel
theorem dX2_turnShut_14 : decode cX2_turnShut 14 = .ok (.aload_n 0, 1) := by decide +kernel
theorem dX2_turnShut_15 : decode cX2_turnShut 15 = .ok (.dup, 1) := by decide +kernel
theorem dX2_turnShut_16 : decode cX2_turnShut 16 = .ok (.getfield 37, 3) := by decide +kernel
theorem dX2_turnShut_19 : decode cX2_turnShut 19 = .ok (.iconst 1, 1) := by decide +kernel
theorem dX2_turnShut_20 : decode cX2_turnShut 20 = .ok (.iload_n 1, 1) := by decide +kernel
theorem dX2_turnShut_21 : decode cX2_turnShut 21 = .ok (.ishl, 1) := by decide +kernel
theorem dX2_turnShut_22 : decode cX2_turnShut 22 = .ok (.ixor, 1) := by decide +kernel
theorem dX2_turnShut_23 : decode cX2_turnShut 23 = .ok (.putfield 37, 3) := by decide +kernel
theorem dX2_turnShut_26 : decode cX2_turnShut 26 = .ok (.iconst 1, 1) := by decide +kernel
theorem dX2_turnShut_27 : decode cX2_turnShut 27 = .ok (.ireturn, 1) := by decide +kernel
theorem dX2_turnKin_0 : decode cX2_turnKin 0 = .ok (.iload_n 1, 1) := by decide +kernel
theorem dX2_turnKin_1 : decode cX2_turnKin 1 = .ok (.ifCond .lt 23, 3) := by decide +kernel
theorem dX2_turnKin_4 : decode cX2_turnKin 4 = .ok (.iload_n 1, 1) := by decide +kernel
theorem dX2_turnKin_5 : decode cX2_turnKin 5 = .ok (.aload_n 0, 1) := by decide +kernel
theorem dX2_turnKin_6 : decode cX2_turnKin 6 = .ok (.getfield 30, 3) := by decide +kernel
theorem dX2_turnKin_9 : decode cX2_turnKin 9 = .ok (.if_icmp .ge 15, 3) := by decide +kernel
theorem dX2_turnKin_12 : decode cX2_turnKin 12 = .ok (.aload_n 0, 1) := by decide +kernel
theorem dX2_turnKin_13 : decode cX2_turnKin 13 = .ok (.getfield 9, 3) := by decide +kernel
theorem dX2_turnKin_16 : decode cX2_turnKin 16 = .ok (.iload_n 1, 1) := by decide +kernel
theorem dX2_turnKin_17 : decode cX2_turnKin 17 = .ok (.dup2, 1) := by decide +kernel
theorem dX2_turnKin_18 : decode cX2_turnKin 18 = .ok (.iaload, 1) := by decide +kernel
theorem dX2_turnKin_19 : decode cX2_turnKin 19 = .ok (.iconst 1, 1) := by decide +kernel
theorem dX2_turnKin_20 : decode cX2_turnKin 20 = .ok (.iload_n 2, 1) := by decide +kernel
theorem dX2_turnKin_21 : decode cX2_turnKin 21 = .ok (.ishl, 1) := by decide +kernel
theorem dX2_turnKin_22 : decode cX2_turnKin 22 = .ok (.ixor, 1) := by decide +kernel
theorem dX2_turnKin_23 : decode cX2_turnKin 23 = .ok (.iastore, 1) := by decide +kernel
theorem dX2_turnKin_24 : decode cX2_turnKin 24 = .ok (.return_, 1) := by decide +kernel
theorem dX2_teach_0 : decode cX2_teach 0 = .ok (.iload_n 1, 1) := by decide +kernel
theorem dX2_teach_1 : decode cX2_teach 1 = .ok (.ifCond .lt 11, 3) := by decide +kernel
theorem dX2_teach_4 : decode cX2_teach 4 = .ok (.iload_n 1, 1) := by decide +kernel
theorem dX2_teach_5 : decode cX2_teach 5 = .ok (.aload_n 0, 1) := by decide +kernel
theorem dX2_teach_6 : decode cX2_teach 6 = .ok (.getfield 30, 3) := by decide +kernel
theorem dX2_teach_9 : decode cX2_teach 9 = .ok (.if_icmp .lt 5, 3) := by decide +kernel
theorem dX2_teach_12 : decode cX2_teach 12 = .ok (.iconst 0, 1) := by decide +kernel
theorem dX2_teach_13 : decode cX2_teach 13 = .ok (.ireturn, 1) := by decide +kernel
theorem dX2_teach_14 : decode cX2_teach 14 = .ok (.aload_n 0, 1) := by decide +kernel
theorem dX2_teach_15 : decode cX2_teach 15 = .ok (.getfield 18, 3) := by decide +kernel
theorem dX2_teach_18 : decode cX2_teach 18 = .ok (.iload_n 1, 1) := by decide +kernel
theorem dX2_teach_19 : decode cX2_teach 19 = .ok (.dup2, 1) := by decide +kernel
theorem dX2_teach_20 : decode cX2_teach 20 = .ok (.iaload, 1) := by decide +kernel
theorem dX2_teach_21 : decode cX2_teach 21 = .ok (.iconst 1, 1) := by decide +kernel
theorem dX2_teach_22 : decode cX2_teach 22 = .ok (.iload_n 2, 1) := by decide +kernel
theorem dX2_teach_23 : decode cX2_teach 23 = .ok (.ishl, 1) := by decide +kernel
theorem dX2_teach_24 : decode cX2_teach 24 = .ok (.ior, 1) := by decide +kernel
theorem dX2_teach_25 : decode cX2_teach 25 = .ok (.iastore, 1) := by decide +kernel
theorem dX2_teach_26 : decode cX2_teach 26 = .ok (.iconst 1, 1) := by decide +kernel
theorem dX2_teach_27 : decode cX2_teach 27 = .ok (.ireturn, 1) := by decide +kernel
theorem dX2_isOpen_0 : decode cX2_isOpen 0 = .ok (.iload_n 1, 1) := by decide +kernel
theorem dX2_isOpen_1 : decode cX2_isOpen 1 = .ok (.ifCond .lt 28, 3) := by decide +kernel
theorem dX2_isOpen_4 : decode cX2_isOpen 4 = .ok (.iload_n 1, 1) := by decide +kernel
theorem dX2_isOpen_5 : decode cX2_isOpen 5 = .ok (.aload_n 0, 1) := by decide +kernel
theorem dX2_isOpen_6 : decode cX2_isOpen 6 = .ok (.getfield 30, 3) := by decide +kernel
theorem dX2_isOpen_9 : decode cX2_isOpen 9 = .ok (.if_icmp .ge 20, 3) := by decide +kernel
theorem dX2_isOpen_12 : decode cX2_isOpen 12 = .ok (.aload_n 0, 1) := by decide +kernel
theorem dX2_isOpen_13 : decode cX2_isOpen 13 = .ok (.getfield 15, 3) := by decide +kernel
theorem dX2_isOpen_16 : decode cX2_isOpen 16 = .ok (.iload_n 1, 1) := by decide +kernel
theorem dX2_isOpen_17 : decode cX2_isOpen 17 = .ok (.iaload, 1) := by decide +kernel
theorem dX2_isOpen_18 : decode cX2_isOpen 18 = .ok (.iload_n 2, 1) := by decide +kernel
theorem dX2_isOpen_19 : decode cX2_isOpen 19 = .ok (.ishr, 1) := by decide +kernel
theorem dX2_isOpen_20 : decode cX2_isOpen 20 = .ok (.iconst 1, 1) := by decide +kernel
theorem dX2_isOpen_21 : decode cX2_isOpen 21 = .ok (.iand, 1) := by decide +kernel
theorem dX2_isOpen_22 : decode cX2_isOpen 22 = .ok (.ifCond .eq 7, 3) := by decide +kernel
theorem dX2_isOpen_25 : decode cX2_isOpen 25 = .ok (.iconst 1, 1) := by decide +kernel
theorem dX2_isOpen_26 : decode cX2_isOpen 26 = .ok (.goto 4, 3) := by decide +kernel
theorem dX2_isOpen_29 : decode cX2_isOpen 29 = .ok (.iconst 0, 1) := by decide +kernel
theorem dX2_isOpen_30 : decode cX2_isOpen 30 = .ok (.ireturn, 1) := by decide +kernel
theorem dX2_isShut_0 : decode cX2_isShut 0 = .ok (.aload_n 0, 1) := by decide +kernel
theorem dX2_isShut_1 : decode cX2_isShut 1 = .ok (.getfield 37, 3) := by decide +kernel
theorem dX2_isShut_4 : decode cX2_isShut 4 = .ok (.iload_n 1, 1) := by decide +kernel
theorem dX2_isShut_5 : decode cX2_isShut 5 = .ok (.ishr, 1) := by decide +kernel
theorem dX2_isShut_6 : decode cX2_isShut 6 = .ok (.iconst 1, 1) := by decide +kernel
theorem dX2_isShut_7 : decode cX2_isShut 7 = .ok (.iand, 1) := by decide +kernel
theorem dX2_isShut_8 : decode cX2_isShut 8 = .ok (.ifCond .eq 7, 3) := by decide +kernel
theorem dX2_isShut_11 : decode cX2_isShut 11 = .ok (.iconst 1, 1) := by decide +kernel
theorem dX2_isShut_12 : decode cX2_isShut 12 = .ok (.goto 4, 3) := by decide +kernel
theorem dX2_isShut_15 : decode cX2_isShut 15 = .ok (.iconst 0, 1) := by decide +kernel
theorem dX2_isShut_16 : decode cX2_isShut 16 = .ok (.ireturn, 1) := by decide +kernel
theorem dX2_isKin_0 : decode cX2_isKin 0 = .ok (.iload_n 1, 1) := by decide +kernel
theorem dX2_isKin_1 : decode cX2_isKin 1 = .ok (.ifCond .lt 28, 3) := by decide +kernel
theorem dX2_isKin_4 : decode cX2_isKin 4 = .ok (.iload_n 1, 1) := by decide +kernel
theorem dX2_isKin_5 : decode cX2_isKin 5 = .ok (.aload_n 0, 1) := by decide +kernel
theorem dX2_isKin_6 : decode cX2_isKin 6 = .ok (.getfield 30, 3) := by decide +kernel
theorem dX2_isKin_9 : decode cX2_isKin 9 = .ok (.if_icmp .ge 20, 3) := by decide +kernel
theorem dX2_isKin_12 : decode cX2_isKin 12 = .ok (.aload_n 0, 1) := by decide +kernel
theorem dX2_isKin_13 : decode cX2_isKin 13 = .ok (.getfield 9, 3) := by decide +kernel
theorem dX2_isKin_16 : decode cX2_isKin 16 = .ok (.iload_n 1, 1) := by decide +kernel
theorem dX2_isKin_17 : decode cX2_isKin 17 = .ok (.iaload, 1) := by decide +kernel
theorem dX2_isKin_18 : decode cX2_isKin 18 = .ok (.iload_n 2, 1) := by decide +kernel
theorem dX2_isKin_19 : decode cX2_isKin 19 = .ok (.ishr, 1) := by decide +kernel
theorem dX2_isKin_20 : decode cX2_isKin 20 = .ok (.iconst 1, 1) := by decide +kernel
theorem dX2_isKin_21 : decode cX2_isKin 21 = .ok (.iand, 1) := by decide +kernel
theorem dX2_isKin_22 : decode cX2_isKin 22 = .ok (.ifCond .eq 7, 3) := by decide +kernel
theorem dX2_isKin_25 : decode cX2_isKin 25 = .ok (.iconst 1, 1) := by decide +kernel
theorem dX2_isKin_26 : decode cX2_isKin 26 = .ok (.goto 4, 3) := by decide +kernel
theorem dX2_isKin_29 : decode cX2_isKin 29 = .ok (.iconst 0, 1) := by decide +kernel
theorem dX2_isKin_30 : decode cX2_isKin 30 = .ok (.ireturn, 1) := by decide +kernel
theorem dX2_isKnown_0 : decode cX2_isKnown 0 = .ok (.iload_n 1, 1) := by decide +kernel
theorem dX2_isKnown_1 : decode cX2_isKnown 1 = .ok (.ifCond .lt 28, 3) := by decide +kernel
theorem dX2_isKnown_4 : decode cX2_isKnown 4 = .ok (.iload_n 1, 1) := by decide +kernel
theorem dX2_isKnown_5 : decode cX2_isKnown 5 = .ok (.aload_n 0, 1) := by decide +kernel
theorem dX2_isKnown_6 : decode cX2_isKnown 6 = .ok (.getfield 30, 3) := by decide +kernel
theorem dX2_isKnown_9 : decode cX2_isKnown 9 = .ok (.if_icmp .ge 20, 3) := by decide +kernel
theorem dX2_isKnown_12 : decode cX2_isKnown 12 = .ok (.aload_n 0, 1) := by decide +kernel
theorem dX2_isKnown_13 : decode cX2_isKnown 13 = .ok (.getfield 18, 3) := by decide +kernel
theorem dX2_isKnown_16 : decode cX2_isKnown 16 = .ok (.iload_n 1, 1) := by decide +kernel
theorem dX2_isKnown_17 : decode cX2_isKnown 17 = .ok (.iaload, 1) := by decide +kernel
theorem dX2_isKnown_18 : decode cX2_isKnown 18 = .ok (.iload_n 2, 1) := by decide +kernel
theorem dX2_isKnown_19 : decode cX2_isKnown 19 = .ok (.ishr, 1) := by decide +kernel
theorem dX2_isKnown_20 : decode cX2_isKnown 20 = .ok (.iconst 1, 1) := by decide +kernel
theorem dX2_isKnown_21 : decode cX2_isKnown 21 = .ok (.iand, 1) := by decide +kernel
theorem dX2_isKnown_22 : decode cX2_isKnown 22 = .ok (.ifCond .eq 7, 3) := by decide +kernel
theorem dX2_isKnown_25 : decode cX2_isKnown 25 = .ok (.iconst 1, 1) := by decide +kernel
theorem dX2_isKnown_26 : decode cX2_isKnown 26 = .ok (.goto 4, 3) := by decide +kernel
theorem dX2_isKnown_29 : decode cX2_isKnown 29 = .ok (.iconst 0, 1) := by decide +kernel
theorem dX2_isKnown_30 : decode cX2_isKnown 30 = .ok (.ireturn, 1) := by decide +kernel
theorem dX2_knownInAll_0 : decode cX2_knownInAll 0 = .ok (.iconst 0, 1) := by decide +kernel
theorem dX2_knownInAll_1 : decode cX2_knownInAll 1 = .ok (.istore_n 1, 1) := by decide +kernel
theorem dX2_knownInAll_2 : decode cX2_knownInAll 2 = .ok (.iconst 0, 1) := by decide +kernel
theorem dX2_knownInAll_3 : decode cX2_knownInAll 3 = .ok (.istore_n 2, 1) := by decide +kernel
theorem dX2_knownInAll_4 : decode cX2_knownInAll 4 = .ok (.iload_n 2, 1) := by decide +kernel
theorem dX2_knownInAll_5 : decode cX2_knownInAll 5 = .ok (.aload_n 0, 1) := by decide +kernel
theorem dX2_knownInAll_6 : decode cX2_knownInAll 6 = .ok (.getfield 30, 3) := by decide +kernel
theorem dX2_knownInAll_9 : decode cX2_knownInAll 9 = .ok (.if_icmp .ge 21, 3) := by decide +kernel
theorem dX2_knownInAll_12 : decode cX2_knownInAll 12 = .ok (.iload_n 1, 1) := by decide +kernel
theorem dX2_knownInAll_13 : decode cX2_knownInAll 13 = .ok (.aload_n 0, 1) := by decide +kernel
theorem dX2_knownInAll_14 : decode cX2_knownInAll 14 = .ok (.getfield 18, 3) := by decide +kernel
theorem dX2_knownInAll_17 : decode cX2_knownInAll 17 = .ok (.iload_n 2, 1) := by decide +kernel
theorem dX2_knownInAll_18 : decode cX2_knownInAll 18 = .ok (.iaload, 1) := by decide +kernel
theorem dX2_knownInAll_19 : decode cX2_knownInAll 19 = .ok (.invokestatic 53, 3) := by decide +kernel
theorem dX2_knownInAll_22 : decode cX2_knownInAll 22 = .ok (.iadd, 1) := by decide +kernel
theorem dX2_knownInAll_23 : decode cX2_knownInAll 23 = .ok (.istore_n 1, 1) := by decide +kernel
theorem dX2_knownInAll_24 : decode cX2_knownInAll 24 = .ok (.iinc 2 1, 3) := by decide +kernel
theorem dX2_knownInAll_27 : decode cX2_knownInAll 27 = .ok (.goto (-23), 3) := by decide +kernel
theorem dX2_knownInAll_30 : decode cX2_knownInAll 30 = .ok (.iload_n 1, 1) := by decide +kernel
theorem dX2_knownInAll_31 : decode cX2_knownInAll 31 = .ok (.ireturn, 1) := by decide +kernel
theorem dX2_openInAll_0 : decode cX2_openInAll 0 = .ok (.iconst 0, 1) := by decide +kernel
theorem dX2_openInAll_1 : decode cX2_openInAll 1 = .ok (.istore_n 1, 1) := by decide +kernel
theorem dX2_openInAll_2 : decode cX2_openInAll 2 = .ok (.iconst 0, 1) := by decide +kernel
theorem dX2_openInAll_3 : decode cX2_openInAll 3 = .ok (.istore_n 2, 1) := by decide +kernel
theorem dX2_openInAll_4 : decode cX2_openInAll 4 = .ok (.iload_n 2, 1) := by decide +kernel
theorem dX2_openInAll_5 : decode cX2_openInAll 5 = .ok (.aload_n 0, 1) := by decide +kernel
theorem dX2_openInAll_6 : decode cX2_openInAll 6 = .ok (.getfield 30, 3) := by decide +kernel
theorem dX2_openInAll_9 : decode cX2_openInAll 9 = .ok (.if_icmp .ge 21, 3) := by decide +kernel
theorem dX2_openInAll_12 : decode cX2_openInAll 12 = .ok (.iload_n 1, 1) := by decide +kernel
theorem dX2_openInAll_13 : decode cX2_openInAll 13 = .ok (.aload_n 0, 1) := by decide +kernel
theorem dX2_openInAll_14 : decode cX2_openInAll 14 = .ok (.getfield 15, 3) := by decide +kernel
theorem dX2_openInAll_17 : decode cX2_openInAll 17 = .ok (.iload_n 2, 1) := by decide +kernel
theorem dX2_openInAll_18 : decode cX2_openInAll 18 = .ok (.iaload, 1) := by decide +kernel
theorem dX2_openInAll_19 : decode cX2_openInAll 19 = .ok (.invokestatic 53, 3) := by decide +kernel
theorem dX2_openInAll_22 : decode cX2_openInAll 22 = .ok (.iadd, 1) := by decide +kernel
theorem dX2_openInAll_23 : decode cX2_openInAll 23 = .ok (.istore_n 1, 1) := by decide +kernel
theorem dX2_openInAll_24 : decode cX2_openInAll 24 = .ok (.iinc 2 1, 3) := by decide +kernel
theorem dX2_openInAll_27 : decode cX2_openInAll 27 = .ok (.goto (-23), 3) := by decide +kernel
theorem dX2_openInAll_30 : decode cX2_openInAll 30 = .ok (.iload_n 1, 1) := by decide +kernel
theorem dX2_openInAll_31 : decode cX2_openInAll 31 = .ok (.ireturn, 1) := by decide +kernel
theorem dX2_ofKind_0 : decode cX2_ofKind 0 = .ok (.iconst 0, 1) := by decide +kernel
theorem dX2_ofKind_1 : decode cX2_ofKind 1 = .ok (.istore_n 2, 1) := by decide +kernel
theorem dX2_ofKind_2 : decode cX2_ofKind 2 = .ok (.iconst 0, 1) := by decide +kernel
theorem dX2_ofKind_3 : decode cX2_ofKind 3 = .ok (.istore_n 3, 1) := by decide +kernel
theorem dX2_ofKind_4 : decode cX2_ofKind 4 = .ok (.iload_n 3, 1) := by decide +kernel
theorem dX2_ofKind_5 : decode cX2_ofKind 5 = .ok (.aload_n 0, 1) := by decide +kernel
theorem dX2_ofKind_6 : decode cX2_ofKind 6 = .ok (.getfield 34, 3) := by decide +kernel
theorem dX2_ofKind_9 : decode cX2_ofKind 9 = .ok (.if_icmp .ge 25, 3) := by decide +kernel
theorem dX2_ofKind_12 : decode cX2_ofKind 12 = .ok (.aload_n 0, 1) := by decide +kernel
theorem dX2_ofKind_13 : decode cX2_ofKind 13 = .ok (.getfield 21, 3) := by decide +kernel
theorem dX2_ofKind_16 : decode cX2_ofKind 16 = .ok (.iload_n 3, 1) := by decide +kernel
theorem dX2_ofKind_17 : decode cX2_ofKind 17 = .ok (.iaload, 1) := by decide +kernel
theorem dX2_ofKind_18 : decode cX2_ofKind 18 = .ok (.iload_n 1, 1) := by decide +kernel
theorem dX2_ofKind_19 : decode cX2_ofKind 19 = .ok (.if_icmp .ne 9, 3) := by decide +kernel
theorem dX2_ofKind_22 : decode cX2_ofKind 22 = .ok (.iload_n 2, 1) := by decide +kernel
theorem dX2_ofKind_23 : decode cX2_ofKind 23 = .ok (.iconst 1, 1) := by decide +kernel
theorem dX2_ofKind_24 : decode cX2_ofKind 24 = .ok (.iload_n 3, 1) := by decide +kernel
theorem dX2_ofKind_25 : decode cX2_ofKind 25 = .ok (.ishl, 1) := by decide +kernel
theorem dX2_ofKind_26 : decode cX2_ofKind 26 = .ok (.ior, 1) := by decide +kernel
theorem dX2_ofKind_27 : decode cX2_ofKind 27 = .ok (.istore_n 2, 1) := by decide +kernel
theorem dX2_ofKind_28 : decode cX2_ofKind 28 = .ok (.iinc 3 1, 3) := by decide +kernel
theorem dX2_ofKind_31 : decode cX2_ofKind 31 = .ok (.goto (-27), 3) := by decide +kernel
theorem dX2_ofKind_34 : decode cX2_ofKind 34 = .ok (.iload_n 2, 1) := by decide +kernel
theorem dX2_ofKind_35 : decode cX2_ofKind 35 = .ok (.ireturn, 1) := by decide +kernel
theorem dX2_changeSeats_0 : decode cX2_changeSeats 0 = .ok (.iload_n 1, 1) := by decide +kernel
theorem dX2_changeSeats_1 : decode cX2_changeSeats 1 = .ok (.ifCond .lt 23, 3) := by decide +kernel
theorem dX2_changeSeats_4 : decode cX2_changeSeats 4 = .ok (.iload_n 1, 1) := by decide +kernel
theorem dX2_changeSeats_5 : decode cX2_changeSeats 5 = .ok (.aload_n 0, 1) := by decide +kernel
theorem dX2_changeSeats_6 : decode cX2_changeSeats 6 = .ok (.getfield 30, 3) := by decide +kernel
theorem dX2_changeSeats_9 : decode cX2_changeSeats 9 = .ok (.if_icmp .ge 15, 3) := by decide +kernel
theorem dX2_changeSeats_12 : decode cX2_changeSeats 12 = .ok (.iload_n 2, 1) := by decide +kernel
theorem dX2_changeSeats_13 : decode cX2_changeSeats 13 = .ok (.ifCond .lt 11, 3) := by decide +kernel
theorem dX2_changeSeats_16 : decode cX2_changeSeats 16 = .ok (.iload_n 2, 1) := by decide +kernel
theorem dX2_changeSeats_17 : decode cX2_changeSeats 17 = .ok (.aload_n 0, 1) := by decide +kernel
theorem dX2_changeSeats_18 : decode cX2_changeSeats 18 = .ok (.getfield 30, 3) := by decide +kernel
theorem dX2_changeSeats_21 : decode cX2_changeSeats 21 = .ok (.if_icmp .lt 4, 3) := by decide +kernel
theorem dX2_changeSeats_24 : decode cX2_changeSeats 24 = .ok (.return_, 1) := by decide +kernel
theorem dX2_changeSeats_25 : decode cX2_changeSeats 25 = .ok (.aload_n 0, 1) := by decide +kernel
theorem dX2_changeSeats_26 : decode cX2_changeSeats 26 = .ok (.getfield 9, 3) := by decide +kernel
theorem dX2_changeSeats_29 : decode cX2_changeSeats 29 = .ok (.iload_n 1, 1) := by decide +kernel
theorem dX2_changeSeats_30 : decode cX2_changeSeats 30 = .ok (.iload_n 2, 1) := by decide +kernel
theorem dX2_changeSeats_31 : decode cX2_changeSeats 31 = .ok (.invokestatic 59, 3) := by decide +kernel
theorem dX2_changeSeats_34 : decode cX2_changeSeats 34 = .ok (.aload_n 0, 1) := by decide +kernel
theorem dX2_changeSeats_35 : decode cX2_changeSeats 35 = .ok (.getfield 15, 3) := by decide +kernel
theorem dX2_changeSeats_38 : decode cX2_changeSeats 38 = .ok (.iload_n 1, 1) := by decide +kernel
theorem dX2_changeSeats_39 : decode cX2_changeSeats 39 = .ok (.iload_n 2, 1) := by decide +kernel
theorem dX2_changeSeats_40 : decode cX2_changeSeats 40 = .ok (.invokestatic 59, 3) := by decide +kernel
theorem dX2_changeSeats_43 : decode cX2_changeSeats 43 = .ok (.aload_n 0, 1) := by decide +kernel
theorem dX2_changeSeats_44 : decode cX2_changeSeats 44 = .ok (.getfield 18, 3) := by decide +kernel
theorem dX2_changeSeats_47 : decode cX2_changeSeats 47 = .ok (.iload_n 1, 1) := by decide +kernel
theorem dX2_changeSeats_48 : decode cX2_changeSeats 48 = .ok (.iload_n 2, 1) := by decide +kernel
theorem dX2_changeSeats_49 : decode cX2_changeSeats 49 = .ok (.invokestatic 59, 3) := by decide +kernel
theorem dX2_changeSeats_52 : decode cX2_changeSeats 52 = .ok (.aload_n 0, 1) := by decide +kernel
theorem dX2_changeSeats_53 : decode cX2_changeSeats 53 = .ok (.iload_n 1, 1) := by decide +kernel
theorem dX2_changeSeats_54 : decode cX2_changeSeats 54 = .ok (.invokevirtual 63, 3) := by decide +kernel
theorem dX2_changeSeats_57 : decode cX2_changeSeats 57 = .ok (.aload_n 0, 1) := by decide +kernel
theorem dX2_changeSeats_58 : decode cX2_changeSeats 58 = .ok (.iload_n 2, 1) := by decide +kernel
theorem dX2_changeSeats_59 : decode cX2_changeSeats 59 = .ok (.invokevirtual 63, 3) := by decide +kernel
theorem dX2_changeSeats_62 : decode cX2_changeSeats 62 = .ok (.if_icmp .eq 19, 3) := by decide +kernel
theorem dX2_changeSeats_65 : decode cX2_changeSeats 65 = .ok (.aload_n 0, 1) := by decide +kernel
theorem dX2_changeSeats_66 : decode cX2_changeSeats 66 = .ok (.dup, 1) := by decide +kernel
theorem dX2_changeSeats_67 : decode cX2_changeSeats 67 = .ok (.getfield 37, 3) := by decide +kernel
theorem dX2_changeSeats_70 : decode cX2_changeSeats 70 = .ok (.iconst 1, 1) := by decide +kernel
theorem dX2_changeSeats_71 : decode cX2_changeSeats 71 = .ok (.iload_n 1, 1) := by decide +kernel
theorem dX2_changeSeats_72 : decode cX2_changeSeats 72 = .ok (.ishl, 1) := by decide +kernel
theorem dX2_changeSeats_73 : decode cX2_changeSeats 73 = .ok (.iconst 1, 1) := by decide +kernel
theorem dX2_changeSeats_74 : decode cX2_changeSeats 74 = .ok (.iload_n 2, 1) := by decide +kernel
theorem dX2_changeSeats_75 : decode cX2_changeSeats 75 = .ok (.ishl, 1) := by decide +kernel
theorem dX2_changeSeats_76 : decode cX2_changeSeats 76 = .ok (.ior, 1) := by decide +kernel
theorem dX2_changeSeats_77 : decode cX2_changeSeats 77 = .ok (.ixor, 1) := by decide +kernel
theorem dX2_changeSeats_78 : decode cX2_changeSeats 78 = .ok (.putfield 37, 3) := by decide +kernel
theorem dX2_changeSeats_81 : decode cX2_changeSeats 81 = .ok (.return_, 1) := by decide +kernel
theorem dX2_swap_0 : decode cX2_swap 0 = .ok (.aload_n 0, 1) := by decide +kernel
theorem dX2_swap_1 : decode cX2_swap 1 = .ok (.iload_n 1, 1) := by decide +kernel
theorem dX2_swap_2 : decode cX2_swap 2 = .ok (.iaload, 1) := by decide +kernel
theorem dX2_swap_3 : decode cX2_swap 3 = .ok (.istore_n 3, 1) := by decide +kernel
theorem dX2_swap_4 : decode cX2_swap 4 = .ok (.aload_n 0, 1) := by decide +kernel
theorem dX2_swap_5 : decode cX2_swap 5 = .ok (.iload_n 1, 1) := by decide +kernel
theorem dX2_swap_6 : decode cX2_swap 6 = .ok (.aload_n 0, 1) := by decide +kernel
theorem dX2_swap_7 : decode cX2_swap 7 = .ok (.iload_n 2, 1) := by decide +kernel
theorem dX2_swap_8 : decode cX2_swap 8 = .ok (.iaload, 1) := by decide +kernel
theorem dX2_swap_9 : decode cX2_swap 9 = .ok (.iastore, 1) := by decide +kernel
theorem dX2_swap_10 : decode cX2_swap 10 = .ok (.aload_n 0, 1) := by decide +kernel
theorem dX2_swap_11 : decode cX2_swap 11 = .ok (.iload_n 2, 1) := by decide +kernel
theorem dX2_swap_12 : decode cX2_swap 12 = .ok (.iload_n 3, 1) := by decide +kernel
theorem dX2_swap_13 : decode cX2_swap 13 = .ok (.iastore, 1) := by decide +kernel
theorem dX2_swap_14 : decode cX2_swap 14 = .ok (.return_, 1) := by decide +kernel
theorem dX2_beside_0 : decode cX2_beside 0 = .ok (.aload_n 0, 1) := by decide +kernel
theorem dX2_beside_1 : decode cX2_beside 1 = .ok (.getfield 30, 3) := by decide +kernel
theorem dX2_beside_4 : decode cX2_beside 4 = .ok (.iconst 2, 1) := by decide +kernel
theorem dX2_beside_5 : decode cX2_beside 5 = .ok (.if_icmp .ge 5, 3) := by decide +kernel
theorem dX2_beside_8 : decode cX2_beside 8 = .ok (.iconst 0, 1) := by decide +kernel
theorem dX2_beside_9 : decode cX2_beside 9 = .ok (.ireturn, 1) := by decide +kernel
theorem dX2_beside_10 : decode cX2_beside 10 = .ok (.iload_n 1, 1) := by decide +kernel
theorem dX2_beside_11 : decode cX2_beside 11 = .ok (.iconst 1, 1) := by decide +kernel
theorem dX2_beside_12 : decode cX2_beside 12 = .ok (.ishl, 1) := by decide +kernel
theorem dX2_beside_13 : decode cX2_beside 13 = .ok (.iload_n 1, 1) := by decide +kernel
theorem dX2_beside_14 : decode cX2_beside 14 = .ok (.aload_n 0, 1) := by decide +kernel
theorem dX2_beside_15 : decode cX2_beside 15 = .ok (.getfield 30, 3) := by decide +kernel
theorem dX2_beside_18 : decode cX2_beside 18 = .ok (.iconst 1, 1) := by decide +kernel
theorem dX2_beside_19 : decode cX2_beside 19 = .ok (.isub, 1) := by decide +kernel
theorem dX2_beside_20 : decode cX2_beside 20 = .ok (.ishr, 1) := by decide +kernel
theorem dX2_beside_21 : decode cX2_beside 21 = .ok (.ior, 1) := by decide +kernel
theorem dX2_beside_22 : decode cX2_beside 22 = .ok (.istore_n 2, 1) := by decide +kernel
theorem dX2_beside_23 : decode cX2_beside 23 = .ok (.iload_n 1, 1) := by decide +kernel
theorem dX2_beside_24 : decode cX2_beside 24 = .ok (.iconst 1, 1) := by decide +kernel
theorem dX2_beside_25 : decode cX2_beside 25 = .ok (.ishr, 1) := by decide +kernel
theorem dX2_beside_26 : decode cX2_beside 26 = .ok (.iload_n 1, 1) := by decide +kernel
theorem dX2_beside_27 : decode cX2_beside 27 = .ok (.aload_n 0, 1) := by decide +kernel
theorem dX2_beside_28 : decode cX2_beside 28 = .ok (.getfield 30, 3) := by decide +kernel
theorem dX2_beside_31 : decode cX2_beside 31 = .ok (.iconst 1, 1) := by decide +kernel
theorem dX2_beside_32 : decode cX2_beside 32 = .ok (.isub, 1) := by decide +kernel
theorem dX2_beside_33 : decode cX2_beside 33 = .ok (.ishl, 1) := by decide +kernel
theorem dX2_beside_34 : decode cX2_beside 34 = .ok (.ior, 1) := by decide +kernel
theorem dX2_beside_35 : decode cX2_beside 35 = .ok (.istore_n 3, 1) := by decide +kernel
theorem dX2_beside_36 : decode cX2_beside 36 = .ok (.iload_n 2, 1) := by decide +kernel
theorem dX2_beside_37 : decode cX2_beside 37 = .ok (.iload_n 3, 1) := by decide +kernel
theorem dX2_beside_38 : decode cX2_beside 38 = .ok (.ior, 1) := by decide +kernel
theorem dX2_beside_39 : decode cX2_beside 39 = .ok (.iconst 1, 1) := by decide +kernel
theorem dX2_beside_40 : decode cX2_beside 40 = .ok (.aload_n 0, 1) := by decide +kernel
theorem dX2_beside_41 : decode cX2_beside 41 = .ok (.getfield 30, 3) := by decide +kernel
theorem dX2_beside_44 : decode cX2_beside 44 = .ok (.ishl, 1) := by decide +kernel
theorem dX2_beside_45 : decode cX2_beside 45 = .ok (.iconst 1, 1) := by decide +kernel
theorem dX2_beside_46 : decode cX2_beside 46 = .ok (.isub, 1) := by decide +kernel
theorem dX2_beside_47 : decode cX2_beside 47 = .ok (.iand, 1) := by decide +kernel
theorem dX2_beside_48 : decode cX2_beside 48 = .ok (.ireturn, 1) := by decide +kernel
theorem dX2_mouthsFor_0 : decode cX2_mouthsFor 0 = .ok (.iload_n 1, 1) := by decide +kernel
theorem dX2_mouthsFor_1 : decode cX2_mouthsFor 1 = .ok (.ifCond .lt 22, 3) := by decide +kernel
theorem dX2_mouthsFor_4 : decode cX2_mouthsFor 4 = .ok (.iload_n 1, 1) := by decide +kernel
theorem dX2_mouthsFor_5 : decode cX2_mouthsFor 5 = .ok (.aload_n 0, 1) := by decide +kernel
theorem dX2_mouthsFor_6 : decode cX2_mouthsFor 6 = .ok (.getfield 34, 3) := by decide +kernel
theorem dX2_mouthsFor_9 : decode cX2_mouthsFor 9 = .ok (.if_icmp .ge 14, 3) := by decide +kernel
theorem dX2_mouthsFor_12 : decode cX2_mouthsFor 12 = .ok (.aload_n 0, 1) := by decide +kernel
theorem dX2_mouthsFor_13 : decode cX2_mouthsFor 13 = .ok (.getfield 40, 3) := by decide +kernel
theorem dX2_mouthsFor_16 : decode cX2_mouthsFor 16 = .ok (.iload_n 1, 1) := by decide +kernel
theorem dX2_mouthsFor_17 : decode cX2_mouthsFor 17 = .ok (.ishr, 1) := by decide +kernel
theorem dX2_mouthsFor_18 : decode cX2_mouthsFor 18 = .ok (.iconst 1, 1) := by decide +kernel
theorem dX2_mouthsFor_19 : decode cX2_mouthsFor 19 = .ok (.iand, 1) := by decide +kernel
theorem dX2_mouthsFor_20 : decode cX2_mouthsFor 20 = .ok (.ifCond .eq 5, 3) := by decide +kernel
theorem dX2_mouthsFor_23 : decode cX2_mouthsFor 23 = .ok (.iconst 0, 1) := by decide +kernel
theorem dX2_mouthsFor_24 : decode cX2_mouthsFor 24 = .ok (.ireturn, 1) := by decide +kernel
theorem dX2_mouthsFor_25 : decode cX2_mouthsFor 25 = .ok (.iconst 0, 1) := by decide +kernel
theorem dX2_mouthsFor_26 : decode cX2_mouthsFor 26 = .ok (.istore_n 2, 1) := by decide +kernel
theorem dX2_mouthsFor_27 : decode cX2_mouthsFor 27 = .ok (.iconst 0, 1) := by decide +kernel
theorem dX2_mouthsFor_28 : decode cX2_mouthsFor 28 = .ok (.istore_n 3, 1) := by decide +kernel
theorem dX2_mouthsFor_29 : decode cX2_mouthsFor 29 = .ok (.iload_n 3, 1) := by decide +kernel
theorem dX2_mouthsFor_30 : decode cX2_mouthsFor 30 = .ok (.aload_n 0, 1) := by decide +kernel
theorem dX2_mouthsFor_31 : decode cX2_mouthsFor 31 = .ok (.getfield 30, 3) := by decide +kernel
theorem dX2_mouthsFor_34 : decode cX2_mouthsFor 34 = .ok (.if_icmp .ge 42, 3) := by decide +kernel
theorem dX2_mouthsFor_37 : decode cX2_mouthsFor 37 = .ok (.aload_n 0, 1) := by decide +kernel
theorem dX2_mouthsFor_38 : decode cX2_mouthsFor 38 = .ok (.iload_n 3, 1) := by decide +kernel
theorem dX2_mouthsFor_39 : decode cX2_mouthsFor 39 = .ok (.invokevirtual 63, 3) := by decide +kernel
theorem dX2_mouthsFor_42 : decode cX2_mouthsFor 42 = .ok (.ifCond .ne 28, 3) := by decide +kernel
theorem dX2_mouthsFor_45 : decode cX2_mouthsFor 45 = .ok (.aload_n 0, 1) := by decide +kernel
theorem dX2_mouthsFor_46 : decode cX2_mouthsFor 46 = .ok (.getfield 21, 3) := by decide +kernel
theorem dX2_mouthsFor_49 : decode cX2_mouthsFor 49 = .ok (.iload_n 1, 1) := by decide +kernel
theorem dX2_mouthsFor_50 : decode cX2_mouthsFor 50 = .ok (.iaload, 1) := by decide +kernel
theorem dX2_mouthsFor_51 : decode cX2_mouthsFor 51 = .ok (.iconst 5, 1) := by decide +kernel
theorem dX2_mouthsFor_52 : decode cX2_mouthsFor 52 = .ok (.if_icmp .eq 12, 3) := by decide +kernel
theorem dX2_mouthsFor_55 : decode cX2_mouthsFor 55 = .ok (.aload_n 0, 1) := by decide +kernel
theorem dX2_mouthsFor_56 : decode cX2_mouthsFor 56 = .ok (.iload_n 3, 1) := by decide +kernel
theorem dX2_mouthsFor_57 : decode cX2_mouthsFor 57 = .ok (.iload_n 1, 1) := by decide +kernel
theorem dX2_mouthsFor_58 : decode cX2_mouthsFor 58 = .ok (.invokevirtual 67, 3) := by decide +kernel
theorem dX2_mouthsFor_61 : decode cX2_mouthsFor 61 = .ok (.ifCond .eq 9, 3) := by decide +kernel
theorem dX2_mouthsFor_64 : decode cX2_mouthsFor 64 = .ok (.iload_n 2, 1) := by decide +kernel
theorem dX2_mouthsFor_65 : decode cX2_mouthsFor 65 = .ok (.iconst 1, 1) := by decide +kernel
theorem dX2_mouthsFor_66 : decode cX2_mouthsFor 66 = .ok (.iload_n 3, 1) := by decide +kernel
theorem dX2_mouthsFor_67 : decode cX2_mouthsFor 67 = .ok (.ishl, 1) := by decide +kernel
theorem dX2_mouthsFor_68 : decode cX2_mouthsFor 68 = .ok (.ior, 1) := by decide +kernel
theorem dX2_mouthsFor_69 : decode cX2_mouthsFor 69 = .ok (.istore_n 2, 1) := by decide +kernel
theorem dX2_mouthsFor_70 : decode cX2_mouthsFor 70 = .ok (.iinc 3 1, 3) := by decide +kernel
theorem dX2_mouthsFor_73 : decode cX2_mouthsFor 73 = .ok (.goto (-44), 3) := by decide +kernel
theorem dX2_mouthsFor_76 : decode cX2_mouthsFor 76 = .ok (.iload_n 2, 1) := by decide +kernel
theorem dX2_mouthsFor_77 : decode cX2_mouthsFor 77 = .ok (.ireturn, 1) := by decide +kernel
theorem dX2_openIn_0 : decode cX2_openIn 0 = .ok (.iconst 0, 1) := by decide +kernel
theorem dX2_openIn_1 : decode cX2_openIn 1 = .ok (.istore_n 2, 1) := by decide +kernel
theorem dX2_openIn_2 : decode cX2_openIn 2 = .ok (.iconst 0, 1) := by decide +kernel
theorem dX2_openIn_3 : decode cX2_openIn 3 = .ok (.istore_n 3, 1) := by decide +kernel
theorem dX2_openIn_4 : decode cX2_openIn 4 = .ok (.iload_n 3, 1) := by decide +kernel
theorem dX2_openIn_5 : decode cX2_openIn 5 = .ok (.aload_n 0, 1) := by decide +kernel
theorem dX2_openIn_6 : decode cX2_openIn 6 = .ok (.getfield 30, 3) := by decide +kernel
theorem dX2_openIn_9 : decode cX2_openIn 9 = .ok (.if_icmp .ge 28, 3) := by decide +kernel
theorem dX2_openIn_12 : decode cX2_openIn 12 = .ok (.aload_n 0, 1) := by decide +kernel
theorem dX2_openIn_13 : decode cX2_openIn 13 = .ok (.getfield 15, 3) := by decide +kernel
theorem dX2_openIn_16 : decode cX2_openIn 16 = .ok (.iload_n 3, 1) := by decide +kernel
theorem dX2_openIn_17 : decode cX2_openIn 17 = .ok (.iaload, 1) := by decide +kernel
theorem dX2_openIn_18 : decode cX2_openIn 18 = .ok (.iload_n 1, 1) := by decide +kernel
theorem dX2_openIn_19 : decode cX2_openIn 19 = .ok (.ishr, 1) := by decide +kernel
theorem dX2_openIn_20 : decode cX2_openIn 20 = .ok (.iconst 1, 1) := by decide +kernel
theorem dX2_openIn_21 : decode cX2_openIn 21 = .ok (.iand, 1) := by decide +kernel
theorem dX2_openIn_22 : decode cX2_openIn 22 = .ok (.ifCond .eq 9, 3) := by decide +kernel
theorem dX2_openIn_25 : decode cX2_openIn 25 = .ok (.iload_n 2, 1) := by decide +kernel
theorem dX2_openIn_26 : decode cX2_openIn 26 = .ok (.iconst 1, 1) := by decide +kernel
theorem dX2_openIn_27 : decode cX2_openIn 27 = .ok (.iload_n 3, 1) := by decide +kernel
theorem dX2_openIn_28 : decode cX2_openIn 28 = .ok (.ishl, 1) := by decide +kernel
theorem dX2_openIn_29 : decode cX2_openIn 29 = .ok (.ior, 1) := by decide +kernel
theorem dX2_openIn_30 : decode cX2_openIn 30 = .ok (.istore_n 2, 1) := by decide +kernel
theorem dX2_openIn_31 : decode cX2_openIn 31 = .ok (.iinc 3 1, 3) := by decide +kernel
theorem dX2_openIn_34 : decode cX2_openIn 34 = .ok (.goto (-30), 3) := by decide +kernel
theorem dX2_openIn_37 : decode cX2_openIn 37 = .ok (.iload_n 2, 1) := by decide +kernel
theorem dX2_openIn_38 : decode cX2_openIn 38 = .ok (.ireturn, 1) := by decide +kernel
theorem dX2_isHisHour_0 : decode cX2_isHisHour 0 = .ok (.iload_n 1, 1) := by decide +kernel
theorem dX2_isHisHour_1 : decode cX2_isHisHour 1 = .ok (.ifCond .lt 11, 3) := by decide +kernel
theorem dX2_isHisHour_4 : decode cX2_isHisHour 4 = .ok (.iload_n 1, 1) := by decide +kernel
theorem dX2_isHisHour_5 : decode cX2_isHisHour 5 = .ok (.aload_n 0, 1) := by decide +kernel
theorem dX2_isHisHour_6 : decode cX2_isHisHour 6 = .ok (.getfield 34, 3) := by decide +kernel
theorem dX2_isHisHour_9 : decode cX2_isHisHour 9 = .ok (.if_icmp .lt 5, 3) := by decide +kernel
theorem dX2_isHisHour_12 : decode cX2_isHisHour 12 = .ok (.iconst 0, 1) := by decide +kernel
theorem dX2_isHisHour_13 : decode cX2_isHisHour 13 = .ok (.ireturn, 1) := by decide +kernel
theorem dX2_isHisHour_14 : decode cX2_isHisHour 14 = .ok (.aload_n 0, 1) := by decide +kernel
theorem dX2_isHisHour_15 : decode cX2_isHisHour 15 = .ok (.getfield 21, 3) := by decide +kernel
theorem dX2_isHisHour_18 : decode cX2_isHisHour 18 = .ok (.iload_n 1, 1) := by decide +kernel
theorem dX2_isHisHour_19 : decode cX2_isHisHour 19 = .ok (.iaload, 1) := by decide +kernel
theorem dX2_isHisHour_20 : decode cX2_isHisHour 20 = .ok (.tableswitch 63 1 4 #[32, 63, 32, 51], 32) := by decide +kernel
theorem dX2_isHisHour_52 : decode cX2_isHisHour 52 = .ok (.iload_n 2, 1) := by decide +kernel
theorem dX2_isHisHour_53 : decode cX2_isHisHour 53 = .ok (.aload_n 0, 1) := by decide +kernel
theorem dX2_isHisHour_54 : decode cX2_isHisHour 54 = .ok (.getfield 24, 3) := by decide +kernel
theorem dX2_isHisHour_57 : decode cX2_isHisHour 57 = .ok (.iload_n 1, 1) := by decide +kernel
theorem dX2_isHisHour_58 : decode cX2_isHisHour 58 = .ok (.iaload, 1) := by decide +kernel
theorem dX2_isHisHour_59 : decode cX2_isHisHour 59 = .ok (.iadd, 1) := by decide +kernel
theorem dX2_isHisHour_60 : decode cX2_isHisHour 60 = .ok (.iconst 1, 1) := by decide +kernel
theorem dX2_isHisHour_61 : decode cX2_isHisHour 61 = .ok (.iand, 1) := by decide +kernel
theorem dX2_isHisHour_62 : decode cX2_isHisHour 62 = .ok (.ifCond .ne 7, 3) := by decide +kernel
theorem dX2_isHisHour_65 : decode cX2_isHisHour 65 = .ok (.iconst 1, 1) := by decide +kernel
theorem dX2_isHisHour_66 : decode cX2_isHisHour 66 = .ok (.goto 4, 3) := by decide +kernel
theorem dX2_isHisHour_69 : decode cX2_isHisHour 69 = .ok (.iconst 0, 1) := by decide +kernel
theorem dX2_isHisHour_70 : decode cX2_isHisHour 70 = .ok (.ireturn, 1) := by decide +kernel
theorem dX2_isHisHour_71 : decode cX2_isHisHour 71 = .ok (.iload_n 2, 1) := by decide +kernel
theorem dX2_isHisHour_72 : decode cX2_isHisHour 72 = .ok (.bipush 12, 2) := by decide +kernel
theorem dX2_isHisHour_74 : decode cX2_isHisHour 74 = .ok (.if_icmp .lt 7, 3) := by decide +kernel
theorem dX2_isHisHour_77 : decode cX2_isHisHour 77 = .ok (.iconst 1, 1) := by decide +kernel
theorem dX2_isHisHour_78 : decode cX2_isHisHour 78 = .ok (.goto 4, 3) := by decide +kernel
theorem dX2_isHisHour_81 : decode cX2_isHisHour 81 = .ok (.iconst 0, 1) := by decide +kernel
theorem dX2_isHisHour_82 : decode cX2_isHisHour 82 = .ok (.ireturn, 1) := by decide +kernel
theorem dX2_isHisHour_83 : decode cX2_isHisHour 83 = .ok (.iconst 1, 1) := by decide +kernel
theorem dX2_isHisHour_84 : decode cX2_isHisHour 84 = .ok (.ireturn, 1) := by decide +kernel
theorem dX2_firstFrom_0 : decode cX2_firstFrom 0 = .ok (.iload_n 2, 1) := by decide +kernel
theorem dX2_firstFrom_1 : decode cX2_firstFrom 1 = .ok (.ifCond .eq 11, 3) := by decide +kernel
theorem dX2_firstFrom_4 : decode cX2_firstFrom 4 = .ok (.aload_n 0, 1) := by decide +kernel
theorem dX2_firstFrom_5 : decode cX2_firstFrom 5 = .ok (.getfield 30, 3) := by decide +kernel
theorem dX2_firstFrom_8 : decode cX2_firstFrom 8 = .ok (.iconst 1, 1) := by decide +kernel
theorem dX2_firstFrom_9 : decode cX2_firstFrom 9 = .ok (.if_icmp .ge 6, 3) := by decide +kernel
theorem dX2_firstFrom_12 : decode cX2_firstFrom 12 = .ok (.bipush (-9), 2) := by decide +kernel
theorem dX2_firstFrom_14 : decode cX2_firstFrom 14 = .ok (.ireturn, 1) := by decide +kernel
theorem dX2_firstFrom_15 : decode cX2_firstFrom 15 = .ok (.iconst 0, 1) := by decide +kernel
theorem dX2_firstFrom_16 : decode cX2_firstFrom 16 = .ok (.istore_n 3, 1) := by decide +kernel
theorem dX2_firstFrom_17 : decode cX2_firstFrom 17 = .ok (.iload_n 3, 1) := by decide +kernel
theorem dX2_firstFrom_18 : decode cX2_firstFrom 18 = .ok (.aload_n 0, 1) := by decide +kernel
theorem dX2_firstFrom_19 : decode cX2_firstFrom 19 = .ok (.getfield 30, 3) := by decide +kernel
theorem dX2_firstFrom_22 : decode cX2_firstFrom 22 = .ok (.if_icmp .ge 31, 3) := by decide +kernel
theorem dX2_firstFrom_25 : decode cX2_firstFrom 25 = .ok (.iload_n 1, 1) := by decide +kernel
theorem dX2_firstFrom_26 : decode cX2_firstFrom 26 = .ok (.iload_n 3, 1) := by decide +kernel
theorem dX2_firstFrom_27 : decode cX2_firstFrom 27 = .ok (.iadd, 1) := by decide +kernel
theorem dX2_firstFrom_28 : decode cX2_firstFrom 28 = .ok (.aload_n 0, 1) := by decide +kernel
theorem dX2_firstFrom_29 : decode cX2_firstFrom 29 = .ok (.getfield 30, 3) := by decide +kernel
theorem dX2_firstFrom_32 : decode cX2_firstFrom 32 = .ok (.irem, 1) := by decide +kernel
theorem dX2_firstFrom_33 : decode cX2_firstFrom 33 = .ok (.istore 4, 2) := by decide +kernel
theorem dX2_firstFrom_35 : decode cX2_firstFrom 35 = .ok (.iload_n 2, 1) := by decide +kernel
theorem dX2_firstFrom_36 : decode cX2_firstFrom 36 = .ok (.iload 4, 2) := by decide +kernel
theorem dX2_firstFrom_38 : decode cX2_firstFrom 38 = .ok (.ishr, 1) := by decide +kernel
theorem dX2_firstFrom_39 : decode cX2_firstFrom 39 = .ok (.iconst 1, 1) := by decide +kernel
theorem dX2_firstFrom_40 : decode cX2_firstFrom 40 = .ok (.iand, 1) := by decide +kernel
theorem dX2_firstFrom_41 : decode cX2_firstFrom 41 = .ok (.ifCond .eq 6, 3) := by decide +kernel
theorem dX2_firstFrom_44 : decode cX2_firstFrom 44 = .ok (.iload 4, 2) := by decide +kernel
theorem dX2_firstFrom_46 : decode cX2_firstFrom 46 = .ok (.ireturn, 1) := by decide +kernel
theorem dX2_firstFrom_47 : decode cX2_firstFrom 47 = .ok (.iinc 3 1, 3) := by decide +kernel
theorem dX2_firstFrom_50 : decode cX2_firstFrom 50 = .ok (.goto (-33), 3) := by decide +kernel
theorem dX2_firstFrom_53 : decode cX2_firstFrom 53 = .ok (.bipush (-9), 2) := by decide +kernel
theorem dX2_firstFrom_55 : decode cX2_firstFrom 55 = .ok (.ireturn, 1) := by decide +kernel
theorem dX3_init_0 : decode cX3_init 0 = .ok (.aload_n 0, 1) := by decide +kernel
theorem dX3_init_1 : decode cX3_init 1 = .ok (.invokespecial 3, 3) := by decide +kernel
theorem dX3_init_4 : decode cX3_init 4 = .ok (.aload_n 0, 1) := by decide +kernel
theorem dX3_init_5 : decode cX3_init 5 = .ok (.bipush 96, 2) := by decide +kernel
theorem dX3_init_7 : decode cX3_init 7 = .ok (.newarray .int, 2) := by decide +kernel
theorem dX3_init_9 : decode cX3_init 9 = .ok (.putfield 9, 3) := by decide +kernel
theorem dX3_init_12 : decode cX3_init 12 = .ok (.return_, 1) := by decide +kernel
theorem dX3_add_0 : decode cX3_add 0 = .ok (.aload_n 0, 1) := by decide +kernel
theorem dX3_add_1 : decode cX3_add 1 = .ok (.getfield 15, 3) := by decide +kernel
theorem dX3_add_4 : decode cX3_add 4 = .ok (.bipush 96, 2) := by decide +kernel
theorem dX3_add_6 : decode cX3_add 6 = .ok (.if_icmp .ge 23, 3) := by decide +kernel
theorem dX3_add_9 : decode cX3_add 9 = .ok (.aload_n 0, 1) := by decide +kernel
theorem dX3_add_10 : decode cX3_add 10 = .ok (.getfield 9, 3) := by decide +kernel
theorem dX3_add_13 : decode cX3_add 13 = .ok (.aload_n 0, 1) := by decide +kernel
theorem dX3_add_14 : decode cX3_add 14 = .ok (.getfield 15, 3) := by decide +kernel
theorem dX3_add_17 : decode cX3_add 17 = .ok (.iload_n 1, 1) := by decide +kernel
theorem dX3_add_18 : decode cX3_add 18 = .ok (.iastore, 1) := by decide +kernel
theorem dX3_add_19 : decode cX3_add 19 = .ok (.aload_n 0, 1) := by decide +kernel
theorem dX3_add_20 : decode cX3_add 20 = .ok (.dup, 1) := by decide +kernel
theorem dX3_add_21 : decode cX3_add 21 = .ok (.getfield 15, 3) := by decide +kernel
theorem dX3_add_24 : decode cX3_add 24 = .ok (.iconst 1, 1) := by decide +kernel
theorem dX3_add_25 : decode cX3_add 25 = .ok (.iadd, 1) := by decide +kernel
theorem dX3_add_26 : decode cX3_add 26 = .ok (.putfield 15, 3) := by decide +kernel
theorem dX3_add_29 : decode cX3_add 29 = .ok (.aload_n 0, 1) := by decide +kernel
theorem dX3_add_30 : decode cX3_add 30 = .ok (.getfield 15, 3) := by decide +kernel
theorem dX3_add_33 : decode cX3_add 33 = .ok (.ireturn, 1) := by decide +kernel
theorem dX3_sign_0 : decode cX3_sign 0 = .ok (.iload_n 1, 1) := by decide +kernel
theorem dX3_sign_1 : decode cX3_sign 1 = .ok (.ifCond .lt 20, 3) := by decide +kernel
theorem dX3_sign_4 : decode cX3_sign 4 = .ok (.iload_n 1, 1) := by decide +kernel
theorem dX3_sign_5 : decode cX3_sign 5 = .ok (.aload_n 0, 1) := by decide +kernel
theorem dX3_sign_6 : decode cX3_sign 6 = .ok (.getfield 15, 3) := by decide +kernel
theorem dX3_sign_9 : decode cX3_sign 9 = .ok (.if_icmp .ge 12, 3) := by decide +kernel
theorem dX3_sign_12 : decode cX3_sign 12 = .ok (.aload_n 0, 1) := by decide +kernel
theorem dX3_sign_13 : decode cX3_sign 13 = .ok (.getfield 9, 3) := by decide +kernel
theorem dX3_sign_16 : decode cX3_sign 16 = .ok (.iload_n 1, 1) := by decide +kernel
theorem dX3_sign_17 : decode cX3_sign 17 = .ok (.iaload, 1) := by decide +kernel
theorem dX3_sign_18 : decode cX3_sign 18 = .ok (.goto 4, 3) := by decide +kernel
theorem dX3_sign_21 : decode cX3_sign 21 = .ok (.iconst (-1), 1) := by decide +kernel
theorem dX3_sign_22 : decode cX3_sign 22 = .ok (.ireturn, 1) := by decide +kernel
theorem dX3_digitsBehind_0 : decode cX3_digitsBehind 0 = .ok (.iload_n 1, 1) := by decide +kernel
theorem dX3_digitsBehind_1 : decode cX3_digitsBehind 1 = .ok (.tableswitch 91 99 115 #[89, 87, 91, 91, 91, 91, 91, 91, 85, 91, 91, 91, 89, 85, 91, 91, 83], 83) := by decide +kernel
theorem dX3_digitsBehind_84 : decode cX3_digitsBehind 84 = .ok (.iconst 1, 1) := by decide +kernel
theorem dX3_digitsBehind_85 : decode cX3_digitsBehind 85 = .ok (.ireturn, 1) := by decide +kernel
theorem dX3_digitsBehind_86 : decode cX3_digitsBehind 86 = .ok (.iconst 2, 1) := by decide +kernel
theorem dX3_digitsBehind_87 : decode cX3_digitsBehind 87 = .ok (.ireturn, 1) := by decide +kernel
theorem dX3_digitsBehind_88 : decode cX3_digitsBehind 88 = .ok (.iconst 3, 1) := by decide +kernel
theorem dX3_digitsBehind_89 : decode cX3_digitsBehind 89 = .ok (.ireturn, 1) := by decide +kernel
theorem dX3_digitsBehind_90 : decode cX3_digitsBehind 90 = .ok (.iconst 5, 1) := by decide +kernel
theorem dX3_digitsBehind_91 : decode cX3_digitsBehind 91 = .ok (.ireturn, 1) := by decide +kernel
theorem dX3_digitsBehind_92 : decode cX3_digitsBehind 92 = .ok (.iconst (-1), 1) := by decide +kernel
theorem dX3_digitsBehind_93 : decode cX3_digitsBehind 93 = .ok (.ireturn, 1) := by decide +kernel
theorem dX3_isDigit_0 : decode cX3_isDigit 0 = .ok (.aload_n 0, 1) := by decide +kernel
theorem dX3_isDigit_1 : decode cX3_isDigit 1 = .ok (.iload_n 1, 1) := by decide +kernel
theorem dX3_isDigit_2 : decode cX3_isDigit 2 = .ok (.invokevirtual 19, 3) := by decide +kernel
theorem dX3_isDigit_5 : decode cX3_isDigit 5 = .ok (.bipush 48, 2) := by decide +kernel
theorem dX3_isDigit_7 : decode cX3_isDigit 7 = .ok (.if_icmp .lt 17, 3) := by decide +kernel
theorem dX3_isDigit_10 : decode cX3_isDigit 10 = .ok (.aload_n 0, 1) := by decide +kernel
theorem dX3_isDigit_11 : decode cX3_isDigit 11 = .ok (.iload_n 1, 1) := by decide +kernel
theorem dX3_isDigit_12 : decode cX3_isDigit 12 = .ok (.invokevirtual 19, 3) := by decide +kernel
theorem dX3_isDigit_15 : decode cX3_isDigit 15 = .ok (.bipush 57, 2) := by decide +kernel
theorem dX3_isDigit_17 : decode cX3_isDigit 17 = .ok (.if_icmp .gt 7, 3) := by decide +kernel
theorem dX3_isDigit_20 : decode cX3_isDigit 20 = .ok (.iconst 1, 1) := by decide +kernel
theorem dX3_isDigit_21 : decode cX3_isDigit 21 = .ok (.goto 4, 3) := by decide +kernel
theorem dX3_isDigit_24 : decode cX3_isDigit 24 = .ok (.iconst 0, 1) := by decide +kernel
theorem dX3_isDigit_25 : decode cX3_isDigit 25 = .ok (.ireturn, 1) := by decide +kernel
theorem dX3_brokenAt_0 : decode cX3_brokenAt 0 = .ok (.aload_n 0, 1) := by decide +kernel
theorem dX3_brokenAt_1 : decode cX3_brokenAt 1 = .ok (.getfield 15, 3) := by decide +kernel
theorem dX3_brokenAt_4 : decode cX3_brokenAt 4 = .ok (.ifCond .ne 5, 3) := by decide +kernel
theorem dX3_brokenAt_7 : decode cX3_brokenAt 7 = .ok (.iconst 0, 1) := by decide +kernel
theorem dX3_brokenAt_8 : decode cX3_brokenAt 8 = .ok (.ireturn, 1) := by decide +kernel
theorem dX3_brokenAt_9 : decode cX3_brokenAt 9 = .ok (.iconst 0, 1) := by decide +kernel
theorem dX3_brokenAt_10 : decode cX3_brokenAt 10 = .ok (.istore_n 1, 1) := by decide +kernel
theorem dX3_brokenAt_11 : decode cX3_brokenAt 11 = .ok (.iload_n 1, 1) := by decide +kernel
theorem dX3_brokenAt_12 : decode cX3_brokenAt 12 = .ok (.aload_n 0, 1) := by decide +kernel
theorem dX3_brokenAt_13 : decode cX3_brokenAt 13 = .ok (.getfield 15, 3) := by decide +kernel
theorem dX3_brokenAt_16 : decode cX3_brokenAt 16 = .ok (.if_icmp .ge 66, 3) := by decide +kernel
theorem dX3_brokenAt_19 : decode cX3_brokenAt 19 = .ok (.aload_n 0, 1) := by decide +kernel
theorem dX3_brokenAt_20 : decode cX3_brokenAt 20 = .ok (.aload_n 0, 1) := by decide +kernel
theorem dX3_brokenAt_21 : decode cX3_brokenAt 21 = .ok (.iload_n 1, 1) := by decide +kernel
theorem dX3_brokenAt_22 : decode cX3_brokenAt 22 = .ok (.invokevirtual 19, 3) := by decide +kernel
theorem dX3_brokenAt_25 : decode cX3_brokenAt 25 = .ok (.invokevirtual 23, 3) := by decide +kernel
theorem dX3_brokenAt_28 : decode cX3_brokenAt 28 = .ok (.istore_n 2, 1) := by decide +kernel
theorem dX3_brokenAt_29 : decode cX3_brokenAt 29 = .ok (.iload_n 2, 1) := by decide +kernel
theorem dX3_brokenAt_30 : decode cX3_brokenAt 30 = .ok (.ifCond .ge 5, 3) := by decide +kernel
theorem dX3_brokenAt_33 : decode cX3_brokenAt 33 = .ok (.iload_n 1, 1) := by decide +kernel
theorem dX3_brokenAt_34 : decode cX3_brokenAt 34 = .ok (.ireturn, 1) := by decide +kernel
theorem dX3_brokenAt_35 : decode cX3_brokenAt 35 = .ok (.iinc 1 1, 3) := by decide +kernel
theorem dX3_brokenAt_38 : decode cX3_brokenAt 38 = .ok (.iconst 0, 1) := by decide +kernel
theorem dX3_brokenAt_39 : decode cX3_brokenAt 39 = .ok (.istore_n 3, 1) := by decide +kernel
theorem dX3_brokenAt_40 : decode cX3_brokenAt 40 = .ok (.iload_n 3, 1) := by decide +kernel
theorem dX3_brokenAt_41 : decode cX3_brokenAt 41 = .ok (.iload_n 2, 1) := by decide +kernel
theorem dX3_brokenAt_42 : decode cX3_brokenAt 42 = .ok (.if_icmp .ge 22, 3) := by decide +kernel
theorem dX3_brokenAt_45 : decode cX3_brokenAt 45 = .ok (.aload_n 0, 1) := by decide +kernel
theorem dX3_brokenAt_46 : decode cX3_brokenAt 46 = .ok (.iload_n 1, 1) := by decide +kernel
theorem dX3_brokenAt_47 : decode cX3_brokenAt 47 = .ok (.invokevirtual 26, 3) := by decide +kernel
theorem dX3_brokenAt_50 : decode cX3_brokenAt 50 = .ok (.ifCond .ne 5, 3) := by decide +kernel
theorem dX3_brokenAt_53 : decode cX3_brokenAt 53 = .ok (.iload_n 1, 1) := by decide +kernel
theorem dX3_brokenAt_54 : decode cX3_brokenAt 54 = .ok (.ireturn, 1) := by decide +kernel
theorem dX3_brokenAt_55 : decode cX3_brokenAt 55 = .ok (.iinc 1 1, 3) := by decide +kernel
theorem dX3_brokenAt_58 : decode cX3_brokenAt 58 = .ok (.iinc 3 1, 3) := by decide +kernel
theorem dX3_brokenAt_61 : decode cX3_brokenAt 61 = .ok (.goto (-21), 3) := by decide +kernel
theorem dX3_brokenAt_64 : decode cX3_brokenAt 64 = .ok (.aload_n 0, 1) := by decide +kernel
theorem dX3_brokenAt_65 : decode cX3_brokenAt 65 = .ok (.iload_n 1, 1) := by decide +kernel
theorem dX3_brokenAt_66 : decode cX3_brokenAt 66 = .ok (.invokevirtual 19, 3) := by decide +kernel
theorem dX3_brokenAt_69 : decode cX3_brokenAt 69 = .ok (.bipush 59, 2) := by decide +kernel
theorem dX3_brokenAt_71 : decode cX3_brokenAt 71 = .ok (.if_icmp .eq 5, 3) := by decide +kernel
theorem dX3_brokenAt_74 : decode cX3_brokenAt 74 = .ok (.iload_n 1, 1) := by decide +kernel
theorem dX3_brokenAt_75 : decode cX3_brokenAt 75 = .ok (.ireturn, 1) := by decide +kernel
theorem dX3_brokenAt_76 : decode cX3_brokenAt 76 = .ok (.iinc 1 1, 3) := by decide +kernel
theorem dX3_brokenAt_79 : decode cX3_brokenAt 79 = .ok (.goto (-68), 3) := by decide +kernel
theorem dX3_brokenAt_82 : decode cX3_brokenAt 82 = .ok (.iconst (-1), 1) := by decide +kernel
theorem dX3_brokenAt_83 : decode cX3_brokenAt 83 = .ok (.ireturn, 1) := by decide +kernel
theorem dX3_behind_0 : decode cX3_behind 0 = .ok (.iload_n 1, 1) := by decide +kernel
theorem dX3_behind_1 : decode cX3_behind 1 = .ok (.aload_n 0, 1) := by decide +kernel
theorem dX3_behind_2 : decode cX3_behind 2 = .ok (.aload_n 0, 1) := by decide +kernel
theorem dX3_behind_3 : decode cX3_behind 3 = .ok (.iload_n 1, 1) := by decide +kernel
theorem dX3_behind_4 : decode cX3_behind 4 = .ok (.invokevirtual 19, 3) := by decide +kernel
theorem dX3_behind_7 : decode cX3_behind 7 = .ok (.invokevirtual 23, 3) := by decide +kernel
theorem dX3_behind_10 : decode cX3_behind 10 = .ok (.iadd, 1) := by decide +kernel
theorem dX3_behind_11 : decode cX3_behind 11 = .ok (.iconst 2, 1) := by decide +kernel
theorem dX3_behind_12 : decode cX3_behind 12 = .ok (.iadd, 1) := by decide +kernel
theorem dX3_behind_13 : decode cX3_behind 13 = .ok (.ireturn, 1) := by decide +kernel
theorem dX3_digit_0 : decode cX3_digit 0 = .ok (.aload_n 0, 1) := by decide +kernel
theorem dX3_digit_1 : decode cX3_digit 1 = .ok (.iload_n 1, 1) := by decide +kernel
theorem dX3_digit_2 : decode cX3_digit 2 = .ok (.invokevirtual 19, 3) := by decide +kernel
theorem dX3_digit_5 : decode cX3_digit 5 = .ok (.bipush 48, 2) := by decide +kernel
theorem dX3_digit_7 : decode cX3_digit 7 = .ok (.isub, 1) := by decide +kernel
theorem dX3_digit_8 : decode cX3_digit 8 = .ok (.ireturn, 1) := by decide +kernel
theorem dX3_pair_0 : decode cX3_pair 0 = .ok (.bipush 10, 2) := by decide +kernel
theorem dX3_pair_2 : decode cX3_pair 2 = .ok (.aload_n 0, 1) := by decide +kernel
theorem dX3_pair_3 : decode cX3_pair 3 = .ok (.iload_n 1, 1) := by decide +kernel
theorem dX3_pair_4 : decode cX3_pair 4 = .ok (.invokevirtual 30, 3) := by decide +kernel
theorem dX3_pair_7 : decode cX3_pair 7 = .ok (.imul, 1) := by decide +kernel
theorem dX3_pair_8 : decode cX3_pair 8 = .ok (.aload_n 0, 1) := by decide +kernel
theorem dX3_pair_9 : decode cX3_pair 9 = .ok (.iload_n 1, 1) := by decide +kernel
theorem dX3_pair_10 : decode cX3_pair 10 = .ok (.iconst 1, 1) := by decide +kernel
theorem dX3_pair_11 : decode cX3_pair 11 = .ok (.iadd, 1) := by decide +kernel
theorem dX3_pair_12 : decode cX3_pair 12 = .ok (.invokevirtual 30, 3) := by decide +kernel
theorem dX3_pair_15 : decode cX3_pair 15 = .ok (.iadd, 1) := by decide +kernel
theorem dX3_pair_16 : decode cX3_pair 16 = .ok (.ireturn, 1) := by decide +kernel
theorem dX3_tellStatement_0 : decode cX3_tellStatement 0 = .ok (.aload_n 0, 1) := by decide +kernel
theorem dX3_tellStatement_1 : decode cX3_tellStatement 1 = .ok (.iload_n 1, 1) := by decide +kernel
theorem dX3_tellStatement_2 : decode cX3_tellStatement 2 = .ok (.invokevirtual 19, 3) := by decide +kernel
theorem dX3_tellStatement_5 : decode cX3_tellStatement 5 = .ok (.tableswitch 206 99 115 #[148, 95, 206, 206, 206, 206, 206, 206, 187, 206, 206, 206, 121, 83, 206, 206, 175], 83) := by decide +kernel
theorem dX3_tellStatement_88 : decode cX3_tellStatement 88 = .ok (.aload_n 2, 1) := by decide +kernel
theorem dX3_tellStatement_89 : decode cX3_tellStatement 89 = .ok (.aload_n 0, 1) := by decide +kernel
theorem dX3_tellStatement_90 : decode cX3_tellStatement 90 = .ok (.iload_n 1, 1) := by decide +kernel
theorem dX3_tellStatement_91 : decode cX3_tellStatement 91 = .ok (.iconst 1, 1) := by decide +kernel
theorem dX3_tellStatement_92 : decode cX3_tellStatement 92 = .ok (.iadd, 1) := by decide +kernel
theorem dX3_tellStatement_93 : decode cX3_tellStatement 93 = .ok (.invokevirtual 33, 3) := by decide +kernel
theorem dX3_tellStatement_96 : decode cX3_tellStatement 96 = .ok (.invokevirtual 36, 3) := by decide +kernel
theorem dX3_tellStatement_99 : decode cX3_tellStatement 99 = .ok (.ireturn, 1) := by decide +kernel
theorem dX3_tellStatement_100 : decode cX3_tellStatement 100 = .ok (.aload_n 2, 1) := by decide +kernel
theorem dX3_tellStatement_101 : decode cX3_tellStatement 101 = .ok (.aload_n 0, 1) := by decide +kernel
theorem dX3_tellStatement_102 : decode cX3_tellStatement 102 = .ok (.iload_n 1, 1) := by decide +kernel
theorem dX3_tellStatement_103 : decode cX3_tellStatement 103 = .ok (.iconst 1, 1) := by decide +kernel
theorem dX3_tellStatement_104 : decode cX3_tellStatement 104 = .ok (.iadd, 1) := by decide +kernel
theorem dX3_tellStatement_105 : decode cX3_tellStatement 105 = .ok (.invokevirtual 30, 3) := by decide +kernel
theorem dX3_tellStatement_108 : decode cX3_tellStatement 108 = .ok (.aload_n 0, 1) := by decide +kernel
theorem dX3_tellStatement_109 : decode cX3_tellStatement 109 = .ok (.iload_n 1, 1) := by decide +kernel
theorem dX3_tellStatement_110 : decode cX3_tellStatement 110 = .ok (.iconst 2, 1) := by decide +kernel
theorem dX3_tellStatement_111 : decode cX3_tellStatement 111 = .ok (.iadd, 1) := by decide +kernel
theorem dX3_tellStatement_112 : decode cX3_tellStatement 112 = .ok (.invokevirtual 30, 3) := by decide +kernel
theorem dX3_tellStatement_115 : decode cX3_tellStatement 115 = .ok (.aload_n 0, 1) := by decide +kernel
theorem dX3_tellStatement_116 : decode cX3_tellStatement 116 = .ok (.iload_n 1, 1) := by decide +kernel
theorem dX3_tellStatement_117 : decode cX3_tellStatement 117 = .ok (.iconst 3, 1) := by decide +kernel
theorem dX3_tellStatement_118 : decode cX3_tellStatement 118 = .ok (.iadd, 1) := by decide +kernel
theorem dX3_tellStatement_119 : decode cX3_tellStatement 119 = .ok (.invokevirtual 30, 3) := by decide +kernel
theorem dX3_tellStatement_122 : decode cX3_tellStatement 122 = .ok (.invokevirtual 41, 3) := by decide +kernel
theorem dX3_tellStatement_125 : decode cX3_tellStatement 125 = .ok (.ireturn, 1) := by decide +kernel
theorem dX3_tellStatement_126 : decode cX3_tellStatement 126 = .ok (.aload_n 2, 1) := by decide +kernel
theorem dX3_tellStatement_127 : decode cX3_tellStatement 127 = .ok (.aload_n 0, 1) := by decide +kernel
theorem dX3_tellStatement_128 : decode cX3_tellStatement 128 = .ok (.iload_n 1, 1) := by decide +kernel
theorem dX3_tellStatement_129 : decode cX3_tellStatement 129 = .ok (.iconst 1, 1) := by decide +kernel
theorem dX3_tellStatement_130 : decode cX3_tellStatement 130 = .ok (.iadd, 1) := by decide +kernel
theorem dX3_tellStatement_131 : decode cX3_tellStatement 131 = .ok (.invokevirtual 30, 3) := by decide +kernel
theorem dX3_tellStatement_134 : decode cX3_tellStatement 134 = .ok (.aload_n 0, 1) := by decide +kernel
theorem dX3_tellStatement_135 : decode cX3_tellStatement 135 = .ok (.iload_n 1, 1) := by decide +kernel
theorem dX3_tellStatement_136 : decode cX3_tellStatement 136 = .ok (.iconst 2, 1) := by decide +kernel
theorem dX3_tellStatement_137 : decode cX3_tellStatement 137 = .ok (.iadd, 1) := by decide +kernel
theorem dX3_tellStatement_138 : decode cX3_tellStatement 138 = .ok (.invokevirtual 33, 3) := by decide +kernel
theorem dX3_tellStatement_141 : decode cX3_tellStatement 141 = .ok (.aload_n 0, 1) := by decide +kernel
theorem dX3_tellStatement_142 : decode cX3_tellStatement 142 = .ok (.iload_n 1, 1) := by decide +kernel
theorem dX3_tellStatement_143 : decode cX3_tellStatement 143 = .ok (.iconst 4, 1) := by decide +kernel
theorem dX3_tellStatement_144 : decode cX3_tellStatement 144 = .ok (.iadd, 1) := by decide +kernel
theorem dX3_tellStatement_145 : decode cX3_tellStatement 145 = .ok (.invokevirtual 33, 3) := by decide +kernel
theorem dX3_tellStatement_148 : decode cX3_tellStatement 148 = .ok (.iconst 1, 1) := by decide +kernel
theorem dX3_tellStatement_149 : decode cX3_tellStatement 149 = .ok (.invokevirtual 45, 3) := by decide +kernel
theorem dX3_tellStatement_152 : decode cX3_tellStatement 152 = .ok (.ireturn, 1) := by decide +kernel
theorem dX3_tellStatement_153 : decode cX3_tellStatement 153 = .ok (.aload_n 2, 1) := by decide +kernel
theorem dX3_tellStatement_154 : decode cX3_tellStatement 154 = .ok (.aload_n 0, 1) := by decide +kernel
theorem dX3_tellStatement_155 : decode cX3_tellStatement 155 = .ok (.iload_n 1, 1) := by decide +kernel
theorem dX3_tellStatement_156 : decode cX3_tellStatement 156 = .ok (.iconst 1, 1) := by decide +kernel
theorem dX3_tellStatement_157 : decode cX3_tellStatement 157 = .ok (.iadd, 1) := by decide +kernel
theorem dX3_tellStatement_158 : decode cX3_tellStatement 158 = .ok (.invokevirtual 30, 3) := by decide +kernel
theorem dX3_tellStatement_161 : decode cX3_tellStatement 161 = .ok (.aload_n 0, 1) := by decide +kernel
theorem dX3_tellStatement_162 : decode cX3_tellStatement 162 = .ok (.iload_n 1, 1) := by decide +kernel
theorem dX3_tellStatement_163 : decode cX3_tellStatement 163 = .ok (.iconst 2, 1) := by decide +kernel
theorem dX3_tellStatement_164 : decode cX3_tellStatement 164 = .ok (.iadd, 1) := by decide +kernel
theorem dX3_tellStatement_165 : decode cX3_tellStatement 165 = .ok (.invokevirtual 33, 3) := by decide +kernel
theorem dX3_tellStatement_168 : decode cX3_tellStatement 168 = .ok (.aload_n 0, 1) := by decide +kernel
theorem dX3_tellStatement_169 : decode cX3_tellStatement 169 = .ok (.iload_n 1, 1) := by decide +kernel
theorem dX3_tellStatement_170 : decode cX3_tellStatement 170 = .ok (.iconst 4, 1) := by decide +kernel
theorem dX3_tellStatement_171 : decode cX3_tellStatement 171 = .ok (.iadd, 1) := by decide +kernel
theorem dX3_tellStatement_172 : decode cX3_tellStatement 172 = .ok (.invokevirtual 33, 3) := by decide +kernel
theorem dX3_tellStatement_175 : decode cX3_tellStatement 175 = .ok (.iconst 0, 1) := by decide +kernel
theorem dX3_tellStatement_176 : decode cX3_tellStatement 176 = .ok (.invokevirtual 45, 3) := by decide +kernel
theorem dX3_tellStatement_179 : decode cX3_tellStatement 179 = .ok (.ireturn, 1) := by decide +kernel
theorem dX3_tellStatement_180 : decode cX3_tellStatement 180 = .ok (.aload_n 2, 1) := by decide +kernel
theorem dX3_tellStatement_181 : decode cX3_tellStatement 181 = .ok (.aload_n 0, 1) := by decide +kernel
theorem dX3_tellStatement_182 : decode cX3_tellStatement 182 = .ok (.iload_n 1, 1) := by decide +kernel
theorem dX3_tellStatement_183 : decode cX3_tellStatement 183 = .ok (.iconst 1, 1) := by decide +kernel
theorem dX3_tellStatement_184 : decode cX3_tellStatement 184 = .ok (.iadd, 1) := by decide +kernel
theorem dX3_tellStatement_185 : decode cX3_tellStatement 185 = .ok (.invokevirtual 30, 3) := by decide +kernel
theorem dX3_tellStatement_188 : decode cX3_tellStatement 188 = .ok (.invokevirtual 49, 3) := by decide +kernel
theorem dX3_tellStatement_191 : decode cX3_tellStatement 191 = .ok (.ireturn, 1) := by decide +kernel
theorem dX3_tellStatement_192 : decode cX3_tellStatement 192 = .ok (.aload_n 2, 1) := by decide +kernel
theorem dX3_tellStatement_193 : decode cX3_tellStatement 193 = .ok (.aload_n 0, 1) := by decide +kernel
theorem dX3_tellStatement_194 : decode cX3_tellStatement 194 = .ok (.iload_n 1, 1) := by decide +kernel
theorem dX3_tellStatement_195 : decode cX3_tellStatement 195 = .ok (.iconst 1, 1) := by decide +kernel
theorem dX3_tellStatement_196 : decode cX3_tellStatement 196 = .ok (.iadd, 1) := by decide +kernel
theorem dX3_tellStatement_197 : decode cX3_tellStatement 197 = .ok (.invokevirtual 30, 3) := by decide +kernel
theorem dX3_tellStatement_200 : decode cX3_tellStatement 200 = .ok (.aload_n 0, 1) := by decide +kernel
theorem dX3_tellStatement_201 : decode cX3_tellStatement 201 = .ok (.iload_n 1, 1) := by decide +kernel
theorem dX3_tellStatement_202 : decode cX3_tellStatement 202 = .ok (.iconst 2, 1) := by decide +kernel
theorem dX3_tellStatement_203 : decode cX3_tellStatement 203 = .ok (.iadd, 1) := by decide +kernel
theorem dX3_tellStatement_204 : decode cX3_tellStatement 204 = .ok (.invokevirtual 30, 3) := by decide +kernel
theorem dX3_tellStatement_207 : decode cX3_tellStatement 207 = .ok (.invokevirtual 52, 3) := by decide +kernel
theorem dX3_tellStatement_210 : decode cX3_tellStatement 210 = .ok (.ireturn, 1) := by decide +kernel
theorem dX3_tellStatement_211 : decode cX3_tellStatement 211 = .ok (.iconst 0, 1) := by decide +kernel
theorem dX3_tellStatement_212 : decode cX3_tellStatement 212 = .ok (.ireturn, 1) := by decide +kernel
theorem dX4_init_0 : decode cX4_init 0 = .ok (.aload_n 0, 1) := by decide +kernel
theorem dX4_init_1 : decode cX4_init 1 = .ok (.invokespecial 3, 3) := by decide +kernel
theorem dX4_init_4 : decode cX4_init 4 = .ok (.aload_n 0, 1) := by decide +kernel
theorem dX4_init_5 : decode cX4_init 5 = .ok (.new 9, 3) := by decide +kernel
theorem dX4_init_8 : decode cX4_init 8 = .ok (.dup, 1) := by decide +kernel
theorem dX4_init_9 : decode cX4_init 9 = .ok (.invokespecial 11, 3) := by decide +kernel
theorem dX4_init_12 : decode cX4_init 12 = .ok (.putfield 12, 3) := by decide +kernel
theorem dX4_init_15 : decode cX4_init 15 = .ok (.aload_n 0, 1) := by decide +kernel
theorem dX4_init_16 : decode cX4_init 16 = .ok (.new 9, 3) := by decide +kernel
theorem dX4_init_19 : decode cX4_init 19 = .ok (.dup, 1) := by decide +kernel
theorem dX4_init_20 : decode cX4_init 20 = .ok (.invokespecial 11, 3) := by decide +kernel
theorem dX4_init_23 : decode cX4_init 23 = .ok (.putfield 16, 3) := by decide +kernel
theorem dX4_init_26 : decode cX4_init 26 = .ok (.aload_n 0, 1) := by decide +kernel
theorem dX4_init_27 : decode cX4_init 27 = .ok (.new 9, 3) := by decide +kernel
theorem dX4_init_30 : decode cX4_init 30 = .ok (.dup, 1) := by decide +kernel
theorem dX4_init_31 : decode cX4_init 31 = .ok (.invokespecial 11, 3) := by decide +kernel
theorem dX4_init_34 : decode cX4_init 34 = .ok (.putfield 19, 3) := by decide +kernel
theorem dX4_init_37 : decode cX4_init 37 = .ok (.aload_n 0, 1) := by decide +kernel
theorem dX4_init_38 : decode cX4_init 38 = .ok (.new 22, 3) := by decide +kernel
theorem dX4_init_41 : decode cX4_init 41 = .ok (.dup, 1) := by decide +kernel
theorem dX4_init_42 : decode cX4_init 42 = .ok (.invokespecial 24, 3) := by decide +kernel
theorem dX4_init_45 : decode cX4_init 45 = .ok (.putfield 25, 3) := by decide +kernel
theorem dX4_init_48 : decode cX4_init 48 = .ok (.aload_n 0, 1) := by decide +kernel
theorem dX4_init_49 : decode cX4_init 49 = .ok (.new 29, 3) := by decide +kernel
theorem dX4_init_52 : decode cX4_init 52 = .ok (.dup, 1) := by decide +kernel
theorem dX4_init_53 : decode cX4_init 53 = .ok (.invokespecial 31, 3) := by decide +kernel
theorem dX4_init_56 : decode cX4_init 56 = .ok (.putfield 32, 3) := by decide +kernel
theorem dX4_init_59 : decode cX4_init 59 = .ok (.aload_n 0, 1) := by decide +kernel
theorem dX4_init_60 : decode cX4_init 60 = .ok (.new 36, 3) := by decide +kernel
theorem dX4_init_63 : decode cX4_init 63 = .ok (.dup, 1) := by decide +kernel
theorem dX4_init_64 : decode cX4_init 64 = .ok (.invokespecial 38, 3) := by decide +kernel
theorem dX4_init_67 : decode cX4_init 67 = .ok (.putfield 39, 3) := by decide +kernel
theorem dX4_init_70 : decode cX4_init 70 = .ok (.aload_n 0, 1) := by decide +kernel
theorem dX4_init_71 : decode cX4_init 71 = .ok (.bipush 24, 2) := by decide +kernel
theorem dX4_init_73 : decode cX4_init 73 = .ok (.newarray .int, 2) := by decide +kernel
theorem dX4_init_75 : decode cX4_init 75 = .ok (.putfield 43, 3) := by decide +kernel
theorem dX4_init_78 : decode cX4_init 78 = .ok (.aload_n 0, 1) := by decide +kernel
theorem dX4_init_79 : decode cX4_init 79 = .ok (.bipush 7, 2) := by decide +kernel
theorem dX4_init_81 : decode cX4_init 81 = .ok (.newarray .int, 2) := by decide +kernel
theorem dX4_init_83 : decode cX4_init 83 = .ok (.putfield 47, 3) := by decide +kernel
theorem dX4_init_86 : decode cX4_init 86 = .ok (.return_, 1) := by decide +kernel
theorem dX4_feed_0 : decode cX4_feed 0 = .ok (.iload_n 1, 1) := by decide +kernel
theorem dX4_feed_1 : decode cX4_feed 1 = .ok (.ifCond .ge 10, 3) := by decide +kernel
theorem dX4_feed_4 : decode cX4_feed 4 = .ok (.aload_n 0, 1) := by decide +kernel
theorem dX4_feed_5 : decode cX4_feed 5 = .ok (.bipush (-4), 2) := by decide +kernel
theorem dX4_feed_7 : decode cX4_feed 7 = .ok (.invokevirtual 50, 3) := by decide +kernel
theorem dX4_feed_10 : decode cX4_feed 10 = .ok (.ireturn, 1) := by decide +kernel
theorem dX4_feed_11 : decode cX4_feed 11 = .ok (.iload_n 1, 1) := by decide +kernel
theorem dX4_feed_12 : decode cX4_feed 12 = .ok (.sipush 255, 3) := by decide +kernel
theorem dX4_feed_15 : decode cX4_feed 15 = .ok (.if_icmp .gt 15, 3) := by decide +kernel
theorem dX4_feed_18 : decode cX4_feed 18 = .ok (.aload_n 0, 1) := by decide +kernel
theorem dX4_feed_19 : decode cX4_feed 19 = .ok (.getfield 39, 3) := by decide +kernel
theorem dX4_feed_22 : decode cX4_feed 22 = .ok (.getfield 54, 3) := by decide +kernel
theorem dX4_feed_25 : decode cX4_feed 25 = .ok (.bipush 96, 2) := by decide +kernel
theorem dX4_feed_27 : decode cX4_feed 27 = .ok (.if_icmp .lt 10, 3) := by decide +kernel
theorem dX4_feed_30 : decode cX4_feed 30 = .ok (.aload_n 0, 1) := by decide +kernel
theorem dX4_feed_31 : decode cX4_feed 31 = .ok (.bipush (-6), 2) := by decide +kernel
theorem dX4_feed_33 : decode cX4_feed 33 = .ok (.invokevirtual 50, 3) := by decide +kernel
theorem dX4_feed_36 : decode cX4_feed 36 = .ok (.ireturn, 1) := by decide +kernel
theorem dX4_feed_37 : decode cX4_feed 37 = .ok (.aload_n 0, 1) := by decide +kernel
theorem dX4_feed_38 : decode cX4_feed 38 = .ok (.getfield 39, 3) := by decide +kernel
theorem dX4_feed_41 : decode cX4_feed 41 = .ok (.iload_n 1, 1) := by decide +kernel
theorem dX4_feed_42 : decode cX4_feed 42 = .ok (.invokevirtual 58, 3) := by decide +kernel
theorem dX4_feed_45 : decode cX4_feed 45 = .ok (.ireturn, 1) := by decide +kernel
theorem dX4_family_0 : decode cX4_family 0 = .ok (.aload_n 0, 1) := by decide +kernel
theorem dX4_family_1 : decode cX4_family 1 = .ok (.getfield 39, 3) := by decide +kernel
theorem dX4_family_4 : decode cX4_family 4 = .ok (.invokevirtual 61, 3) := by decide +kernel
theorem dX4_family_7 : decode cX4_family 7 = .ok (.istore_n 1, 1) := by decide +kernel
theorem dX4_family_8 : decode cX4_family 8 = .ok (.iload_n 1, 1) := by decide +kernel
theorem dX4_family_9 : decode cX4_family 9 = .ok (.ifCond .lt 17, 3) := by decide +kernel
theorem dX4_family_12 : decode cX4_family 12 = .ok (.aload_n 0, 1) := by decide +kernel
theorem dX4_family_13 : decode cX4_family 13 = .ok (.getfield 39, 3) := by decide +kernel
theorem dX4_family_16 : decode cX4_family 16 = .ok (.iconst 0, 1) := by decide +kernel
theorem dX4_family_17 : decode cX4_family 17 = .ok (.putfield 54, 3) := by decide +kernel
theorem dX4_family_20 : decode cX4_family 20 = .ok (.sipush (-1000), 3) := by decide +kernel
theorem dX4_family_23 : decode cX4_family 23 = .ok (.iload_n 1, 1) := by decide +kernel
theorem dX4_family_24 : decode cX4_family 24 = .ok (.isub, 1) := by decide +kernel
theorem dX4_family_25 : decode cX4_family 25 = .ok (.ireturn, 1) := by decide +kernel
theorem dX4_family_26 : decode cX4_family 26 = .ok (.aload_n 0, 1) := by decide +kernel
theorem dX4_family_27 : decode cX4_family 27 = .ok (.getfield 16, 3) := by decide +kernel
theorem dX4_family_30 : decode cX4_family 30 = .ok (.aload_n 0, 1) := by decide +kernel
theorem dX4_family_31 : decode cX4_family 31 = .ok (.getfield 12, 3) := by decide +kernel
theorem dX4_family_34 : decode cX4_family 34 = .ok (.invokevirtual 65, 3) := by decide +kernel
theorem dX4_family_37 : decode cX4_family 37 = .ok (.iconst 0, 1) := by decide +kernel
theorem dX4_family_38 : decode cX4_family 38 = .ok (.istore_n 2, 1) := by decide +kernel
theorem dX4_family_39 : decode cX4_family 39 = .ok (.iconst 0, 1) := by decide +kernel
theorem dX4_family_40 : decode cX4_family 40 = .ok (.istore_n 3, 1) := by decide +kernel
theorem dX4_family_41 : decode cX4_family 41 = .ok (.iload_n 2, 1) := by decide +kernel
theorem dX4_family_42 : decode cX4_family 42 = .ok (.aload_n 0, 1) := by decide +kernel
theorem dX4_family_43 : decode cX4_family 43 = .ok (.getfield 39, 3) := by decide +kernel
theorem dX4_family_46 : decode cX4_family 46 = .ok (.getfield 54, 3) := by decide +kernel
theorem dX4_family_49 : decode cX4_family 49 = .ok (.if_icmp .ge 53, 3) := by decide +kernel
theorem dX4_family_52 : decode cX4_family 52 = .ok (.iload_n 3, 1) := by decide +kernel
theorem dX4_family_53 : decode cX4_family 53 = .ok (.bipush 96, 2) := by decide +kernel
theorem dX4_family_55 : decode cX4_family 55 = .ok (.if_icmp .ge 47, 3) := by decide +kernel
theorem dX4_family_58 : decode cX4_family 58 = .ok (.aload_n 0, 1) := by decide +kernel
theorem dX4_family_59 : decode cX4_family 59 = .ok (.getfield 39, 3) := by decide +kernel
theorem dX4_family_62 : decode cX4_family 62 = .ok (.iload_n 2, 1) := by decide +kernel
theorem dX4_family_63 : decode cX4_family 63 = .ok (.aload_n 0, 1) := by decide +kernel
theorem dX4_family_64 : decode cX4_family 64 = .ok (.getfield 16, 3) := by decide +kernel
theorem dX4_family_67 : decode cX4_family 67 = .ok (.invokevirtual 69, 3) := by decide +kernel
theorem dX4_family_70 : decode cX4_family 70 = .ok (.ifCond .ne 17, 3) := by decide +kernel
theorem dX4_family_73 : decode cX4_family 73 = .ok (.aload_n 0, 1) := by decide +kernel
theorem dX4_family_74 : decode cX4_family 74 = .ok (.getfield 39, 3) := by decide +kernel
theorem dX4_family_77 : decode cX4_family 77 = .ok (.iconst 0, 1) := by decide +kernel
theorem dX4_family_78 : decode cX4_family 78 = .ok (.putfield 54, 3) := by decide +kernel
theorem dX4_family_81 : decode cX4_family 81 = .ok (.sipush (-2000), 3) := by decide +kernel
theorem dX4_family_84 : decode cX4_family 84 = .ok (.iload_n 2, 1) := by decide +kernel
theorem dX4_family_85 : decode cX4_family 85 = .ok (.isub, 1) := by decide +kernel
theorem dX4_family_86 : decode cX4_family 86 = .ok (.ireturn, 1) := by decide +kernel
theorem dX4_family_87 : decode cX4_family 87 = .ok (.aload_n 0, 1) := by decide +kernel
theorem dX4_family_88 : decode cX4_family 88 = .ok (.getfield 39, 3) := by decide +kernel
theorem dX4_family_91 : decode cX4_family 91 = .ok (.iload_n 2, 1) := by decide +kernel
theorem dX4_family_92 : decode cX4_family 92 = .ok (.invokevirtual 73, 3) := by decide +kernel
theorem dX4_family_95 : decode cX4_family 95 = .ok (.istore_n 2, 1) := by decide +kernel
theorem dX4_family_96 : decode cX4_family 96 = .ok (.iinc 3 1, 3) := by decide +kernel
theorem dX4_family_99 : decode cX4_family 99 = .ok (.goto (-58), 3) := by decide +kernel
theorem dX4_family_102 : decode cX4_family 102 = .ok (.aload_n 0, 1) := by decide +kernel
theorem dX4_family_103 : decode cX4_family 103 = .ok (.getfield 39, 3) := by decide +kernel
theorem dX4_family_106 : decode cX4_family 106 = .ok (.iconst 0, 1) := by decide +kernel
theorem dX4_family_107 : decode cX4_family 107 = .ok (.putfield 54, 3) := by decide +kernel
theorem dX4_family_110 : decode cX4_family 110 = .ok (.aload_n 0, 1) := by decide +kernel
theorem dX4_family_111 : decode cX4_family 111 = .ok (.getfield 12, 3) := by decide +kernel
theorem dX4_family_114 : decode cX4_family 114 = .ok (.aload_n 0, 1) := by decide +kernel
theorem dX4_family_115 : decode cX4_family 115 = .ok (.getfield 16, 3) := by decide +kernel
theorem dX4_family_118 : decode cX4_family 118 = .ok (.invokevirtual 65, 3) := by decide +kernel
theorem dX4_family_121 : decode cX4_family 121 = .ok (.aload_n 0, 1) := by decide +kernel
theorem dX4_family_122 : decode cX4_family 122 = .ok (.getfield 32, 3) := by decide +kernel
theorem dX4_family_125 : decode cX4_family 125 = .ok (.invokevirtual 76, 3) := by decide +kernel
theorem dX4_family_128 : decode cX4_family 128 = .ok (.iload_n 3, 1) := by decide +kernel
theorem dX4_family_129 : decode cX4_family 129 = .ok (.ireturn, 1) := by decide +kernel
theorem dX4_person_0 : decode cX4_person 0 = .ok (.aload_n 0, 1) := by decide +kernel
theorem dX4_person_1 : decode cX4_person 1 = .ok (.iload_n 1, 1) := by decide +kernel
theorem dX4_person_2 : decode cX4_person 2 = .ok (.invokevirtual 79, 3) := by decide +kernel
theorem dX4_person_5 : decode cX4_person 5 = .ok (.ifCond .eq 9, 3) := by decide +kernel
theorem dX4_person_8 : decode cX4_person 8 = .ok (.aload_n 0, 1) := by decide +kernel
theorem dX4_person_9 : decode cX4_person 9 = .ok (.iconst (-1), 1) := by decide +kernel
theorem dX4_person_10 : decode cX4_person 10 = .ok (.invokevirtual 50, 3) := by decide +kernel
theorem dX4_person_13 : decode cX4_person 13 = .ok (.ireturn, 1) := by decide +kernel
theorem dX4_person_14 : decode cX4_person 14 = .ok (.iload_n 2, 1) := by decide +kernel
theorem dX4_person_15 : decode cX4_person 15 = .ok (.iconst 4, 1) := by decide +kernel
theorem dX4_person_16 : decode cX4_person 16 = .ok (.invokestatic 83, 3) := by decide +kernel
theorem dX4_person_19 : decode cX4_person 19 = .ok (.ifCond .eq 10, 3) := by decide +kernel
theorem dX4_person_22 : decode cX4_person 22 = .ok (.aload_n 0, 1) := by decide +kernel
theorem dX4_person_23 : decode cX4_person 23 = .ok (.bipush (-2), 2) := by decide +kernel
theorem dX4_person_25 : decode cX4_person 25 = .ok (.invokevirtual 50, 3) := by decide +kernel
theorem dX4_person_28 : decode cX4_person 28 = .ok (.ireturn, 1) := by decide +kernel
theorem dX4_person_29 : decode cX4_person 29 = .ok (.iload_n 2, 1) := by decide +kernel
theorem dX4_person_30 : decode cX4_person 30 = .ok (.tableswitch 63 0 2 #[26, 36, 46], 26) := by decide +kernel
theorem dX4_person_56 : decode cX4_person 56 = .ok (.aload_n 0, 1) := by decide +kernel
theorem dX4_person_57 : decode cX4_person 57 = .ok (.getfield 12, 3) := by decide +kernel
theorem dX4_person_60 : decode cX4_person 60 = .ok (.getfield 87, 3) := by decide +kernel
theorem dX4_person_63 : decode cX4_person 63 = .ok (.iload_n 1, 1) := by decide +kernel
theorem dX4_person_64 : decode cX4_person 64 = .ok (.iaload, 1) := by decide +kernel
theorem dX4_person_65 : decode cX4_person 65 = .ok (.ireturn, 1) := by decide +kernel
theorem dX4_person_66 : decode cX4_person 66 = .ok (.aload_n 0, 1) := by decide +kernel
theorem dX4_person_67 : decode cX4_person 67 = .ok (.getfield 12, 3) := by decide +kernel
theorem dX4_person_70 : decode cX4_person 70 = .ok (.getfield 90, 3) := by decide +kernel
theorem dX4_person_73 : decode cX4_person 73 = .ok (.iload_n 1, 1) := by decide +kernel
theorem dX4_person_74 : decode cX4_person 74 = .ok (.iaload, 1) := by decide +kernel
theorem dX4_person_75 : decode cX4_person 75 = .ok (.ireturn, 1) := by decide +kernel
theorem dX4_person_76 : decode cX4_person 76 = .ok (.aload_n 0, 1) := by decide +kernel
theorem dX4_person_77 : decode cX4_person 77 = .ok (.getfield 12, 3) := by decide +kernel
theorem dX4_person_80 : decode cX4_person 80 = .ok (.iload_n 1, 1) := by decide +kernel
theorem dX4_person_81 : decode cX4_person 81 = .ok (.invokevirtual 93, 3) := by decide +kernel
theorem dX4_person_84 : decode cX4_person 84 = .ok (.ifCond .eq 7, 3) := by decide +kernel
theorem dX4_person_87 : decode cX4_person 87 = .ok (.iconst 1, 1) := by decide +kernel
theorem dX4_person_88 : decode cX4_person 88 = .ok (.goto 4, 3) := by decide +kernel
theorem dX4_person_91 : decode cX4_person 91 = .ok (.iconst 0, 1) := by decide +kernel
theorem dX4_person_92 : decode cX4_person 92 = .ok (.ireturn, 1) := by decide +kernel
theorem dX4_person_93 : decode cX4_person 93 = .ok (.aload_n 0, 1) := by decide +kernel
theorem dX4_person_94 : decode cX4_person 94 = .ok (.getfield 12, 3) := by decide +kernel
theorem dX4_person_97 : decode cX4_person 97 = .ok (.getfield 96, 3) := by decide +kernel
theorem dX4_person_100 : decode cX4_person 100 = .ok (.iload_n 1, 1) := by decide +kernel
theorem dX4_person_101 : decode cX4_person 101 = .ok (.iaload, 1) := by decide +kernel
theorem dX4_person_102 : decode cX4_person 102 = .ok (.ireturn, 1) := by decide +kernel
theorem dX4_dead_0 : decode cX4_dead 0 = .ok (.aload_n 0, 1) := by decide +kernel
theorem dX4_dead_1 : decode cX4_dead 1 = .ok (.iload_n 1, 1) := by decide +kernel
theorem dX4_dead_2 : decode cX4_dead 2 = .ok (.invokevirtual 99, 3) := by decide +kernel
theorem dX4_dead_5 : decode cX4_dead 5 = .ok (.ifCond .eq 9, 3) := by decide +kernel
theorem dX4_dead_8 : decode cX4_dead 8 = .ok (.aload_n 0, 1) := by decide +kernel
theorem dX4_dead_9 : decode cX4_dead 9 = .ok (.iconst (-1), 1) := by decide +kernel
theorem dX4_dead_10 : decode cX4_dead 10 = .ok (.invokevirtual 50, 3) := by decide +kernel
theorem dX4_dead_13 : decode cX4_dead 13 = .ok (.ireturn, 1) := by decide +kernel
theorem dX4_dead_14 : decode cX4_dead 14 = .ok (.iload_n 2, 1) := by decide +kernel
theorem dX4_dead_15 : decode cX4_dead 15 = .ok (.iconst 3, 1) := by decide +kernel
theorem dX4_dead_16 : decode cX4_dead 16 = .ok (.invokestatic 83, 3) := by decide +kernel
theorem dX4_dead_19 : decode cX4_dead 19 = .ok (.ifCond .eq 10, 3) := by decide +kernel
theorem dX4_dead_22 : decode cX4_dead 22 = .ok (.aload_n 0, 1) := by decide +kernel
theorem dX4_dead_23 : decode cX4_dead 23 = .ok (.bipush (-2), 2) := by decide +kernel
theorem dX4_dead_25 : decode cX4_dead 25 = .ok (.invokevirtual 50, 3) := by decide +kernel
theorem dX4_dead_28 : decode cX4_dead 28 = .ok (.ireturn, 1) := by decide +kernel
theorem dX4_dead_29 : decode cX4_dead 29 = .ok (.iload_n 2, 1) := by decide +kernel
theorem dX4_dead_30 : decode cX4_dead 30 = .ok (.lookupswitch 46 #[(0, 26), (1, 36)], 26) := by decide +kernel
theorem dX4_dead_56 : decode cX4_dead 56 = .ok (.aload_n 0, 1) := by decide +kernel
theorem dX4_dead_57 : decode cX4_dead 57 = .ok (.getfield 12, 3) := by decide +kernel
theorem dX4_dead_60 : decode cX4_dead 60 = .ok (.getfield 102, 3) := by decide +kernel
theorem dX4_dead_63 : decode cX4_dead 63 = .ok (.iload_n 1, 1) := by decide +kernel
theorem dX4_dead_64 : decode cX4_dead 64 = .ok (.iaload, 1) := by decide +kernel
theorem dX4_dead_65 : decode cX4_dead 65 = .ok (.ireturn, 1) := by decide +kernel
theorem dX4_dead_66 : decode cX4_dead 66 = .ok (.aload_n 0, 1) := by decide +kernel
theorem dX4_dead_67 : decode cX4_dead 67 = .ok (.getfield 12, 3) := by decide +kernel
theorem dX4_dead_70 : decode cX4_dead 70 = .ok (.getfield 105, 3) := by decide +kernel
theorem dX4_dead_73 : decode cX4_dead 73 = .ok (.iload_n 1, 1) := by decide +kernel
theorem dX4_dead_74 : decode cX4_dead 74 = .ok (.iaload, 1) := by decide +kernel
theorem dX4_dead_75 : decode cX4_dead 75 = .ok (.ireturn, 1) := by decide +kernel
theorem dX4_dead_76 : decode cX4_dead 76 = .ok (.aload_n 0, 1) := by decide +kernel
theorem dX4_dead_77 : decode cX4_dead 77 = .ok (.getfield 12, 3) := by decide +kernel
theorem dX4_dead_80 : decode cX4_dead 80 = .ok (.getfield 108, 3) := by decide +kernel
theorem dX4_dead_83 : decode cX4_dead 83 = .ok (.iload_n 1, 1) := by decide +kernel
theorem dX4_dead_84 : decode cX4_dead 84 = .ok (.iaload, 1) := by decide +kernel
theorem dX4_dead_85 : decode cX4_dead 85 = .ok (.ireturn, 1) := by decide +kernel
theorem dX4_comes_0 : decode cX4_comes 0 = .ok (.iload_n 1, 1) := by decide +kernel
theorem dX4_comes_1 : decode cX4_comes 1 = .ok (.ifCond .ge 10, 3) := by decide +kernel
theorem dX4_comes_4 : decode cX4_comes 4 = .ok (.aload_n 0, 1) := by decide +kernel
theorem dX4_comes_5 : decode cX4_comes 5 = .ok (.bipush (-4), 2) := by decide +kernel
theorem dX4_comes_7 : decode cX4_comes 7 = .ok (.invokevirtual 50, 3) := by decide +kernel
theorem dX4_comes_10 : decode cX4_comes 10 = .ok (.ireturn, 1) := by decide +kernel
theorem dX4_comes_11 : decode cX4_comes 11 = .ok (.aload_n 0, 1) := by decide +kernel
theorem dX4_comes_12 : decode cX4_comes 12 = .ok (.getfield 12, 3) := by decide +kernel
theorem dX4_comes_15 : decode cX4_comes 15 = .ok (.iload_n 1, 1) := by decide +kernel
theorem dX4_comes_16 : decode cX4_comes 16 = .ok (.invokevirtual 111, 3) := by decide +kernel
theorem dX4_comes_19 : decode cX4_comes 19 = .ok (.ifCond .ne 10, 3) := by decide +kernel
theorem dX4_comes_22 : decode cX4_comes 22 = .ok (.aload_n 0, 1) := by decide +kernel
theorem dX4_comes_23 : decode cX4_comes 23 = .ok (.bipush (-6), 2) := by decide +kernel
theorem dX4_comes_25 : decode cX4_comes 25 = .ok (.invokevirtual 50, 3) := by decide +kernel
theorem dX4_comes_28 : decode cX4_comes 28 = .ok (.ireturn, 1) := by decide +kernel
theorem dX4_comes_29 : decode cX4_comes 29 = .ok (.aload_n 0, 1) := by decide +kernel
theorem dX4_comes_30 : decode cX4_comes 30 = .ok (.getfield 32, 3) := by decide +kernel
theorem dX4_comes_33 : decode cX4_comes 33 = .ok (.invokevirtual 76, 3) := by decide +kernel
theorem dX4_comes_36 : decode cX4_comes 36 = .ok (.aload_n 0, 1) := by decide +kernel
theorem dX4_comes_37 : decode cX4_comes 37 = .ok (.getfield 12, 3) := by decide +kernel
theorem dX4_comes_40 : decode cX4_comes 40 = .ok (.getfield 114, 3) := by decide +kernel
theorem dX4_comes_43 : decode cX4_comes 43 = .ok (.iconst 1, 1) := by decide +kernel
theorem dX4_comes_44 : decode cX4_comes 44 = .ok (.isub, 1) := by decide +kernel
theorem dX4_comes_45 : decode cX4_comes 45 = .ok (.ireturn, 1) := by decide +kernel
theorem dX4_dies_0 : decode cX4_dies 0 = .ok (.iload_n 1, 1) := by decide +kernel
theorem dX4_dies_1 : decode cX4_dies 1 = .ok (.ifCond .lt 9, 3) := by decide +kernel
theorem dX4_dies_4 : decode cX4_dies 4 = .ok (.iload_n 1, 1) := by decide +kernel
theorem dX4_dies_5 : decode cX4_dies 5 = .ok (.bipush 6, 2) := by decide +kernel
theorem dX4_dies_7 : decode cX4_dies 7 = .ok (.if_icmp .lt 10, 3) := by decide +kernel
theorem dX4_dies_10 : decode cX4_dies 10 = .ok (.aload_n 0, 1) := by decide +kernel
theorem dX4_dies_11 : decode cX4_dies 11 = .ok (.bipush (-2), 2) := by decide +kernel
theorem dX4_dies_13 : decode cX4_dies 13 = .ok (.invokevirtual 50, 3) := by decide +kernel
theorem dX4_dies_16 : decode cX4_dies 16 = .ok (.ireturn, 1) := by decide +kernel
theorem dX4_dies_17 : decode cX4_dies 17 = .ok (.iload_n 2, 1) := by decide +kernel
theorem dX4_dies_18 : decode cX4_dies 18 = .ok (.ifCond .lt 7, 3) := by decide +kernel
theorem dX4_dies_21 : decode cX4_dies 21 = .ok (.iload_n 3, 1) := by decide +kernel
theorem dX4_dies_22 : decode cX4_dies 22 = .ok (.ifCond .ge 10, 3) := by decide +kernel
theorem dX4_dies_25 : decode cX4_dies 25 = .ok (.aload_n 0, 1) := by decide +kernel
theorem dX4_dies_26 : decode cX4_dies 26 = .ok (.bipush (-4), 2) := by decide +kernel
theorem dX4_dies_28 : decode cX4_dies 28 = .ok (.invokevirtual 50, 3) := by decide +kernel
theorem dX4_dies_31 : decode cX4_dies 31 = .ok (.ireturn, 1) := by decide +kernel
theorem dX4_dies_32 : decode cX4_dies 32 = .ok (.aload_n 0, 1) := by decide +kernel
theorem dX4_dies_33 : decode cX4_dies 33 = .ok (.getfield 12, 3) := by decide +kernel
theorem dX4_dies_36 : decode cX4_dies 36 = .ok (.iload_n 1, 1) := by decide +kernel
theorem dX4_dies_37 : decode cX4_dies 37 = .ok (.iload_n 2, 1) := by decide +kernel
theorem dX4_dies_38 : decode cX4_dies 38 = .ok (.iload_n 3, 1) := by decide +kernel
theorem dX4_dies_39 : decode cX4_dies 39 = .ok (.invokevirtual 117, 3) := by decide +kernel
theorem dX4_dies_42 : decode cX4_dies 42 = .ok (.ifCond .ne 10, 3) := by decide +kernel
theorem dX4_dies_45 : decode cX4_dies 45 = .ok (.aload_n 0, 1) := by decide +kernel
theorem dX4_dies_46 : decode cX4_dies 46 = .ok (.bipush (-6), 2) := by decide +kernel
theorem dX4_dies_48 : decode cX4_dies 48 = .ok (.invokevirtual 50, 3) := by decide +kernel
theorem dX4_dies_51 : decode cX4_dies 51 = .ok (.ireturn, 1) := by decide +kernel
theorem dX4_dies_52 : decode cX4_dies 52 = .ok (.aload_n 0, 1) := by decide +kernel
theorem dX4_dies_53 : decode cX4_dies 53 = .ok (.getfield 32, 3) := by decide +kernel
theorem dX4_dies_56 : decode cX4_dies 56 = .ok (.invokevirtual 76, 3) := by decide +kernel
theorem dX4_dies_59 : decode cX4_dies 59 = .ok (.aload_n 0, 1) := by decide +kernel
theorem dX4_dies_60 : decode cX4_dies 60 = .ok (.getfield 12, 3) := by decide +kernel
theorem dX4_dies_63 : decode cX4_dies 63 = .ok (.getfield 121, 3) := by decide +kernel
theorem dX4_dies_66 : decode cX4_dies 66 = .ok (.iconst 1, 1) := by decide +kernel
theorem dX4_dies_67 : decode cX4_dies 67 = .ok (.isub, 1) := by decide +kernel
theorem dX4_dies_68 : decode cX4_dies 68 = .ok (.ireturn, 1) := by decide +kernel
theorem dX4_open_0 : decode cX4_open 0 = .ok (.aload_n 0, 1) := by decide +kernel
theorem dX4_open_1 : decode cX4_open 1 = .ok (.iload_n 1, 1) := by decide +kernel
theorem dX4_open_2 : decode cX4_open 2 = .ok (.invokevirtual 79, 3) := by decide +kernel
theorem dX4_open_5 : decode cX4_open 5 = .ok (.ifCond .ne 10, 3) := by decide +kernel
theorem dX4_open_8 : decode cX4_open 8 = .ok (.iload_n 2, 1) := by decide +kernel
theorem dX4_open_9 : decode cX4_open 9 = .ok (.invokestatic 124, 3) := by decide +kernel
theorem dX4_open_12 : decode cX4_open 12 = .ok (.ifCond .eq 9, 3) := by decide +kernel
theorem dX4_open_15 : decode cX4_open 15 = .ok (.aload_n 0, 1) := by decide +kernel
theorem dX4_open_16 : decode cX4_open 16 = .ok (.iconst (-1), 1) := by decide +kernel
theorem dX4_open_17 : decode cX4_open 17 = .ok (.invokevirtual 50, 3) := by decide +kernel
theorem dX4_open_20 : decode cX4_open 20 = .ok (.ireturn, 1) := by decide +kernel
theorem dX4_open_21 : decode cX4_open 21 = .ok (.aload_n 0, 1) := by decide +kernel
theorem dX4_open_22 : decode cX4_open 22 = .ok (.getfield 12, 3) := by decide +kernel
theorem dX4_open_25 : decode cX4_open 25 = .ok (.iload_n 1, 1) := by decide +kernel
theorem dX4_open_26 : decode cX4_open 26 = .ok (.iload_n 2, 1) := by decide +kernel
theorem dX4_open_27 : decode cX4_open 27 = .ok (.invokevirtual 127, 3) := by decide +kernel
theorem dX4_open_30 : decode cX4_open 30 = .ok (.aload_n 0, 1) := by decide +kernel
theorem dX4_open_31 : decode cX4_open 31 = .ok (.getfield 32, 3) := by decide +kernel
theorem dX4_open_34 : decode cX4_open 34 = .ok (.iconst 0, 1) := by decide +kernel
theorem dX4_open_35 : decode cX4_open 35 = .ok (.iload_n 1, 1) := by decide +kernel
theorem dX4_open_36 : decode cX4_open 36 = .ok (.iload_n 2, 1) := by decide +kernel
theorem dX4_open_37 : decode cX4_open 37 = .ok (.invokevirtual 131, 3) := by decide +kernel
theorem dX4_open_40 : decode cX4_open 40 = .ok (.aload_n 0, 1) := by decide +kernel
theorem dX4_open_41 : decode cX4_open 41 = .ok (.getfield 12, 3) := by decide +kernel
theorem dX4_open_44 : decode cX4_open 44 = .ok (.iload_n 1, 1) := by decide +kernel
theorem dX4_open_45 : decode cX4_open 45 = .ok (.iload_n 2, 1) := by decide +kernel
theorem dX4_open_46 : decode cX4_open 46 = .ok (.invokevirtual 134, 3) := by decide +kernel
theorem dX4_open_49 : decode cX4_open 49 = .ok (.ifCond .eq 7, 3) := by decide +kernel
theorem dX4_open_52 : decode cX4_open 52 = .ok (.iconst 1, 1) := by decide +kernel
theorem dX4_open_53 : decode cX4_open 53 = .ok (.goto 4, 3) := by decide +kernel
theorem dX4_open_56 : decode cX4_open 56 = .ok (.iconst 0, 1) := by decide +kernel
theorem dX4_open_57 : decode cX4_open 57 = .ok (.ireturn, 1) := by decide +kernel
theorem dX4_shut_0 : decode cX4_shut 0 = .ok (.aload_n 0, 1) := by decide +kernel
theorem dX4_shut_1 : decode cX4_shut 1 = .ok (.iload_n 1, 1) := by decide +kernel
theorem dX4_shut_2 : decode cX4_shut 2 = .ok (.invokevirtual 79, 3) := by decide +kernel
theorem dX4_shut_5 : decode cX4_shut 5 = .ok (.ifCond .eq 9, 3) := by decide +kernel
theorem dX4_shut_8 : decode cX4_shut 8 = .ok (.aload_n 0, 1) := by decide +kernel
theorem dX4_shut_9 : decode cX4_shut 9 = .ok (.iconst (-1), 1) := by decide +kernel
theorem dX4_shut_10 : decode cX4_shut 10 = .ok (.invokevirtual 50, 3) := by decide +kernel
theorem dX4_shut_13 : decode cX4_shut 13 = .ok (.ireturn, 1) := by decide +kernel
theorem dX4_shut_14 : decode cX4_shut 14 = .ok (.aload_n 0, 1) := by decide +kernel
theorem dX4_shut_15 : decode cX4_shut 15 = .ok (.getfield 12, 3) := by decide +kernel
theorem dX4_shut_18 : decode cX4_shut 18 = .ok (.iload_n 1, 1) := by decide +kernel
theorem dX4_shut_19 : decode cX4_shut 19 = .ok (.invokevirtual 137, 3) := by decide +kernel
theorem dX4_shut_22 : decode cX4_shut 22 = .ok (.pop, 1) := by decide +kernel
theorem dX4_shut_23 : decode cX4_shut 23 = .ok (.aload_n 0, 1) := by decide +kernel
theorem dX4_shut_24 : decode cX4_shut 24 = .ok (.getfield 32, 3) := by decide +kernel
theorem dX4_shut_27 : decode cX4_shut 27 = .ok (.iconst 1, 1) := by decide +kernel
theorem dX4_shut_28 : decode cX4_shut 28 = .ok (.iload_n 1, 1) := by decide +kernel
theorem dX4_shut_29 : decode cX4_shut 29 = .ok (.iconst 0, 1) := by decide +kernel
theorem dX4_shut_30 : decode cX4_shut 30 = .ok (.invokevirtual 131, 3) := by decide +kernel
theorem dX4_shut_33 : decode cX4_shut 33 = .ok (.aload_n 0, 1) := by decide +kernel
theorem dX4_shut_34 : decode cX4_shut 34 = .ok (.getfield 12, 3) := by decide +kernel
theorem dX4_shut_37 : decode cX4_shut 37 = .ok (.iload_n 1, 1) := by decide +kernel
theorem dX4_shut_38 : decode cX4_shut 38 = .ok (.invokevirtual 93, 3) := by decide +kernel
theorem dX4_shut_41 : decode cX4_shut 41 = .ok (.ifCond .eq 7, 3) := by decide +kernel
theorem dX4_shut_44 : decode cX4_shut 44 = .ok (.iconst 1, 1) := by decide +kernel
theorem dX4_shut_45 : decode cX4_shut 45 = .ok (.goto 4, 3) := by decide +kernel
theorem dX4_shut_48 : decode cX4_shut 48 = .ok (.iconst 0, 1) := by decide +kernel
theorem dX4_shut_49 : decode cX4_shut 49 = .ok (.ireturn, 1) := by decide +kernel
theorem dX4_kin_0 : decode cX4_kin 0 = .ok (.aload_n 0, 1) := by decide +kernel
theorem dX4_kin_1 : decode cX4_kin 1 = .ok (.iload_n 1, 1) := by decide +kernel
theorem dX4_kin_2 : decode cX4_kin 2 = .ok (.invokevirtual 79, 3) := by decide +kernel
theorem dX4_kin_5 : decode cX4_kin 5 = .ok (.ifCond .ne 11, 3) := by decide +kernel
theorem dX4_kin_8 : decode cX4_kin 8 = .ok (.aload_n 0, 1) := by decide +kernel
theorem dX4_kin_9 : decode cX4_kin 9 = .ok (.iload_n 2, 1) := by decide +kernel
theorem dX4_kin_10 : decode cX4_kin 10 = .ok (.invokevirtual 99, 3) := by decide +kernel
theorem dX4_kin_13 : decode cX4_kin 13 = .ok (.ifCond .eq 9, 3) := by decide +kernel
theorem dX4_kin_16 : decode cX4_kin 16 = .ok (.aload_n 0, 1) := by decide +kernel
theorem dX4_kin_17 : decode cX4_kin 17 = .ok (.iconst (-1), 1) := by decide +kernel
theorem dX4_kin_18 : decode cX4_kin 18 = .ok (.invokevirtual 50, 3) := by decide +kernel
theorem dX4_kin_21 : decode cX4_kin 21 = .ok (.ireturn, 1) := by decide +kernel
theorem dX4_kin_22 : decode cX4_kin 22 = .ok (.aload_n 0, 1) := by decide +kernel
theorem dX4_kin_23 : decode cX4_kin 23 = .ok (.getfield 12, 3) := by decide +kernel
theorem dX4_kin_26 : decode cX4_kin 26 = .ok (.iload_n 1, 1) := by decide +kernel
theorem dX4_kin_27 : decode cX4_kin 27 = .ok (.iload_n 2, 1) := by decide +kernel
theorem dX4_kin_28 : decode cX4_kin 28 = .ok (.invokevirtual 140, 3) := by decide +kernel
theorem dX4_kin_31 : decode cX4_kin 31 = .ok (.aload_n 0, 1) := by decide +kernel
theorem dX4_kin_32 : decode cX4_kin 32 = .ok (.getfield 32, 3) := by decide +kernel
theorem dX4_kin_35 : decode cX4_kin 35 = .ok (.iconst 2, 1) := by decide +kernel
theorem dX4_kin_36 : decode cX4_kin 36 = .ok (.iload_n 1, 1) := by decide +kernel
theorem dX4_kin_37 : decode cX4_kin 37 = .ok (.iload_n 2, 1) := by decide +kernel
theorem dX4_kin_38 : decode cX4_kin 38 = .ok (.invokevirtual 131, 3) := by decide +kernel
theorem dX4_kin_41 : decode cX4_kin 41 = .ok (.aload_n 0, 1) := by decide +kernel
theorem dX4_kin_42 : decode cX4_kin 42 = .ok (.getfield 12, 3) := by decide +kernel
theorem dX4_kin_45 : decode cX4_kin 45 = .ok (.iload_n 1, 1) := by decide +kernel
theorem dX4_kin_46 : decode cX4_kin 46 = .ok (.iload_n 2, 1) := by decide +kernel
theorem dX4_kin_47 : decode cX4_kin 47 = .ok (.invokevirtual 143, 3) := by decide +kernel
theorem dX4_kin_50 : decode cX4_kin 50 = .ok (.ifCond .eq 7, 3) := by decide +kernel
theorem dX4_kin_53 : decode cX4_kin 53 = .ok (.iconst 1, 1) := by decide +kernel
theorem dX4_kin_54 : decode cX4_kin 54 = .ok (.goto 4, 3) := by decide +kernel
theorem dX4_kin_57 : decode cX4_kin 57 = .ok (.iconst 0, 1) := by decide +kernel
theorem dX4_kin_58 : decode cX4_kin 58 = .ok (.ireturn, 1) := by decide +kernel
theorem dX4_leans_0 : decode cX4_leans 0 = .ok (.aload_n 0, 1) := by decide +kernel
theorem dX4_leans_1 : decode cX4_leans 1 = .ok (.iload_n 1, 1) := by decide +kernel
theorem dX4_leans_2 : decode cX4_leans 2 = .ok (.invokevirtual 99, 3) := by decide +kernel
theorem dX4_leans_5 : decode cX4_leans 5 = .ok (.ifCond .eq 9, 3) := by decide +kernel
theorem dX4_leans_8 : decode cX4_leans 8 = .ok (.aload_n 0, 1) := by decide +kernel
theorem dX4_leans_9 : decode cX4_leans 9 = .ok (.iconst (-1), 1) := by decide +kernel
theorem dX4_leans_10 : decode cX4_leans 10 = .ok (.invokevirtual 50, 3) := by decide +kernel
theorem dX4_leans_13 : decode cX4_leans 13 = .ok (.ireturn, 1) := by decide +kernel
theorem dX4_leans_14 : decode cX4_leans 14 = .ok (.iload_n 2, 1) := by decide +kernel
theorem dX4_leans_15 : decode cX4_leans 15 = .ok (.ifCond .ge 10, 3) := by decide +kernel
theorem dX4_leans_18 : decode cX4_leans 18 = .ok (.aload_n 0, 1) := by decide +kernel
theorem dX4_leans_19 : decode cX4_leans 19 = .ok (.bipush (-4), 2) := by decide +kernel
theorem dX4_leans_21 : decode cX4_leans 21 = .ok (.invokevirtual 50, 3) := by decide +kernel
theorem dX4_leans_24 : decode cX4_leans 24 = .ok (.ireturn, 1) := by decide +kernel
theorem dX4_leans_25 : decode cX4_leans 25 = .ok (.iload_n 2, 1) := by decide +kernel
theorem dX4_leans_26 : decode cX4_leans 26 = .ok (.bipush 10, 2) := by decide +kernel
theorem dX4_leans_28 : decode cX4_leans 28 = .ok (.if_icmp .lt 10, 3) := by decide +kernel
theorem dX4_leans_31 : decode cX4_leans 31 = .ok (.aload_n 0, 1) := by decide +kernel
theorem dX4_leans_32 : decode cX4_leans 32 = .ok (.bipush (-6), 2) := by decide +kernel
theorem dX4_leans_34 : decode cX4_leans 34 = .ok (.invokevirtual 50, 3) := by decide +kernel
theorem dX4_leans_37 : decode cX4_leans 37 = .ok (.ireturn, 1) := by decide +kernel
theorem dX4_leans_38 : decode cX4_leans 38 = .ok (.aload_n 0, 1) := by decide +kernel
theorem dX4_leans_39 : decode cX4_leans 39 = .ok (.getfield 12, 3) := by decide +kernel
theorem dX4_leans_42 : decode cX4_leans 42 = .ok (.getfield 105, 3) := by decide +kernel
theorem dX4_leans_45 : decode cX4_leans 45 = .ok (.iload_n 1, 1) := by decide +kernel
theorem dX4_leans_46 : decode cX4_leans 46 = .ok (.iaload, 1) := by decide +kernel
theorem dX4_leans_47 : decode cX4_leans 47 = .ok (.istore_n 3, 1) := by decide +kernel
theorem dX4_leans_48 : decode cX4_leans 48 = .ok (.aload_n 0, 1) := by decide +kernel
theorem dX4_leans_49 : decode cX4_leans 49 = .ok (.getfield 12, 3) := by decide +kernel
theorem dX4_leans_52 : decode cX4_leans 52 = .ok (.getfield 105, 3) := by decide +kernel
theorem dX4_leans_55 : decode cX4_leans 55 = .ok (.iload_n 1, 1) := by decide +kernel
theorem dX4_leans_56 : decode cX4_leans 56 = .ok (.iload_n 2, 1) := by decide +kernel
theorem dX4_leans_57 : decode cX4_leans 57 = .ok (.iastore, 1) := by decide +kernel
theorem dX4_leans_58 : decode cX4_leans 58 = .ok (.aload_n 0, 1) := by decide +kernel
theorem dX4_leans_59 : decode cX4_leans 59 = .ok (.getfield 32, 3) := by decide +kernel
theorem dX4_leans_62 : decode cX4_leans 62 = .ok (.iconst 3, 1) := by decide +kernel
theorem dX4_leans_63 : decode cX4_leans 63 = .ok (.iload_n 1, 1) := by decide +kernel
theorem dX4_leans_64 : decode cX4_leans 64 = .ok (.iload_n 3, 1) := by decide +kernel
theorem dX4_leans_65 : decode cX4_leans 65 = .ok (.invokevirtual 131, 3) := by decide +kernel
theorem dX4_leans_68 : decode cX4_leans 68 = .ok (.iload_n 3, 1) := by decide +kernel
theorem dX4_leans_69 : decode cX4_leans 69 = .ok (.ireturn, 1) := by decide +kernel
theorem dX4_learns_0 : decode cX4_learns 0 = .ok (.aload_n 0, 1) := by decide +kernel
theorem dX4_learns_1 : decode cX4_learns 1 = .ok (.iload_n 1, 1) := by decide +kernel
theorem dX4_learns_2 : decode cX4_learns 2 = .ok (.invokevirtual 79, 3) := by decide +kernel
theorem dX4_learns_5 : decode cX4_learns 5 = .ok (.ifCond .ne 10, 3) := by decide +kernel
theorem dX4_learns_8 : decode cX4_learns 8 = .ok (.iload_n 2, 1) := by decide +kernel
theorem dX4_learns_9 : decode cX4_learns 9 = .ok (.invokestatic 146, 3) := by decide +kernel
theorem dX4_learns_12 : decode cX4_learns 12 = .ok (.ifCond .eq 9, 3) := by decide +kernel
theorem dX4_learns_15 : decode cX4_learns 15 = .ok (.aload_n 0, 1) := by decide +kernel
theorem dX4_learns_16 : decode cX4_learns 16 = .ok (.iconst (-1), 1) := by decide +kernel
theorem dX4_learns_17 : decode cX4_learns 17 = .ok (.invokevirtual 50, 3) := by decide +kernel
theorem dX4_learns_20 : decode cX4_learns 20 = .ok (.ireturn, 1) := by decide +kernel
theorem dX4_learns_21 : decode cX4_learns 21 = .ok (.aload_n 0, 1) := by decide +kernel
theorem dX4_learns_22 : decode cX4_learns 22 = .ok (.getfield 12, 3) := by decide +kernel
theorem dX4_learns_25 : decode cX4_learns 25 = .ok (.iload_n 1, 1) := by decide +kernel
theorem dX4_learns_26 : decode cX4_learns 26 = .ok (.iload_n 2, 1) := by decide +kernel
theorem dX4_learns_27 : decode cX4_learns 27 = .ok (.invokevirtual 149, 3) := by decide +kernel
theorem dX4_learns_30 : decode cX4_learns 30 = .ok (.istore_n 3, 1) := by decide +kernel
theorem dX4_learns_31 : decode cX4_learns 31 = .ok (.aload_n 0, 1) := by decide +kernel
theorem dX4_learns_32 : decode cX4_learns 32 = .ok (.getfield 12, 3) := by decide +kernel
theorem dX4_learns_35 : decode cX4_learns 35 = .ok (.iload_n 1, 1) := by decide +kernel
theorem dX4_learns_36 : decode cX4_learns 36 = .ok (.iload_n 2, 1) := by decide +kernel
theorem dX4_learns_37 : decode cX4_learns 37 = .ok (.invokevirtual 152, 3) := by decide +kernel
theorem dX4_learns_40 : decode cX4_learns 40 = .ok (.pop, 1) := by decide +kernel
theorem dX4_learns_41 : decode cX4_learns 41 = .ok (.aload_n 0, 1) := by decide +kernel
theorem dX4_learns_42 : decode cX4_learns 42 = .ok (.getfield 32, 3) := by decide +kernel
theorem dX4_learns_45 : decode cX4_learns 45 = .ok (.invokevirtual 76, 3) := by decide +kernel
theorem dX4_learns_48 : decode cX4_learns 48 = .ok (.iload_n 3, 1) := by decide +kernel
theorem dX4_learns_49 : decode cX4_learns 49 = .ok (.ifCond .eq 7, 3) := by decide +kernel
theorem dX4_learns_52 : decode cX4_learns 52 = .ok (.iconst 0, 1) := by decide +kernel
theorem dX4_learns_53 : decode cX4_learns 53 = .ok (.goto 4, 3) := by decide +kernel
theorem dX4_learns_56 : decode cX4_learns 56 = .ok (.iconst 1, 1) := by decide +kernel
theorem dX4_learns_57 : decode cX4_learns 57 = .ok (.ireturn, 1) := by decide +kernel
theorem dX4_passes_0 : decode cX4_passes 0 = .ok (.aload_n 0, 1) := by decide +kernel
theorem dX4_passes_1 : decode cX4_passes 1 = .ok (.getfield 12, 3) := by decide +kernel
theorem dX4_passes_4 : decode cX4_passes 4 = .ok (.invokevirtual 155, 3) := by decide +kernel
theorem dX4_passes_7 : decode cX4_passes 7 = .ok (.istore_n 1, 1) := by decide +kernel
theorem dX4_passes_8 : decode cX4_passes 8 = .ok (.aload_n 0, 1) := by decide +kernel
theorem dX4_passes_9 : decode cX4_passes 9 = .ok (.getfield 25, 3) := by decide +kernel
theorem dX4_passes_12 : decode cX4_passes 12 = .ok (.aload_n 0, 1) := by decide +kernel
theorem dX4_passes_13 : decode cX4_passes 13 = .ok (.getfield 12, 3) := by decide +kernel
theorem dX4_passes_16 : decode cX4_passes 16 = .ok (.invokevirtual 158, 3) := by decide +kernel
theorem dX4_passes_19 : decode cX4_passes 19 = .ok (.aload_n 0, 1) := by decide +kernel
theorem dX4_passes_20 : decode cX4_passes 20 = .ok (.getfield 25, 3) := by decide +kernel
theorem dX4_passes_23 : decode cX4_passes 23 = .ok (.aload_n 0, 1) := by decide +kernel
theorem dX4_passes_24 : decode cX4_passes 24 = .ok (.getfield 12, 3) := by decide +kernel
theorem dX4_passes_27 : decode cX4_passes 27 = .ok (.invokevirtual 161, 3) := by decide +kernel
theorem dX4_passes_30 : decode cX4_passes 30 = .ok (.aload_n 0, 1) := by decide +kernel
theorem dX4_passes_31 : decode cX4_passes 31 = .ok (.getfield 32, 3) := by decide +kernel
theorem dX4_passes_34 : decode cX4_passes 34 = .ok (.invokevirtual 76, 3) := by decide +kernel
theorem dX4_passes_37 : decode cX4_passes 37 = .ok (.aload_n 0, 1) := by decide +kernel
theorem dX4_passes_38 : decode cX4_passes 38 = .ok (.getfield 12, 3) := by decide +kernel
theorem dX4_passes_41 : decode cX4_passes 41 = .ok (.invokevirtual 155, 3) := by decide +kernel
theorem dX4_passes_44 : decode cX4_passes 44 = .ok (.iload_n 1, 1) := by decide +kernel
theorem dX4_passes_45 : decode cX4_passes 45 = .ok (.isub, 1) := by decide +kernel
theorem dX4_passes_46 : decode cX4_passes 46 = .ok (.ireturn, 1) := by decide +kernel
theorem dX4_back_0 : decode cX4_back 0 = .ok (.aload_n 0, 1) := by decide +kernel
theorem dX4_back_1 : decode cX4_back 1 = .ok (.getfield 32, 3) := by decide +kernel
theorem dX4_back_4 : decode cX4_back 4 = .ok (.getfield 164, 3) := by decide +kernel
theorem dX4_back_7 : decode cX4_back 7 = .ok (.ifCond .ne 10, 3) := by decide +kernel
theorem dX4_back_10 : decode cX4_back 10 = .ok (.aload_n 0, 1) := by decide +kernel
theorem dX4_back_11 : decode cX4_back 11 = .ok (.bipush (-3), 2) := by decide +kernel
theorem dX4_back_13 : decode cX4_back 13 = .ok (.invokevirtual 50, 3) := by decide +kernel
theorem dX4_back_16 : decode cX4_back 16 = .ok (.ireturn, 1) := by decide +kernel
theorem dX4_back_17 : decode cX4_back 17 = .ok (.aload_n 0, 1) := by decide +kernel
theorem dX4_back_18 : decode cX4_back 18 = .ok (.getfield 32, 3) := by decide +kernel
theorem dX4_back_21 : decode cX4_back 21 = .ok (.aload_n 0, 1) := by decide +kernel
theorem dX4_back_22 : decode cX4_back 22 = .ok (.getfield 12, 3) := by decide +kernel
theorem dX4_back_25 : decode cX4_back 25 = .ok (.invokevirtual 165, 3) := by decide +kernel
theorem dX4_back_28 : decode cX4_back 28 = .ok (.aload_n 0, 1) := by decide +kernel
theorem dX4_back_29 : decode cX4_back 29 = .ok (.getfield 32, 3) := by decide +kernel
theorem dX4_back_32 : decode cX4_back 32 = .ok (.getfield 164, 3) := by decide +kernel
theorem dX4_back_35 : decode cX4_back 35 = .ok (.ireturn, 1) := by decide +kernel
theorem dX4_knows_0 : decode cX4_knows 0 = .ok (.aload_n 0, 1) := by decide +kernel
theorem dX4_knows_1 : decode cX4_knows 1 = .ok (.iload_n 1, 1) := by decide +kernel
theorem dX4_knows_2 : decode cX4_knows 2 = .ok (.invokevirtual 79, 3) := by decide +kernel
theorem dX4_knows_5 : decode cX4_knows 5 = .ok (.ifCond .eq 9, 3) := by decide +kernel
theorem dX4_knows_8 : decode cX4_knows 8 = .ok (.aload_n 0, 1) := by decide +kernel
theorem dX4_knows_9 : decode cX4_knows 9 = .ok (.iconst (-1), 1) := by decide +kernel
theorem dX4_knows_10 : decode cX4_knows 10 = .ok (.invokevirtual 50, 3) := by decide +kernel
theorem dX4_knows_13 : decode cX4_knows 13 = .ok (.ireturn, 1) := by decide +kernel
theorem dX4_knows_14 : decode cX4_knows 14 = .ok (.iload_n 2, 1) := by decide +kernel
theorem dX4_knows_15 : decode cX4_knows 15 = .ok (.ifCond .ge 10, 3) := by decide +kernel
theorem dX4_knows_18 : decode cX4_knows 18 = .ok (.aload_n 0, 1) := by decide +kernel
theorem dX4_knows_19 : decode cX4_knows 19 = .ok (.bipush (-4), 2) := by decide +kernel
theorem dX4_knows_21 : decode cX4_knows 21 = .ok (.invokevirtual 50, 3) := by decide +kernel
theorem dX4_knows_24 : decode cX4_knows 24 = .ok (.ireturn, 1) := by decide +kernel
theorem dX4_knows_25 : decode cX4_knows 25 = .ok (.iload_n 2, 1) := by decide +kernel
theorem dX4_knows_26 : decode cX4_knows 26 = .ok (.bipush 24, 2) := by decide +kernel
theorem dX4_knows_28 : decode cX4_knows 28 = .ok (.if_icmp .le 10, 3) := by decide +kernel
theorem dX4_knows_31 : decode cX4_knows 31 = .ok (.aload_n 0, 1) := by decide +kernel
theorem dX4_knows_32 : decode cX4_knows 32 = .ok (.bipush (-6), 2) := by decide +kernel
theorem dX4_knows_34 : decode cX4_knows 34 = .ok (.invokevirtual 50, 3) := by decide +kernel
theorem dX4_knows_37 : decode cX4_knows 37 = .ok (.ireturn, 1) := by decide +kernel
theorem dX4_knows_38 : decode cX4_knows 38 = .ok (.aload_n 0, 1) := by decide +kernel
theorem dX4_knows_39 : decode cX4_knows 39 = .ok (.getfield 25, 3) := by decide +kernel
theorem dX4_knows_42 : decode cX4_knows 42 = .ok (.aload_n 0, 1) := by decide +kernel
theorem dX4_knows_43 : decode cX4_knows 43 = .ok (.getfield 12, 3) := by decide +kernel
theorem dX4_knows_46 : decode cX4_knows 46 = .ok (.invokevirtual 158, 3) := by decide +kernel
theorem dX4_knows_49 : decode cX4_knows 49 = .ok (.aload_n 0, 1) := by decide +kernel
theorem dX4_knows_50 : decode cX4_knows 50 = .ok (.getfield 25, 3) := by decide +kernel
theorem dX4_knows_53 : decode cX4_knows 53 = .ok (.iload_n 2, 1) := by decide +kernel
theorem dX4_knows_54 : decode cX4_knows 54 = .ok (.iload_n 1, 1) := by decide +kernel
theorem dX4_knows_55 : decode cX4_knows 55 = .ok (.invokevirtual 168, 3) := by decide +kernel
theorem dX4_knows_58 : decode cX4_knows 58 = .ok (.ireturn, 1) := by decide +kernel
theorem dX4_through_0 : decode cX4_through 0 = .ok (.aload_n 0, 1) := by decide +kernel
theorem dX4_through_1 : decode cX4_through 1 = .ok (.iload_n 1, 1) := by decide +kernel
theorem dX4_through_2 : decode cX4_through 2 = .ok (.invokevirtual 99, 3) := by decide +kernel
theorem dX4_through_5 : decode cX4_through 5 = .ok (.ifCond .ne 10, 3) := by decide +kernel
theorem dX4_through_8 : decode cX4_through 8 = .ok (.iload_n 2, 1) := by decide +kernel
theorem dX4_through_9 : decode cX4_through 9 = .ok (.invokestatic 124, 3) := by decide +kernel
theorem dX4_through_12 : decode cX4_through 12 = .ok (.ifCond .eq 9, 3) := by decide +kernel
theorem dX4_through_15 : decode cX4_through 15 = .ok (.aload_n 0, 1) := by decide +kernel
theorem dX4_through_16 : decode cX4_through 16 = .ok (.iconst (-1), 1) := by decide +kernel
theorem dX4_through_17 : decode cX4_through 17 = .ok (.invokevirtual 50, 3) := by decide +kernel
theorem dX4_through_20 : decode cX4_through 20 = .ok (.ireturn, 1) := by decide +kernel
theorem dX4_through_21 : decode cX4_through 21 = .ok (.aload_n 0, 1) := by decide +kernel
theorem dX4_through_22 : decode cX4_through 22 = .ok (.getfield 25, 3) := by decide +kernel
theorem dX4_through_25 : decode cX4_through 25 = .ok (.aload_n 0, 1) := by decide +kernel
theorem dX4_through_26 : decode cX4_through 26 = .ok (.getfield 12, 3) := by decide +kernel
theorem dX4_through_29 : decode cX4_through 29 = .ok (.invokevirtual 158, 3) := by decide +kernel
theorem dX4_through_32 : decode cX4_through 32 = .ok (.aload_n 0, 1) := by decide +kernel
theorem dX4_through_33 : decode cX4_through 33 = .ok (.getfield 25, 3) := by decide +kernel
theorem dX4_through_36 : decode cX4_through 36 = .ok (.iload_n 1, 1) := by decide +kernel
theorem dX4_through_37 : decode cX4_through 37 = .ok (.iload_n 2, 1) := by decide +kernel
theorem dX4_through_38 : decode cX4_through 38 = .ok (.invokevirtual 172, 3) := by decide +kernel
theorem dX4_through_41 : decode cX4_through 41 = .ok (.ireturn, 1) := by decide +kernel
theorem dX4_speak_0 : decode cX4_speak 0 = .ok (.iload_n 1, 1) := by decide +kernel
theorem dX4_speak_1 : decode cX4_speak 1 = .ok (.iconst (-1), 1) := by decide +kernel
theorem dX4_speak_2 : decode cX4_speak 2 = .ok (.if_icmp .eq 11, 3) := by decide +kernel
theorem dX4_speak_5 : decode cX4_speak 5 = .ok (.aload_n 0, 1) := by decide +kernel
theorem dX4_speak_6 : decode cX4_speak 6 = .ok (.iload_n 1, 1) := by decide +kernel
theorem dX4_speak_7 : decode cX4_speak 7 = .ok (.invokevirtual 79, 3) := by decide +kernel
theorem dX4_speak_10 : decode cX4_speak 10 = .ok (.ifCond .ne 10, 3) := by decide +kernel
theorem dX4_speak_13 : decode cX4_speak 13 = .ok (.iload_n 2, 1) := by decide +kernel
theorem dX4_speak_14 : decode cX4_speak 14 = .ok (.invokestatic 124, 3) := by decide +kernel
theorem dX4_speak_17 : decode cX4_speak 17 = .ok (.ifCond .eq 9, 3) := by decide +kernel
theorem dX4_speak_20 : decode cX4_speak 20 = .ok (.aload_n 0, 1) := by decide +kernel
theorem dX4_speak_21 : decode cX4_speak 21 = .ok (.iconst (-1), 1) := by decide +kernel
theorem dX4_speak_22 : decode cX4_speak 22 = .ok (.invokevirtual 50, 3) := by decide +kernel
theorem dX4_speak_25 : decode cX4_speak 25 = .ok (.ireturn, 1) := by decide +kernel
theorem dX4_speak_26 : decode cX4_speak 26 = .ok (.aload_n 0, 1) := by decide +kernel
theorem dX4_speak_27 : decode cX4_speak 27 = .ok (.getfield 25, 3) := by decide +kernel
theorem dX4_speak_30 : decode cX4_speak 30 = .ok (.aload_n 0, 1) := by decide +kernel
theorem dX4_speak_31 : decode cX4_speak 31 = .ok (.getfield 12, 3) := by decide +kernel
theorem dX4_speak_34 : decode cX4_speak 34 = .ok (.invokevirtual 158, 3) := by decide +kernel
theorem dX4_speak_37 : decode cX4_speak 37 = .ok (.iload_n 1, 1) := by decide +kernel
theorem dX4_speak_38 : decode cX4_speak 38 = .ok (.iconst (-1), 1) := by decide +kernel
theorem dX4_speak_39 : decode cX4_speak 39 = .ok (.if_icmp .ne 15, 3) := by decide +kernel
theorem dX4_speak_42 : decode cX4_speak 42 = .ok (.aload_n 0, 1) := by decide +kernel
theorem dX4_speak_43 : decode cX4_speak 43 = .ok (.getfield 25, 3) := by decide +kernel
theorem dX4_speak_46 : decode cX4_speak 46 = .ok (.iload_n 2, 1) := by decide +kernel
theorem dX4_speak_47 : decode cX4_speak 47 = .ok (.invokevirtual 175, 3) := by decide +kernel
theorem dX4_speak_50 : decode cX4_speak 50 = .ok (.invokestatic 178, 3) := by decide +kernel
theorem dX4_speak_53 : decode cX4_speak 53 = .ok (.ireturn, 1) := by decide +kernel
theorem dX4_speak_54 : decode cX4_speak 54 = .ok (.aload_n 0, 1) := by decide +kernel
theorem dX4_speak_55 : decode cX4_speak 55 = .ok (.getfield 25, 3) := by decide +kernel
theorem dX4_speak_58 : decode cX4_speak 58 = .ok (.iload_n 1, 1) := by decide +kernel
theorem dX4_speak_59 : decode cX4_speak 59 = .ok (.iload_n 2, 1) := by decide +kernel
theorem dX4_speak_60 : decode cX4_speak 60 = .ok (.invokevirtual 183, 3) := by decide +kernel
theorem dX4_speak_63 : decode cX4_speak 63 = .ok (.ireturn, 1) := by decide +kernel
theorem dX4_two_0 : decode cX4_two 0 = .ok (.iload_n 1, 1) := by decide +kernel
theorem dX4_two_1 : decode cX4_two 1 = .ok (.iconst 2, 1) := by decide +kernel
theorem dX4_two_2 : decode cX4_two 2 = .ok (.invokestatic 83, 3) := by decide +kernel
theorem dX4_two_5 : decode cX4_two 5 = .ok (.ifCond .eq 10, 3) := by decide +kernel
theorem dX4_two_8 : decode cX4_two 8 = .ok (.aload_n 0, 1) := by decide +kernel
theorem dX4_two_9 : decode cX4_two 9 = .ok (.bipush (-2), 2) := by decide +kernel
theorem dX4_two_11 : decode cX4_two 11 = .ok (.invokevirtual 50, 3) := by decide +kernel
theorem dX4_two_14 : decode cX4_two 14 = .ok (.ireturn, 1) := by decide +kernel
theorem dX4_two_15 : decode cX4_two 15 = .ok (.aload_n 0, 1) := by decide +kernel
theorem dX4_two_16 : decode cX4_two 16 = .ok (.getfield 25, 3) := by decide +kernel
theorem dX4_two_19 : decode cX4_two 19 = .ok (.aload_n 0, 1) := by decide +kernel
theorem dX4_two_20 : decode cX4_two 20 = .ok (.getfield 12, 3) := by decide +kernel
theorem dX4_two_23 : decode cX4_two 23 = .ok (.invokevirtual 158, 3) := by decide +kernel
theorem dX4_two_26 : decode cX4_two 26 = .ok (.bipush (-9), 2) := by decide +kernel
theorem dX4_two_28 : decode cX4_two 28 = .ok (.istore_n 2, 1) := by decide +kernel
theorem dX4_two_29 : decode cX4_two 29 = .ok (.iconst 0, 1) := by decide +kernel
theorem dX4_two_30 : decode cX4_two 30 = .ok (.istore_n 3, 1) := by decide +kernel
theorem dX4_two_31 : decode cX4_two 31 = .ok (.iconst 0, 1) := by decide +kernel
theorem dX4_two_32 : decode cX4_two 32 = .ok (.istore 4, 2) := by decide +kernel
theorem dX4_two_34 : decode cX4_two 34 = .ok (.iload 4, 2) := by decide +kernel
theorem dX4_two_36 : decode cX4_two 36 = .ok (.bipush 24, 2) := by decide +kernel
theorem dX4_two_38 : decode cX4_two 38 = .ok (.if_icmp .ge 31, 3) := by decide +kernel
theorem dX4_two_41 : decode cX4_two 41 = .ok (.aload_n 0, 1) := by decide +kernel
theorem dX4_two_42 : decode cX4_two 42 = .ok (.getfield 25, 3) := by decide +kernel
theorem dX4_two_45 : decode cX4_two 45 = .ok (.iload 4, 2) := by decide +kernel
theorem dX4_two_47 : decode cX4_two 47 = .ok (.invokevirtual 186, 3) := by decide +kernel
theorem dX4_two_50 : decode cX4_two 50 = .ok (.ifCond .eq 13, 3) := by decide +kernel
theorem dX4_two_53 : decode cX4_two 53 = .ok (.iinc 3 1, 3) := by decide +kernel
theorem dX4_two_56 : decode cX4_two 56 = .ok (.iload_n 2, 1) := by decide +kernel
theorem dX4_two_57 : decode cX4_two 57 = .ok (.ifCond .ge 6, 3) := by decide +kernel
theorem dX4_two_60 : decode cX4_two 60 = .ok (.iload 4, 2) := by decide +kernel
theorem dX4_two_62 : decode cX4_two 62 = .ok (.istore_n 2, 1) := by decide +kernel
theorem dX4_two_63 : decode cX4_two 63 = .ok (.iinc 4 1, 3) := by decide +kernel
theorem dX4_two_66 : decode cX4_two 66 = .ok (.goto (-32), 3) := by decide +kernel
theorem dX4_two_69 : decode cX4_two 69 = .ok (.iload_n 1, 1) := by decide +kernel
theorem dX4_two_70 : decode cX4_two 70 = .ok (.ifCond .ne 7, 3) := by decide +kernel
theorem dX4_two_73 : decode cX4_two 73 = .ok (.iload_n 2, 1) := by decide +kernel
theorem dX4_two_74 : decode cX4_two 74 = .ok (.goto 4, 3) := by decide +kernel
theorem dX4_two_77 : decode cX4_two 77 = .ok (.iload_n 3, 1) := by decide +kernel
theorem dX4_two_78 : decode cX4_two 78 = .ok (.ireturn, 1) := by decide +kernel
theorem dX4_heard_0 : decode cX4_heard 0 = .ok (.aload_n 0, 1) := by decide +kernel
theorem dX4_heard_1 : decode cX4_heard 1 = .ok (.iload_n 1, 1) := by decide +kernel
theorem dX4_heard_2 : decode cX4_heard 2 = .ok (.invokevirtual 79, 3) := by decide +kernel
theorem dX4_heard_5 : decode cX4_heard 5 = .ok (.ifCond .ne 10, 3) := by decide +kernel
theorem dX4_heard_8 : decode cX4_heard 8 = .ok (.iload_n 2, 1) := by decide +kernel
theorem dX4_heard_9 : decode cX4_heard 9 = .ok (.invokestatic 146, 3) := by decide +kernel
theorem dX4_heard_12 : decode cX4_heard 12 = .ok (.ifCond .eq 9, 3) := by decide +kernel
theorem dX4_heard_15 : decode cX4_heard 15 = .ok (.aload_n 0, 1) := by decide +kernel
theorem dX4_heard_16 : decode cX4_heard 16 = .ok (.iconst (-1), 1) := by decide +kernel
theorem dX4_heard_17 : decode cX4_heard 17 = .ok (.invokevirtual 50, 3) := by decide +kernel
theorem dX4_heard_20 : decode cX4_heard 20 = .ok (.ireturn, 1) := by decide +kernel
theorem dX4_heard_21 : decode cX4_heard 21 = .ok (.aload_n 0, 1) := by decide +kernel
theorem dX4_heard_22 : decode cX4_heard 22 = .ok (.getfield 25, 3) := by decide +kernel
theorem dX4_heard_25 : decode cX4_heard 25 = .ok (.aload_n 0, 1) := by decide +kernel
theorem dX4_heard_26 : decode cX4_heard 26 = .ok (.getfield 12, 3) := by decide +kernel
theorem dX4_heard_29 : decode cX4_heard 29 = .ok (.invokevirtual 158, 3) := by decide +kernel
theorem dX4_heard_32 : decode cX4_heard 32 = .ok (.aload_n 0, 1) := by decide +kernel
theorem dX4_heard_33 : decode cX4_heard 33 = .ok (.getfield 25, 3) := by decide +kernel
theorem dX4_heard_36 : decode cX4_heard 36 = .ok (.iload_n 1, 1) := by decide +kernel
theorem dX4_heard_37 : decode cX4_heard 37 = .ok (.iload_n 2, 1) := by decide +kernel
theorem dX4_heard_38 : decode cX4_heard 38 = .ok (.invokevirtual 189, 3) := by decide +kernel
theorem dX4_heard_41 : decode cX4_heard 41 = .ok (.ireturn, 1) := by decide +kernel
theorem dX4_spoke_0 : decode cX4_spoke 0 = .ok (.aload_n 0, 1) := by decide +kernel
theorem dX4_spoke_1 : decode cX4_spoke 1 = .ok (.iload_n 1, 1) := by decide +kernel
theorem dX4_spoke_2 : decode cX4_spoke 2 = .ok (.invokevirtual 99, 3) := by decide +kernel
theorem dX4_spoke_5 : decode cX4_spoke 5 = .ok (.ifCond .eq 9, 3) := by decide +kernel
theorem dX4_spoke_8 : decode cX4_spoke 8 = .ok (.aload_n 0, 1) := by decide +kernel
theorem dX4_spoke_9 : decode cX4_spoke 9 = .ok (.iconst (-1), 1) := by decide +kernel
theorem dX4_spoke_10 : decode cX4_spoke 10 = .ok (.invokevirtual 50, 3) := by decide +kernel
theorem dX4_spoke_13 : decode cX4_spoke 13 = .ok (.ireturn, 1) := by decide +kernel
theorem dX4_spoke_14 : decode cX4_spoke 14 = .ok (.aload_n 0, 1) := by decide +kernel
theorem dX4_spoke_15 : decode cX4_spoke 15 = .ok (.getfield 25, 3) := by decide +kernel
theorem dX4_spoke_18 : decode cX4_spoke 18 = .ok (.aload_n 0, 1) := by decide +kernel
theorem dX4_spoke_19 : decode cX4_spoke 19 = .ok (.getfield 12, 3) := by decide +kernel
theorem dX4_spoke_22 : decode cX4_spoke 22 = .ok (.invokevirtual 158, 3) := by decide +kernel
theorem dX4_spoke_25 : decode cX4_spoke 25 = .ok (.aload_n 0, 1) := by decide +kernel
theorem dX4_spoke_26 : decode cX4_spoke 26 = .ok (.getfield 25, 3) := by decide +kernel
theorem dX4_spoke_29 : decode cX4_spoke 29 = .ok (.iload_n 1, 1) := by decide +kernel
theorem dX4_spoke_30 : decode cX4_spoke 30 = .ok (.invokevirtual 192, 3) := by decide +kernel
theorem dX4_spoke_33 : decode cX4_spoke 33 = .ok (.ireturn, 1) := by decide +kernel
theorem dX4_told_0 : decode cX4_told 0 = .ok (.iload_n 1, 1) := by decide +kernel
theorem dX4_told_1 : decode cX4_told 1 = .ok (.invokestatic 146, 3) := by decide +kernel
theorem dX4_told_4 : decode cX4_told 4 = .ok (.ifCond .eq 9, 3) := by decide +kernel
theorem dX4_told_7 : decode cX4_told 7 = .ok (.aload_n 0, 1) := by decide +kernel
theorem dX4_told_8 : decode cX4_told 8 = .ok (.iconst (-1), 1) := by decide +kernel
theorem dX4_told_9 : decode cX4_told 9 = .ok (.invokevirtual 50, 3) := by decide +kernel
theorem dX4_told_12 : decode cX4_told 12 = .ok (.ireturn, 1) := by decide +kernel
theorem dX4_told_13 : decode cX4_told 13 = .ok (.iload_n 2, 1) := by decide +kernel
theorem dX4_told_14 : decode cX4_told 14 = .ok (.iconst 2, 1) := by decide +kernel
theorem dX4_told_15 : decode cX4_told 15 = .ok (.invokestatic 83, 3) := by decide +kernel
theorem dX4_told_18 : decode cX4_told 18 = .ok (.ifCond .eq 10, 3) := by decide +kernel
theorem dX4_told_21 : decode cX4_told 21 = .ok (.aload_n 0, 1) := by decide +kernel
theorem dX4_told_22 : decode cX4_told 22 = .ok (.bipush (-2), 2) := by decide +kernel
theorem dX4_told_24 : decode cX4_told 24 = .ok (.invokevirtual 50, 3) := by decide +kernel
theorem dX4_told_27 : decode cX4_told 27 = .ok (.ireturn, 1) := by decide +kernel
theorem dX4_told_28 : decode cX4_told 28 = .ok (.aload_n 0, 1) := by decide +kernel
theorem dX4_told_29 : decode cX4_told 29 = .ok (.getfield 25, 3) := by decide +kernel
theorem dX4_told_32 : decode cX4_told 32 = .ok (.aload_n 0, 1) := by decide +kernel
theorem dX4_told_33 : decode cX4_told 33 = .ok (.getfield 12, 3) := by decide +kernel
theorem dX4_told_36 : decode cX4_told 36 = .ok (.invokevirtual 158, 3) := by decide +kernel
theorem dX4_told_39 : decode cX4_told 39 = .ok (.iload_n 2, 1) := by decide +kernel
theorem dX4_told_40 : decode cX4_told 40 = .ok (.iconst 1, 1) := by decide +kernel
theorem dX4_told_41 : decode cX4_told 41 = .ok (.if_icmp .ne 15, 3) := by decide +kernel
theorem dX4_told_44 : decode cX4_told 44 = .ok (.aload_n 0, 1) := by decide +kernel
theorem dX4_told_45 : decode cX4_told 45 = .ok (.getfield 25, 3) := by decide +kernel
theorem dX4_told_48 : decode cX4_told 48 = .ok (.iload_n 1, 1) := by decide +kernel
theorem dX4_told_49 : decode cX4_told 49 = .ok (.invokevirtual 195, 3) := by decide +kernel
theorem dX4_told_52 : decode cX4_told 52 = .ok (.invokestatic 178, 3) := by decide +kernel
theorem dX4_told_55 : decode cX4_told 55 = .ok (.ireturn, 1) := by decide +kernel
theorem dX4_told_56 : decode cX4_told 56 = .ok (.iconst 0, 1) := by decide +kernel
theorem dX4_told_57 : decode cX4_told 57 = .ok (.istore_n 3, 1) := by decide +kernel
theorem dX4_told_58 : decode cX4_told 58 = .ok (.iconst 0, 1) := by decide +kernel
theorem dX4_told_59 : decode cX4_told 59 = .ok (.istore 4, 2) := by decide +kernel
theorem dX4_told_61 : decode cX4_told 61 = .ok (.iload 4, 2) := by decide +kernel
theorem dX4_told_63 : decode cX4_told 63 = .ok (.aload_n 0, 1) := by decide +kernel
theorem dX4_told_64 : decode cX4_told 64 = .ok (.getfield 12, 3) := by decide +kernel
theorem dX4_told_67 : decode cX4_told 67 = .ok (.getfield 121, 3) := by decide +kernel
theorem dX4_told_70 : decode cX4_told 70 = .ok (.if_icmp .ge 35, 3) := by decide +kernel
theorem dX4_told_73 : decode cX4_told 73 = .ok (.aload_n 0, 1) := by decide +kernel
theorem dX4_told_74 : decode cX4_told 74 = .ok (.getfield 12, 3) := by decide +kernel
theorem dX4_told_77 : decode cX4_told 77 = .ok (.getfield 108, 3) := by decide +kernel
theorem dX4_told_80 : decode cX4_told 80 = .ok (.iload 4, 2) := by decide +kernel
theorem dX4_told_82 : decode cX4_told 82 = .ok (.iaload, 1) := by decide +kernel
theorem dX4_told_83 : decode cX4_told 83 = .ok (.iload_n 1, 1) := by decide +kernel
theorem dX4_told_84 : decode cX4_told 84 = .ok (.if_icmp .ne 15, 3) := by decide +kernel
theorem dX4_told_87 : decode cX4_told 87 = .ok (.iload_n 3, 1) := by decide +kernel
theorem dX4_told_88 : decode cX4_told 88 = .ok (.aload_n 0, 1) := by decide +kernel
theorem dX4_told_89 : decode cX4_told 89 = .ok (.getfield 25, 3) := by decide +kernel
theorem dX4_told_92 : decode cX4_told 92 = .ok (.iload 4, 2) := by decide +kernel
theorem dX4_told_94 : decode cX4_told 94 = .ok (.invokevirtual 192, 3) := by decide +kernel
theorem dX4_told_97 : decode cX4_told 97 = .ok (.iadd, 1) := by decide +kernel
theorem dX4_told_98 : decode cX4_told 98 = .ok (.istore_n 3, 1) := by decide +kernel
theorem dX4_told_99 : decode cX4_told 99 = .ok (.iinc 4 1, 3) := by decide +kernel
theorem dX4_told_102 : decode cX4_told 102 = .ok (.goto (-41), 3) := by decide +kernel
theorem dX4_told_105 : decode cX4_told 105 = .ok (.iload_n 3, 1) := by decide +kernel
theorem dX4_told_106 : decode cX4_told 106 = .ok (.ireturn, 1) := by decide +kernel
theorem dX4_all_0 : decode cX4_all 0 = .ok (.aload_n 0, 1) := by decide +kernel
theorem dX4_all_1 : decode cX4_all 1 = .ok (.aload_n 0, 1) := by decide +kernel
theorem dX4_all_2 : decode cX4_all 2 = .ok (.getfield 12, 3) := by decide +kernel
theorem dX4_all_5 : decode cX4_all 5 = .ok (.invokevirtual 198, 3) := by decide +kernel
theorem dX4_all_8 : decode cX4_all 8 = .ok (.ireturn, 1) := by decide +kernel
theorem dX4_never_0 : decode cX4_never 0 = .ok (.aload_n 0, 1) := by decide +kernel
theorem dX4_never_1 : decode cX4_never 1 = .ok (.iload_n 1, 1) := by decide +kernel
theorem dX4_never_2 : decode cX4_never 2 = .ok (.invokevirtual 79, 3) := by decide +kernel
theorem dX4_never_5 : decode cX4_never 5 = .ok (.ifCond .ne 10, 3) := by decide +kernel
theorem dX4_never_8 : decode cX4_never 8 = .ok (.iload_n 2, 1) := by decide +kernel
theorem dX4_never_9 : decode cX4_never 9 = .ok (.invokestatic 146, 3) := by decide +kernel
theorem dX4_never_12 : decode cX4_never 12 = .ok (.ifCond .eq 9, 3) := by decide +kernel
theorem dX4_never_15 : decode cX4_never 15 = .ok (.aload_n 0, 1) := by decide +kernel
theorem dX4_never_16 : decode cX4_never 16 = .ok (.iconst (-1), 1) := by decide +kernel
theorem dX4_never_17 : decode cX4_never 17 = .ok (.invokevirtual 50, 3) := by decide +kernel
theorem dX4_never_20 : decode cX4_never 20 = .ok (.ireturn, 1) := by decide +kernel
theorem dX4_never_21 : decode cX4_never 21 = .ok (.iload_n 3, 1) := by decide +kernel
theorem dX4_never_22 : decode cX4_never 22 = .ok (.iconst 2, 1) := by decide +kernel
theorem dX4_never_23 : decode cX4_never 23 = .ok (.invokestatic 83, 3) := by decide +kernel
theorem dX4_never_26 : decode cX4_never 26 = .ok (.ifCond .eq 10, 3) := by decide +kernel
theorem dX4_never_29 : decode cX4_never 29 = .ok (.aload_n 0, 1) := by decide +kernel
theorem dX4_never_30 : decode cX4_never 30 = .ok (.bipush (-2), 2) := by decide +kernel
theorem dX4_never_32 : decode cX4_never 32 = .ok (.invokevirtual 50, 3) := by decide +kernel
theorem dX4_never_35 : decode cX4_never 35 = .ok (.ireturn, 1) := by decide +kernel
theorem dX4_never_36 : decode cX4_never 36 = .ok (.aload_n 0, 1) := by decide +kernel
theorem dX4_never_37 : decode cX4_never 37 = .ok (.iload_n 1, 1) := by decide +kernel
theorem dX4_never_38 : decode cX4_never 38 = .ok (.iload_n 2, 1) := by decide +kernel
theorem dX4_never_39 : decode cX4_never 39 = .ok (.invokevirtual 202, 3) := by decide +kernel
theorem dX4_never_42 : decode cX4_never 42 = .ok (.istore 4, 2) := by decide +kernel
theorem dX4_never_44 : decode cX4_never 44 = .ok (.iload_n 3, 1) := by decide +kernel
theorem dX4_never_45 : decode cX4_never 45 = .ok (.ifCond .eq 8, 3) := by decide +kernel
theorem dX4_never_48 : decode cX4_never 48 = .ok (.iload 4, 2) := by decide +kernel
theorem dX4_never_50 : decode cX4_never 50 = .ok (.ifCond .ge 8, 3) := by decide +kernel
theorem dX4_never_53 : decode cX4_never 53 = .ok (.iload 4, 2) := by decide +kernel
theorem dX4_never_55 : decode cX4_never 55 = .ok (.goto 8, 3) := by decide +kernel
theorem dX4_never_58 : decode cX4_never 58 = .ok (.iload 4, 2) := by decide +kernel
theorem dX4_never_60 : decode cX4_never 60 = .ok (.invokestatic 178, 3) := by decide +kernel
theorem dX4_never_63 : decode cX4_never 63 = .ok (.ireturn, 1) := by decide +kernel
theorem dX4_silencing_0 : decode cX4_silencing 0 = .ok (.aload_n 0, 1) := by decide +kernel
theorem dX4_silencing_1 : decode cX4_silencing 1 = .ok (.getfield 12, 3) := by decide +kernel
theorem dX4_silencing_4 : decode cX4_silencing 4 = .ok (.iload_n 1, 1) := by decide +kernel
theorem dX4_silencing_5 : decode cX4_silencing 5 = .ok (.iload_n 2, 1) := by decide +kernel
theorem dX4_silencing_6 : decode cX4_silencing 6 = .ok (.invokevirtual 149, 3) := by decide +kernel
theorem dX4_silencing_9 : decode cX4_silencing 9 = .ok (.ifCond .eq 6, 3) := by decide +kernel
theorem dX4_silencing_12 : decode cX4_silencing 12 = .ok (.bipush (-9), 2) := by decide +kernel
theorem dX4_silencing_14 : decode cX4_silencing 14 = .ok (.ireturn, 1) := by decide +kernel
theorem dX4_silencing_15 : decode cX4_silencing 15 = .ok (.aload_n 0, 1) := by decide +kernel
theorem dX4_silencing_16 : decode cX4_silencing 16 = .ok (.getfield 16, 3) := by decide +kernel
theorem dX4_silencing_19 : decode cX4_silencing 19 = .ok (.aload_n 0, 1) := by decide +kernel
theorem dX4_silencing_20 : decode cX4_silencing 20 = .ok (.getfield 12, 3) := by decide +kernel
theorem dX4_silencing_23 : decode cX4_silencing 23 = .ok (.invokevirtual 65, 3) := by decide +kernel
theorem dX4_silencing_26 : decode cX4_silencing 26 = .ok (.bipush (-9), 2) := by decide +kernel
theorem dX4_silencing_28 : decode cX4_silencing 28 = .ok (.istore_n 3, 1) := by decide +kernel
theorem dX4_silencing_29 : decode cX4_silencing 29 = .ok (.iconst 0, 1) := by decide +kernel
theorem dX4_silencing_30 : decode cX4_silencing 30 = .ok (.istore 4, 2) := by decide +kernel
theorem dX4_silencing_32 : decode cX4_silencing 32 = .ok (.iload 4, 2) := by decide +kernel
theorem dX4_silencing_34 : decode cX4_silencing 34 = .ok (.iconst 1, 1) := by decide +kernel
theorem dX4_silencing_35 : decode cX4_silencing 35 = .ok (.aload_n 0, 1) := by decide +kernel
theorem dX4_silencing_36 : decode cX4_silencing 36 = .ok (.getfield 12, 3) := by decide +kernel
theorem dX4_silencing_39 : decode cX4_silencing 39 = .ok (.getfield 114, 3) := by decide +kernel
theorem dX4_silencing_42 : decode cX4_silencing 42 = .ok (.ishl, 1) := by decide +kernel
theorem dX4_silencing_43 : decode cX4_silencing 43 = .ok (.if_icmp .ge 77, 3) := by decide +kernel
theorem dX4_silencing_46 : decode cX4_silencing 46 = .ok (.iload 4, 2) := by decide +kernel
theorem dX4_silencing_48 : decode cX4_silencing 48 = .ok (.aload_n 0, 1) := by decide +kernel
theorem dX4_silencing_49 : decode cX4_silencing 49 = .ok (.getfield 12, 3) := by decide +kernel
theorem dX4_silencing_52 : decode cX4_silencing 52 = .ok (.getfield 205, 3) := by decide +kernel
theorem dX4_silencing_55 : decode cX4_silencing 55 = .ok (.iand, 1) := by decide +kernel
theorem dX4_silencing_56 : decode cX4_silencing 56 = .ok (.ifCond .ne 58, 3) := by decide +kernel
theorem dX4_silencing_59 : decode cX4_silencing 59 = .ok (.iload 4, 2) := by decide +kernel
theorem dX4_silencing_61 : decode cX4_silencing 61 = .ok (.iload_n 3, 1) := by decide +kernel
theorem dX4_silencing_62 : decode cX4_silencing 62 = .ok (.invokestatic 208, 3) := by decide +kernel
theorem dX4_silencing_65 : decode cX4_silencing 65 = .ok (.ifCond .eq 49, 3) := by decide +kernel
theorem dX4_silencing_68 : decode cX4_silencing 68 = .ok (.aload_n 0, 1) := by decide +kernel
theorem dX4_silencing_69 : decode cX4_silencing 69 = .ok (.getfield 16, 3) := by decide +kernel
theorem dX4_silencing_72 : decode cX4_silencing 72 = .ok (.aload_n 0, 1) := by decide +kernel
theorem dX4_silencing_73 : decode cX4_silencing 73 = .ok (.getfield 12, 3) := by decide +kernel
theorem dX4_silencing_76 : decode cX4_silencing 76 = .ok (.getfield 205, 3) := by decide +kernel
theorem dX4_silencing_79 : decode cX4_silencing 79 = .ok (.iload 4, 2) := by decide +kernel
theorem dX4_silencing_81 : decode cX4_silencing 81 = .ok (.ior, 1) := by decide +kernel
theorem dX4_silencing_82 : decode cX4_silencing 82 = .ok (.putfield 205, 3) := by decide +kernel
theorem dX4_silencing_85 : decode cX4_silencing 85 = .ok (.aload_n 0, 1) := by decide +kernel
theorem dX4_silencing_86 : decode cX4_silencing 86 = .ok (.getfield 25, 3) := by decide +kernel
theorem dX4_silencing_89 : decode cX4_silencing 89 = .ok (.aload_n 0, 1) := by decide +kernel
theorem dX4_silencing_90 : decode cX4_silencing 90 = .ok (.getfield 16, 3) := by decide +kernel
theorem dX4_silencing_93 : decode cX4_silencing 93 = .ok (.invokevirtual 158, 3) := by decide +kernel
theorem dX4_silencing_96 : decode cX4_silencing 96 = .ok (.aload_n 0, 1) := by decide +kernel
theorem dX4_silencing_97 : decode cX4_silencing 97 = .ok (.getfield 25, 3) := by decide +kernel
theorem dX4_silencing_100 : decode cX4_silencing 100 = .ok (.iload_n 2, 1) := by decide +kernel
theorem dX4_silencing_101 : decode cX4_silencing 101 = .ok (.invokevirtual 195, 3) := by decide +kernel
theorem dX4_silencing_104 : decode cX4_silencing 104 = .ok (.iload_n 1, 1) := by decide +kernel
theorem dX4_silencing_105 : decode cX4_silencing 105 = .ok (.ishr, 1) := by decide +kernel
theorem dX4_silencing_106 : decode cX4_silencing 106 = .ok (.iconst 1, 1) := by decide +kernel
theorem dX4_silencing_107 : decode cX4_silencing 107 = .ok (.iand, 1) := by decide +kernel
theorem dX4_silencing_108 : decode cX4_silencing 108 = .ok (.ifCond .ne 6, 3) := by decide +kernel
theorem dX4_silencing_111 : decode cX4_silencing 111 = .ok (.iload 4, 2) := by decide +kernel
theorem dX4_silencing_113 : decode cX4_silencing 113 = .ok (.istore_n 3, 1) := by decide +kernel
theorem dX4_silencing_114 : decode cX4_silencing 114 = .ok (.iinc 4 1, 3) := by decide +kernel
theorem dX4_silencing_117 : decode cX4_silencing 117 = .ok (.goto (-85), 3) := by decide +kernel
theorem dX4_silencing_120 : decode cX4_silencing 120 = .ok (.iload_n 3, 1) := by decide +kernel
theorem dX4_silencing_121 : decode cX4_silencing 121 = .ok (.ireturn, 1) := by decide +kernel
theorem dX4_just_0 : decode cX4_just 0 = .ok (.iload_n 1, 1) := by decide +kernel
theorem dX4_just_1 : decode cX4_just 1 = .ok (.invokestatic 146, 3) := by decide +kernel
theorem dX4_just_4 : decode cX4_just 4 = .ok (.ifCond .eq 9, 3) := by decide +kernel
theorem dX4_just_7 : decode cX4_just 7 = .ok (.aload_n 0, 1) := by decide +kernel
theorem dX4_just_8 : decode cX4_just 8 = .ok (.iconst (-1), 1) := by decide +kernel
theorem dX4_just_9 : decode cX4_just 9 = .ok (.invokevirtual 50, 3) := by decide +kernel
theorem dX4_just_12 : decode cX4_just 12 = .ok (.ireturn, 1) := by decide +kernel
theorem dX4_just_13 : decode cX4_just 13 = .ok (.iload_n 2, 1) := by decide +kernel
theorem dX4_just_14 : decode cX4_just 14 = .ok (.ifCond .ge 10, 3) := by decide +kernel
theorem dX4_just_17 : decode cX4_just 17 = .ok (.aload_n 0, 1) := by decide +kernel
theorem dX4_just_18 : decode cX4_just 18 = .ok (.bipush (-4), 2) := by decide +kernel
theorem dX4_just_20 : decode cX4_just 20 = .ok (.invokevirtual 50, 3) := by decide +kernel
theorem dX4_just_23 : decode cX4_just 23 = .ok (.ireturn, 1) := by decide +kernel
theorem dX4_just_24 : decode cX4_just 24 = .ok (.iload_n 2, 1) := by decide +kernel
theorem dX4_just_25 : decode cX4_just 25 = .ok (.iconst 1, 1) := by decide +kernel
theorem dX4_just_26 : decode cX4_just 26 = .ok (.aload_n 0, 1) := by decide +kernel
theorem dX4_just_27 : decode cX4_just 27 = .ok (.getfield 12, 3) := by decide +kernel
theorem dX4_just_30 : decode cX4_just 30 = .ok (.getfield 114, 3) := by decide +kernel
theorem dX4_just_33 : decode cX4_just 33 = .ok (.ishl, 1) := by decide +kernel
theorem dX4_just_34 : decode cX4_just 34 = .ok (.if_icmp .lt 10, 3) := by decide +kernel
theorem dX4_just_37 : decode cX4_just 37 = .ok (.aload_n 0, 1) := by decide +kernel
theorem dX4_just_38 : decode cX4_just 38 = .ok (.bipush (-6), 2) := by decide +kernel
theorem dX4_just_40 : decode cX4_just 40 = .ok (.invokevirtual 50, 3) := by decide +kernel
theorem dX4_just_43 : decode cX4_just 43 = .ok (.ireturn, 1) := by decide +kernel
theorem dX4_just_44 : decode cX4_just 44 = .ok (.aload_n 0, 1) := by decide +kernel
theorem dX4_just_45 : decode cX4_just 45 = .ok (.getfield 16, 3) := by decide +kernel
theorem dX4_just_48 : decode cX4_just 48 = .ok (.aload_n 0, 1) := by decide +kernel
theorem dX4_just_49 : decode cX4_just 49 = .ok (.getfield 12, 3) := by decide +kernel
theorem dX4_just_52 : decode cX4_just 52 = .ok (.invokevirtual 65, 3) := by decide +kernel
theorem dX4_just_55 : decode cX4_just 55 = .ok (.bipush (-9), 2) := by decide +kernel
theorem dX4_just_57 : decode cX4_just 57 = .ok (.istore_n 3, 1) := by decide +kernel
theorem dX4_just_58 : decode cX4_just 58 = .ok (.iconst 0, 1) := by decide +kernel
theorem dX4_just_59 : decode cX4_just 59 = .ok (.istore 4, 2) := by decide +kernel
theorem dX4_just_61 : decode cX4_just 61 = .ok (.iload 4, 2) := by decide +kernel
theorem dX4_just_63 : decode cX4_just 63 = .ok (.iconst 1, 1) := by decide +kernel
theorem dX4_just_64 : decode cX4_just 64 = .ok (.aload_n 0, 1) := by decide +kernel
theorem dX4_just_65 : decode cX4_just 65 = .ok (.getfield 12, 3) := by decide +kernel
theorem dX4_just_68 : decode cX4_just 68 = .ok (.getfield 114, 3) := by decide +kernel
theorem dX4_just_71 : decode cX4_just 71 = .ok (.ishl, 1) := by decide +kernel
theorem dX4_just_72 : decode cX4_just 72 = .ok (.if_icmp .ge 53, 3) := by decide +kernel
theorem dX4_just_75 : decode cX4_just 75 = .ok (.iload 4, 2) := by decide +kernel
theorem dX4_just_77 : decode cX4_just 77 = .ok (.iload_n 3, 1) := by decide +kernel
theorem dX4_just_78 : decode cX4_just 78 = .ok (.invokestatic 208, 3) := by decide +kernel
theorem dX4_just_81 : decode cX4_just 81 = .ok (.ifCond .eq 38, 3) := by decide +kernel
theorem dX4_just_84 : decode cX4_just 84 = .ok (.aload_n 0, 1) := by decide +kernel
theorem dX4_just_85 : decode cX4_just 85 = .ok (.getfield 16, 3) := by decide +kernel
theorem dX4_just_88 : decode cX4_just 88 = .ok (.iload 4, 2) := by decide +kernel
theorem dX4_just_90 : decode cX4_just 90 = .ok (.putfield 205, 3) := by decide +kernel
theorem dX4_just_93 : decode cX4_just 93 = .ok (.aload_n 0, 1) := by decide +kernel
theorem dX4_just_94 : decode cX4_just 94 = .ok (.getfield 25, 3) := by decide +kernel
theorem dX4_just_97 : decode cX4_just 97 = .ok (.aload_n 0, 1) := by decide +kernel
theorem dX4_just_98 : decode cX4_just 98 = .ok (.getfield 16, 3) := by decide +kernel
theorem dX4_just_101 : decode cX4_just 101 = .ok (.invokevirtual 158, 3) := by decide +kernel
theorem dX4_just_104 : decode cX4_just 104 = .ok (.aload_n 0, 1) := by decide +kernel
theorem dX4_just_105 : decode cX4_just 105 = .ok (.getfield 25, 3) := by decide +kernel
theorem dX4_just_108 : decode cX4_just 108 = .ok (.iload_n 1, 1) := by decide +kernel
theorem dX4_just_109 : decode cX4_just 109 = .ok (.invokevirtual 195, 3) := by decide +kernel
theorem dX4_just_112 : decode cX4_just 112 = .ok (.iload_n 2, 1) := by decide +kernel
theorem dX4_just_113 : decode cX4_just 113 = .ok (.if_icmp .ne 6, 3) := by decide +kernel
theorem dX4_just_116 : decode cX4_just 116 = .ok (.iload 4, 2) := by decide +kernel
theorem dX4_just_118 : decode cX4_just 118 = .ok (.istore_n 3, 1) := by decide +kernel
theorem dX4_just_119 : decode cX4_just 119 = .ok (.iinc 4 1, 3) := by decide +kernel
theorem dX4_just_122 : decode cX4_just 122 = .ok (.goto (-61), 3) := by decide +kernel
theorem dX4_just_125 : decode cX4_just 125 = .ok (.iload_n 3, 1) := by decide +kernel
theorem dX4_just_126 : decode cX4_just 126 = .ok (.ireturn, 1) := by decide +kernel
theorem dX4_soonest_0 : decode cX4_soonest 0 = .ok (.aload_n 0, 1) := by decide +kernel
theorem dX4_soonest_1 : decode cX4_soonest 1 = .ok (.iload_n 1, 1) := by decide +kernel
theorem dX4_soonest_2 : decode cX4_soonest 2 = .ok (.invokevirtual 79, 3) := by decide +kernel
theorem dX4_soonest_5 : decode cX4_soonest 5 = .ok (.ifCond .ne 10, 3) := by decide +kernel
theorem dX4_soonest_8 : decode cX4_soonest 8 = .ok (.iload_n 2, 1) := by decide +kernel
theorem dX4_soonest_9 : decode cX4_soonest 9 = .ok (.invokestatic 146, 3) := by decide +kernel
theorem dX4_soonest_12 : decode cX4_soonest 12 = .ok (.ifCond .eq 9, 3) := by decide +kernel
theorem dX4_soonest_15 : decode cX4_soonest 15 = .ok (.aload_n 0, 1) := by decide +kernel
theorem dX4_soonest_16 : decode cX4_soonest 16 = .ok (.iconst (-1), 1) := by decide +kernel
theorem dX4_soonest_17 : decode cX4_soonest 17 = .ok (.invokevirtual 50, 3) := by decide +kernel
theorem dX4_soonest_20 : decode cX4_soonest 20 = .ok (.ireturn, 1) := by decide +kernel
theorem dX4_soonest_21 : decode cX4_soonest 21 = .ok (.aload_n 0, 1) := by decide +kernel
theorem dX4_soonest_22 : decode cX4_soonest 22 = .ok (.getfield 25, 3) := by decide +kernel
theorem dX4_soonest_25 : decode cX4_soonest 25 = .ok (.aload_n 0, 1) := by decide +kernel
theorem dX4_soonest_26 : decode cX4_soonest 26 = .ok (.getfield 12, 3) := by decide +kernel
theorem dX4_soonest_29 : decode cX4_soonest 29 = .ok (.invokevirtual 158, 3) := by decide +kernel
theorem dX4_soonest_32 : decode cX4_soonest 32 = .ok (.aload_n 0, 1) := by decide +kernel
theorem dX4_soonest_33 : decode cX4_soonest 33 = .ok (.getfield 25, 3) := by decide +kernel
theorem dX4_soonest_36 : decode cX4_soonest 36 = .ok (.iload_n 1, 1) := by decide +kernel
theorem dX4_soonest_37 : decode cX4_soonest 37 = .ok (.iload_n 2, 1) := by decide +kernel
theorem dX4_soonest_38 : decode cX4_soonest 38 = .ok (.invokevirtual 189, 3) := by decide +kernel
theorem dX4_soonest_41 : decode cX4_soonest 41 = .ok (.invokestatic 211, 3) := by decide +kernel
theorem dX4_soonest_44 : decode cX4_soonest 44 = .ok (.istore_n 3, 1) := by decide +kernel
theorem dX4_soonest_45 : decode cX4_soonest 45 = .ok (.bipush (-9), 2) := by decide +kernel
theorem dX4_soonest_47 : decode cX4_soonest 47 = .ok (.istore 4, 2) := by decide +kernel
theorem dX4_soonest_49 : decode cX4_soonest 49 = .ok (.iconst 0, 1) := by decide +kernel
theorem dX4_soonest_50 : decode cX4_soonest 50 = .ok (.istore 5, 2) := by decide +kernel
theorem dX4_soonest_52 : decode cX4_soonest 52 = .ok (.iload 5, 2) := by decide +kernel
theorem dX4_soonest_54 : decode cX4_soonest 54 = .ok (.aload_n 0, 1) := by decide +kernel
theorem dX4_soonest_55 : decode cX4_soonest 55 = .ok (.getfield 12, 3) := by decide +kernel
theorem dX4_soonest_58 : decode cX4_soonest 58 = .ok (.getfield 114, 3) := by decide +kernel
theorem dX4_soonest_61 : decode cX4_soonest 61 = .ok (.if_icmp .ge 88, 3) := by decide +kernel
theorem dX4_soonest_64 : decode cX4_soonest 64 = .ok (.aload_n 0, 1) := by decide +kernel
theorem dX4_soonest_65 : decode cX4_soonest 65 = .ok (.getfield 16, 3) := by decide +kernel
theorem dX4_soonest_68 : decode cX4_soonest 68 = .ok (.aload_n 0, 1) := by decide +kernel
theorem dX4_soonest_69 : decode cX4_soonest 69 = .ok (.getfield 12, 3) := by decide +kernel
theorem dX4_soonest_72 : decode cX4_soonest 72 = .ok (.invokevirtual 65, 3) := by decide +kernel
theorem dX4_soonest_75 : decode cX4_soonest 75 = .ok (.aload_n 0, 1) := by decide +kernel
theorem dX4_soonest_76 : decode cX4_soonest 76 = .ok (.getfield 16, 3) := by decide +kernel
theorem dX4_soonest_79 : decode cX4_soonest 79 = .ok (.getfield 90, 3) := by decide +kernel
theorem dX4_soonest_82 : decode cX4_soonest 82 = .ok (.iload 5, 2) := by decide +kernel
theorem dX4_soonest_84 : decode cX4_soonest 84 = .ok (.ldc 214, 2) := by decide +kernel
theorem dX4_soonest_86 : decode cX4_soonest 86 = .ok (.iastore, 1) := by decide +kernel
theorem dX4_soonest_87 : decode cX4_soonest 87 = .ok (.aload_n 0, 1) := by decide +kernel
theorem dX4_soonest_88 : decode cX4_soonest 88 = .ok (.getfield 16, 3) := by decide +kernel
theorem dX4_soonest_91 : decode cX4_soonest 91 = .ok (.dup, 1) := by decide +kernel
theorem dX4_soonest_92 : decode cX4_soonest 92 = .ok (.getfield 205, 3) := by decide +kernel
theorem dX4_soonest_95 : decode cX4_soonest 95 = .ok (.iconst 1, 1) := by decide +kernel
theorem dX4_soonest_96 : decode cX4_soonest 96 = .ok (.iload 5, 2) := by decide +kernel
theorem dX4_soonest_98 : decode cX4_soonest 98 = .ok (.ishl, 1) := by decide +kernel
theorem dX4_soonest_99 : decode cX4_soonest 99 = .ok (.iconst (-1), 1) := by decide +kernel
theorem dX4_soonest_100 : decode cX4_soonest 100 = .ok (.ixor, 1) := by decide +kernel
theorem dX4_soonest_101 : decode cX4_soonest 101 = .ok (.iand, 1) := by decide +kernel
theorem dX4_soonest_102 : decode cX4_soonest 102 = .ok (.putfield 205, 3) := by decide +kernel
theorem dX4_soonest_105 : decode cX4_soonest 105 = .ok (.aload_n 0, 1) := by decide +kernel
theorem dX4_soonest_106 : decode cX4_soonest 106 = .ok (.getfield 25, 3) := by decide +kernel
theorem dX4_soonest_109 : decode cX4_soonest 109 = .ok (.aload_n 0, 1) := by decide +kernel
theorem dX4_soonest_110 : decode cX4_soonest 110 = .ok (.getfield 16, 3) := by decide +kernel
theorem dX4_soonest_113 : decode cX4_soonest 113 = .ok (.invokevirtual 158, 3) := by decide +kernel
theorem dX4_soonest_116 : decode cX4_soonest 116 = .ok (.aload_n 0, 1) := by decide +kernel
theorem dX4_soonest_117 : decode cX4_soonest 117 = .ok (.getfield 25, 3) := by decide +kernel
theorem dX4_soonest_120 : decode cX4_soonest 120 = .ok (.iload_n 1, 1) := by decide +kernel
theorem dX4_soonest_121 : decode cX4_soonest 121 = .ok (.iload_n 2, 1) := by decide +kernel
theorem dX4_soonest_122 : decode cX4_soonest 122 = .ok (.invokevirtual 189, 3) := by decide +kernel
theorem dX4_soonest_125 : decode cX4_soonest 125 = .ok (.invokestatic 211, 3) := by decide +kernel
theorem dX4_soonest_128 : decode cX4_soonest 128 = .ok (.istore 6, 2) := by decide +kernel
theorem dX4_soonest_130 : decode cX4_soonest 130 = .ok (.iload 6, 2) := by decide +kernel
theorem dX4_soonest_132 : decode cX4_soonest 132 = .ok (.iload_n 3, 1) := by decide +kernel
theorem dX4_soonest_133 : decode cX4_soonest 133 = .ok (.if_icmp .ge 10, 3) := by decide +kernel
theorem dX4_soonest_136 : decode cX4_soonest 136 = .ok (.iload 6, 2) := by decide +kernel
theorem dX4_soonest_138 : decode cX4_soonest 138 = .ok (.istore_n 3, 1) := by decide +kernel
theorem dX4_soonest_139 : decode cX4_soonest 139 = .ok (.iload 5, 2) := by decide +kernel
theorem dX4_soonest_141 : decode cX4_soonest 141 = .ok (.istore 4, 2) := by decide +kernel
theorem dX4_soonest_143 : decode cX4_soonest 143 = .ok (.iinc 5 1, 3) := by decide +kernel
theorem dX4_soonest_146 : decode cX4_soonest 146 = .ok (.goto (-94), 3) := by decide +kernel
theorem dX4_soonest_149 : decode cX4_soonest 149 = .ok (.iload 4, 2) := by decide +kernel
theorem dX4_soonest_151 : decode cX4_soonest 151 = .ok (.ireturn, 1) := by decide +kernel
theorem dX4_orBeyond_0 : decode cX4_orBeyond 0 = .ok (.iload_n 0, 1) := by decide +kernel
theorem dX4_orBeyond_1 : decode cX4_orBeyond 1 = .ok (.ifCond .ge 8, 3) := by decide +kernel
theorem dX4_orBeyond_4 : decode cX4_orBeyond 4 = .ok (.bipush 25, 2) := by decide +kernel
theorem dX4_orBeyond_6 : decode cX4_orBeyond 6 = .ok (.goto 4, 3) := by decide +kernel
theorem dX4_orBeyond_9 : decode cX4_orBeyond 9 = .ok (.iload_n 0, 1) := by decide +kernel
theorem dX4_orBeyond_10 : decode cX4_orBeyond 10 = .ok (.ireturn, 1) := by decide +kernel
theorem dX4_opening_0 : decode cX4_opening 0 = .ok (.aload_n 0, 1) := by decide +kernel
theorem dX4_opening_1 : decode cX4_opening 1 = .ok (.iload_n 1, 1) := by decide +kernel
theorem dX4_opening_2 : decode cX4_opening 2 = .ok (.invokevirtual 79, 3) := by decide +kernel
theorem dX4_opening_5 : decode cX4_opening 5 = .ok (.ifCond .eq 9, 3) := by decide +kernel
theorem dX4_opening_8 : decode cX4_opening 8 = .ok (.aload_n 0, 1) := by decide +kernel
theorem dX4_opening_9 : decode cX4_opening 9 = .ok (.iconst (-1), 1) := by decide +kernel
theorem dX4_opening_10 : decode cX4_opening 10 = .ok (.invokevirtual 50, 3) := by decide +kernel
theorem dX4_opening_13 : decode cX4_opening 13 = .ok (.ireturn, 1) := by decide +kernel
theorem dX4_opening_14 : decode cX4_opening 14 = .ok (.iload_n 2, 1) := by decide +kernel
theorem dX4_opening_15 : decode cX4_opening 15 = .ok (.iconst 2, 1) := by decide +kernel
theorem dX4_opening_16 : decode cX4_opening 16 = .ok (.invokestatic 83, 3) := by decide +kernel
theorem dX4_opening_19 : decode cX4_opening 19 = .ok (.ifCond .eq 10, 3) := by decide +kernel
theorem dX4_opening_22 : decode cX4_opening 22 = .ok (.aload_n 0, 1) := by decide +kernel
theorem dX4_opening_23 : decode cX4_opening 23 = .ok (.bipush (-2), 2) := by decide +kernel
theorem dX4_opening_25 : decode cX4_opening 25 = .ok (.invokevirtual 50, 3) := by decide +kernel
theorem dX4_opening_28 : decode cX4_opening 28 = .ok (.ireturn, 1) := by decide +kernel
theorem dX4_opening_29 : decode cX4_opening 29 = .ok (.aload_n 0, 1) := by decide +kernel
theorem dX4_opening_30 : decode cX4_opening 30 = .ok (.getfield 16, 3) := by decide +kernel
theorem dX4_opening_33 : decode cX4_opening 33 = .ok (.aload_n 0, 1) := by decide +kernel
theorem dX4_opening_34 : decode cX4_opening 34 = .ok (.getfield 12, 3) := by decide +kernel
theorem dX4_opening_37 : decode cX4_opening 37 = .ok (.invokevirtual 65, 3) := by decide +kernel
theorem dX4_opening_40 : decode cX4_opening 40 = .ok (.iconst 0, 1) := by decide +kernel
theorem dX4_opening_41 : decode cX4_opening 41 = .ok (.istore_n 3, 1) := by decide +kernel
theorem dX4_opening_42 : decode cX4_opening 42 = .ok (.iconst (-1), 1) := by decide +kernel
theorem dX4_opening_43 : decode cX4_opening 43 = .ok (.istore 4, 2) := by decide +kernel
theorem dX4_opening_45 : decode cX4_opening 45 = .ok (.iconst 0, 1) := by decide +kernel
theorem dX4_opening_46 : decode cX4_opening 46 = .ok (.istore 5, 2) := by decide +kernel
theorem dX4_opening_48 : decode cX4_opening 48 = .ok (.iload 5, 2) := by decide +kernel
theorem dX4_opening_50 : decode cX4_opening 50 = .ok (.bipush 24, 2) := by decide +kernel
theorem dX4_opening_52 : decode cX4_opening 52 = .ok (.if_icmp .ge 46, 3) := by decide +kernel
theorem dX4_opening_55 : decode cX4_opening 55 = .ok (.aload_n 0, 1) := by decide +kernel
theorem dX4_opening_56 : decode cX4_opening 56 = .ok (.getfield 16, 3) := by decide +kernel
theorem dX4_opening_59 : decode cX4_opening 59 = .ok (.getfield 90, 3) := by decide +kernel
theorem dX4_opening_62 : decode cX4_opening 62 = .ok (.iload_n 1, 1) := by decide +kernel
theorem dX4_opening_63 : decode cX4_opening 63 = .ok (.iconst 1, 1) := by decide +kernel
theorem dX4_opening_64 : decode cX4_opening 64 = .ok (.iload 5, 2) := by decide +kernel
theorem dX4_opening_66 : decode cX4_opening 66 = .ok (.ishl, 1) := by decide +kernel
theorem dX4_opening_67 : decode cX4_opening 67 = .ok (.iastore, 1) := by decide +kernel
theorem dX4_opening_68 : decode cX4_opening 68 = .ok (.aload_n 0, 1) := by decide +kernel
theorem dX4_opening_69 : decode cX4_opening 69 = .ok (.aload_n 0, 1) := by decide +kernel
theorem dX4_opening_70 : decode cX4_opening 70 = .ok (.getfield 16, 3) := by decide +kernel
theorem dX4_opening_73 : decode cX4_opening 73 = .ok (.invokevirtual 198, 3) := by decide +kernel
theorem dX4_opening_76 : decode cX4_opening 76 = .ok (.istore 6, 2) := by decide +kernel
theorem dX4_opening_78 : decode cX4_opening 78 = .ok (.iload 6, 2) := by decide +kernel
theorem dX4_opening_80 : decode cX4_opening 80 = .ok (.iload 4, 2) := by decide +kernel
theorem dX4_opening_82 : decode cX4_opening 82 = .ok (.if_icmp .le 10, 3) := by decide +kernel
theorem dX4_opening_85 : decode cX4_opening 85 = .ok (.iload 6, 2) := by decide +kernel
theorem dX4_opening_87 : decode cX4_opening 87 = .ok (.istore 4, 2) := by decide +kernel
theorem dX4_opening_89 : decode cX4_opening 89 = .ok (.iload 5, 2) := by decide +kernel
theorem dX4_opening_91 : decode cX4_opening 91 = .ok (.istore_n 3, 1) := by decide +kernel
theorem dX4_opening_92 : decode cX4_opening 92 = .ok (.iinc 5 1, 3) := by decide +kernel
theorem dX4_opening_95 : decode cX4_opening 95 = .ok (.goto (-47), 3) := by decide +kernel
theorem dX4_opening_98 : decode cX4_opening 98 = .ok (.iload_n 2, 1) := by decide +kernel
theorem dX4_opening_99 : decode cX4_opening 99 = .ok (.ifCond .ne 7, 3) := by decide +kernel
theorem dX4_opening_102 : decode cX4_opening 102 = .ok (.iload_n 3, 1) := by decide +kernel
theorem dX4_opening_103 : decode cX4_opening 103 = .ok (.goto 5, 3) := by decide +kernel
theorem dX4_opening_106 : decode cX4_opening 106 = .ok (.iload 4, 2) := by decide +kernel
theorem dX4_opening_108 : decode cX4_opening 108 = .ok (.ireturn, 1) := by decide +kernel
theorem dX4_seat_0 : decode cX4_seat 0 = .ok (.aload_n 0, 1) := by decide +kernel
theorem dX4_seat_1 : decode cX4_seat 1 = .ok (.aload_n 0, 1) := by decide +kernel
theorem dX4_seat_2 : decode cX4_seat 2 = .ok (.getfield 12, 3) := by decide +kernel
theorem dX4_seat_5 : decode cX4_seat 5 = .ok (.invokevirtual 198, 3) := by decide +kernel
theorem dX4_seat_8 : decode cX4_seat 8 = .ok (.istore_n 1, 1) := by decide +kernel
theorem dX4_seat_9 : decode cX4_seat 9 = .ok (.bipush (-9), 2) := by decide +kernel
theorem dX4_seat_11 : decode cX4_seat 11 = .ok (.istore_n 2, 1) := by decide +kernel
theorem dX4_seat_12 : decode cX4_seat 12 = .ok (.iconst 0, 1) := by decide +kernel
theorem dX4_seat_13 : decode cX4_seat 13 = .ok (.istore_n 3, 1) := by decide +kernel
theorem dX4_seat_14 : decode cX4_seat 14 = .ok (.iload_n 3, 1) := by decide +kernel
theorem dX4_seat_15 : decode cX4_seat 15 = .ok (.aload_n 0, 1) := by decide +kernel
theorem dX4_seat_16 : decode cX4_seat 16 = .ok (.getfield 12, 3) := by decide +kernel
theorem dX4_seat_19 : decode cX4_seat 19 = .ok (.getfield 114, 3) := by decide +kernel
theorem dX4_seat_22 : decode cX4_seat 22 = .ok (.if_icmp .ge 80, 3) := by decide +kernel
theorem dX4_seat_25 : decode cX4_seat 25 = .ok (.iload_n 3, 1) := by decide +kernel
theorem dX4_seat_26 : decode cX4_seat 26 = .ok (.iconst 1, 1) := by decide +kernel
theorem dX4_seat_27 : decode cX4_seat 27 = .ok (.iadd, 1) := by decide +kernel
theorem dX4_seat_28 : decode cX4_seat 28 = .ok (.istore 4, 2) := by decide +kernel
theorem dX4_seat_30 : decode cX4_seat 30 = .ok (.iload 4, 2) := by decide +kernel
theorem dX4_seat_32 : decode cX4_seat 32 = .ok (.aload_n 0, 1) := by decide +kernel
theorem dX4_seat_33 : decode cX4_seat 33 = .ok (.getfield 12, 3) := by decide +kernel
theorem dX4_seat_36 : decode cX4_seat 36 = .ok (.getfield 114, 3) := by decide +kernel
theorem dX4_seat_39 : decode cX4_seat 39 = .ok (.if_icmp .ge 57, 3) := by decide +kernel
theorem dX4_seat_42 : decode cX4_seat 42 = .ok (.aload_n 0, 1) := by decide +kernel
theorem dX4_seat_43 : decode cX4_seat 43 = .ok (.getfield 16, 3) := by decide +kernel
theorem dX4_seat_46 : decode cX4_seat 46 = .ok (.aload_n 0, 1) := by decide +kernel
theorem dX4_seat_47 : decode cX4_seat 47 = .ok (.getfield 12, 3) := by decide +kernel
theorem dX4_seat_50 : decode cX4_seat 50 = .ok (.invokevirtual 65, 3) := by decide +kernel
theorem dX4_seat_53 : decode cX4_seat 53 = .ok (.aload_n 0, 1) := by decide +kernel
theorem dX4_seat_54 : decode cX4_seat 54 = .ok (.getfield 16, 3) := by decide +kernel
theorem dX4_seat_57 : decode cX4_seat 57 = .ok (.iload_n 3, 1) := by decide +kernel
theorem dX4_seat_58 : decode cX4_seat 58 = .ok (.iload 4, 2) := by decide +kernel
theorem dX4_seat_60 : decode cX4_seat 60 = .ok (.invokevirtual 215, 3) := by decide +kernel
theorem dX4_seat_63 : decode cX4_seat 63 = .ok (.aload_n 0, 1) := by decide +kernel
theorem dX4_seat_64 : decode cX4_seat 64 = .ok (.aload_n 0, 1) := by decide +kernel
theorem dX4_seat_65 : decode cX4_seat 65 = .ok (.getfield 16, 3) := by decide +kernel
theorem dX4_seat_68 : decode cX4_seat 68 = .ok (.invokevirtual 198, 3) := by decide +kernel
theorem dX4_seat_71 : decode cX4_seat 71 = .ok (.istore 5, 2) := by decide +kernel
theorem dX4_seat_73 : decode cX4_seat 73 = .ok (.iload 5, 2) := by decide +kernel
theorem dX4_seat_75 : decode cX4_seat 75 = .ok (.iload_n 1, 1) := by decide +kernel
theorem dX4_seat_76 : decode cX4_seat 76 = .ok (.if_icmp .le 14, 3) := by decide +kernel
theorem dX4_seat_79 : decode cX4_seat 79 = .ok (.iload 5, 2) := by decide +kernel
theorem dX4_seat_81 : decode cX4_seat 81 = .ok (.istore_n 1, 1) := by decide +kernel
theorem dX4_seat_82 : decode cX4_seat 82 = .ok (.bipush 10, 2) := by decide +kernel
theorem dX4_seat_84 : decode cX4_seat 84 = .ok (.iload_n 3, 1) := by decide +kernel
theorem dX4_seat_85 : decode cX4_seat 85 = .ok (.imul, 1) := by decide +kernel
theorem dX4_seat_86 : decode cX4_seat 86 = .ok (.iload 4, 2) := by decide +kernel
theorem dX4_seat_88 : decode cX4_seat 88 = .ok (.iadd, 1) := by decide +kernel
theorem dX4_seat_89 : decode cX4_seat 89 = .ok (.istore_n 2, 1) := by decide +kernel
theorem dX4_seat_90 : decode cX4_seat 90 = .ok (.iinc 4 1, 3) := by decide +kernel
theorem dX4_seat_93 : decode cX4_seat 93 = .ok (.goto (-63), 3) := by decide +kernel
theorem dX4_seat_96 : decode cX4_seat 96 = .ok (.iinc 3 1, 3) := by decide +kernel
theorem dX4_seat_99 : decode cX4_seat 99 = .ok (.goto (-85), 3) := by decide +kernel
theorem dX4_seat_102 : decode cX4_seat 102 = .ok (.iload_n 2, 1) := by decide +kernel
theorem dX4_seat_103 : decode cX4_seat 103 = .ok (.ireturn, 1) := by decide +kernel
theorem dX4_can_0 : decode cX4_can 0 = .ok (.aload_n 0, 1) := by decide +kernel
theorem dX4_can_1 : decode cX4_can 1 = .ok (.iload_n 1, 1) := by decide +kernel
theorem dX4_can_2 : decode cX4_can 2 = .ok (.invokevirtual 79, 3) := by decide +kernel
theorem dX4_can_5 : decode cX4_can 5 = .ok (.ifCond .ne 17, 3) := by decide +kernel
theorem dX4_can_8 : decode cX4_can 8 = .ok (.iload_n 2, 1) := by decide +kernel
theorem dX4_can_9 : decode cX4_can 9 = .ok (.invokestatic 146, 3) := by decide +kernel
theorem dX4_can_12 : decode cX4_can 12 = .ok (.ifCond .ne 10, 3) := by decide +kernel
theorem dX4_can_15 : decode cX4_can 15 = .ok (.iload_n 3, 1) := by decide +kernel
theorem dX4_can_16 : decode cX4_can 16 = .ok (.invokestatic 124, 3) := by decide +kernel
theorem dX4_can_19 : decode cX4_can 19 = .ok (.ifCond .eq 9, 3) := by decide +kernel
theorem dX4_can_22 : decode cX4_can 22 = .ok (.aload_n 0, 1) := by decide +kernel
theorem dX4_can_23 : decode cX4_can 23 = .ok (.iconst (-1), 1) := by decide +kernel
theorem dX4_can_24 : decode cX4_can 24 = .ok (.invokevirtual 50, 3) := by decide +kernel
theorem dX4_can_27 : decode cX4_can 27 = .ok (.ireturn, 1) := by decide +kernel
theorem dX4_can_28 : decode cX4_can 28 = .ok (.aload_n 0, 1) := by decide +kernel
theorem dX4_can_29 : decode cX4_can 29 = .ok (.getfield 25, 3) := by decide +kernel
theorem dX4_can_32 : decode cX4_can 32 = .ok (.aload_n 0, 1) := by decide +kernel
theorem dX4_can_33 : decode cX4_can 33 = .ok (.getfield 12, 3) := by decide +kernel
theorem dX4_can_36 : decode cX4_can 36 = .ok (.invokevirtual 158, 3) := by decide +kernel
theorem dX4_can_39 : decode cX4_can 39 = .ok (.aload_n 0, 1) := by decide +kernel
theorem dX4_can_40 : decode cX4_can 40 = .ok (.iload_n 1, 1) := by decide +kernel
theorem dX4_can_41 : decode cX4_can 41 = .ok (.iload_n 2, 1) := by decide +kernel
theorem dX4_can_42 : decode cX4_can 42 = .ok (.iload_n 3, 1) := by decide +kernel
theorem dX4_can_43 : decode cX4_can 43 = .ok (.invokevirtual 218, 3) := by decide +kernel
theorem dX4_can_46 : decode cX4_can 46 = .ok (.ifCond .eq 7, 3) := by decide +kernel
theorem dX4_can_49 : decode cX4_can 49 = .ok (.iconst 1, 1) := by decide +kernel
theorem dX4_can_50 : decode cX4_can 50 = .ok (.goto 4, 3) := by decide +kernel
theorem dX4_can_53 : decode cX4_can 53 = .ok (.iconst 0, 1) := by decide +kernel
theorem dX4_can_54 : decode cX4_can 54 = .ok (.ireturn, 1) := by decide +kernel
theorem dX4_saidThrough_0 : decode cX4_saidThrough 0 = .ok (.aload_n 0, 1) := by decide +kernel
theorem dX4_saidThrough_1 : decode cX4_saidThrough 1 = .ok (.getfield 25, 3) := by decide +kernel
theorem dX4_saidThrough_4 : decode cX4_saidThrough 4 = .ok (.iload_n 1, 1) := by decide +kernel
theorem dX4_saidThrough_5 : decode cX4_saidThrough 5 = .ok (.iload_n 3, 1) := by decide +kernel
theorem dX4_saidThrough_6 : decode cX4_saidThrough 6 = .ok (.invokevirtual 183, 3) := by decide +kernel
theorem dX4_saidThrough_9 : decode cX4_saidThrough 9 = .ok (.istore 4, 2) := by decide +kernel
theorem dX4_saidThrough_11 : decode cX4_saidThrough 11 = .ok (.iconst 0, 1) := by decide +kernel
theorem dX4_saidThrough_12 : decode cX4_saidThrough 12 = .ok (.istore 5, 2) := by decide +kernel
theorem dX4_saidThrough_14 : decode cX4_saidThrough 14 = .ok (.iload 5, 2) := by decide +kernel
theorem dX4_saidThrough_16 : decode cX4_saidThrough 16 = .ok (.aload_n 0, 1) := by decide +kernel
theorem dX4_saidThrough_17 : decode cX4_saidThrough 17 = .ok (.getfield 12, 3) := by decide +kernel
theorem dX4_saidThrough_20 : decode cX4_saidThrough 20 = .ok (.getfield 121, 3) := by decide +kernel
theorem dX4_saidThrough_23 : decode cX4_saidThrough 23 = .ok (.if_icmp .ge 35, 3) := by decide +kernel
theorem dX4_saidThrough_26 : decode cX4_saidThrough 26 = .ok (.iload 4, 2) := by decide +kernel
theorem dX4_saidThrough_28 : decode cX4_saidThrough 28 = .ok (.iload 5, 2) := by decide +kernel
theorem dX4_saidThrough_30 : decode cX4_saidThrough 30 = .ok (.ishr, 1) := by decide +kernel
theorem dX4_saidThrough_31 : decode cX4_saidThrough 31 = .ok (.iconst 1, 1) := by decide +kernel
theorem dX4_saidThrough_32 : decode cX4_saidThrough 32 = .ok (.iand, 1) := by decide +kernel
theorem dX4_saidThrough_33 : decode cX4_saidThrough 33 = .ok (.ifCond .eq 19, 3) := by decide +kernel
theorem dX4_saidThrough_36 : decode cX4_saidThrough 36 = .ok (.aload_n 0, 1) := by decide +kernel
theorem dX4_saidThrough_37 : decode cX4_saidThrough 37 = .ok (.getfield 12, 3) := by decide +kernel
theorem dX4_saidThrough_40 : decode cX4_saidThrough 40 = .ok (.getfield 108, 3) := by decide +kernel
theorem dX4_saidThrough_43 : decode cX4_saidThrough 43 = .ok (.iload 5, 2) := by decide +kernel
theorem dX4_saidThrough_45 : decode cX4_saidThrough 45 = .ok (.iaload, 1) := by decide +kernel
theorem dX4_saidThrough_46 : decode cX4_saidThrough 46 = .ok (.iload_n 2, 1) := by decide +kernel
theorem dX4_saidThrough_47 : decode cX4_saidThrough 47 = .ok (.if_icmp .ne 5, 3) := by decide +kernel
theorem dX4_saidThrough_50 : decode cX4_saidThrough 50 = .ok (.iconst 1, 1) := by decide +kernel
theorem dX4_saidThrough_51 : decode cX4_saidThrough 51 = .ok (.ireturn, 1) := by decide +kernel
theorem dX4_saidThrough_52 : decode cX4_saidThrough 52 = .ok (.iinc 5 1, 3) := by decide +kernel
theorem dX4_saidThrough_55 : decode cX4_saidThrough 55 = .ok (.goto (-41), 3) := by decide +kernel
theorem dX4_saidThrough_58 : decode cX4_saidThrough 58 = .ok (.iconst 0, 1) := by decide +kernel
theorem dX4_saidThrough_59 : decode cX4_saidThrough 59 = .ok (.ireturn, 1) := by decide +kernel
theorem dX4_sham_0 : decode cX4_sham 0 = .ok (.aload_n 0, 1) := by decide +kernel
theorem dX4_sham_1 : decode cX4_sham 1 = .ok (.iload_n 1, 1) := by decide +kernel
theorem dX4_sham_2 : decode cX4_sham 2 = .ok (.invokevirtual 79, 3) := by decide +kernel
theorem dX4_sham_5 : decode cX4_sham 5 = .ok (.ifCond .eq 9, 3) := by decide +kernel
theorem dX4_sham_8 : decode cX4_sham 8 = .ok (.aload_n 0, 1) := by decide +kernel
theorem dX4_sham_9 : decode cX4_sham 9 = .ok (.iconst (-1), 1) := by decide +kernel
theorem dX4_sham_10 : decode cX4_sham 10 = .ok (.invokevirtual 50, 3) := by decide +kernel
theorem dX4_sham_13 : decode cX4_sham 13 = .ok (.ireturn, 1) := by decide +kernel
theorem dX4_sham_14 : decode cX4_sham 14 = .ok (.iconst 0, 1) := by decide +kernel
theorem dX4_sham_15 : decode cX4_sham 15 = .ok (.istore_n 2, 1) := by decide +kernel
theorem dX4_sham_16 : decode cX4_sham 16 = .ok (.iload_n 2, 1) := by decide +kernel
theorem dX4_sham_17 : decode cX4_sham 17 = .ok (.aload_n 0, 1) := by decide +kernel
theorem dX4_sham_18 : decode cX4_sham 18 = .ok (.getfield 221, 3) := by decide +kernel
theorem dX4_sham_21 : decode cX4_sham 21 = .ok (.if_icmp .ge 27, 3) := by decide +kernel
theorem dX4_sham_24 : decode cX4_sham 24 = .ok (.aload_n 0, 1) := by decide +kernel
theorem dX4_sham_25 : decode cX4_sham 25 = .ok (.getfield 43, 3) := by decide +kernel
theorem dX4_sham_28 : decode cX4_sham 28 = .ok (.iload_n 2, 1) := by decide +kernel
theorem dX4_sham_29 : decode cX4_sham 29 = .ok (.iaload, 1) := by decide +kernel
theorem dX4_sham_30 : decode cX4_sham 30 = .ok (.bipush 10, 2) := by decide +kernel
theorem dX4_sham_32 : decode cX4_sham 32 = .ok (.if_icmp .le 10, 3) := by decide +kernel
theorem dX4_sham_35 : decode cX4_sham 35 = .ok (.aload_n 0, 1) := by decide +kernel
theorem dX4_sham_36 : decode cX4_sham 36 = .ok (.bipush (-3), 2) := by decide +kernel
theorem dX4_sham_38 : decode cX4_sham 38 = .ok (.invokevirtual 50, 3) := by decide +kernel
theorem dX4_sham_41 : decode cX4_sham 41 = .ok (.ireturn, 1) := by decide +kernel
theorem dX4_sham_42 : decode cX4_sham 42 = .ok (.iinc 2 1, 3) := by decide +kernel
theorem dX4_sham_45 : decode cX4_sham 45 = .ok (.goto (-29), 3) := by decide +kernel
theorem dX4_sham_48 : decode cX4_sham 48 = .ok (.aload_n 0, 1) := by decide +kernel
theorem dX4_sham_49 : decode cX4_sham 49 = .ok (.getfield 25, 3) := by decide +kernel
theorem dX4_sham_52 : decode cX4_sham 52 = .ok (.aload_n 0, 1) := by decide +kernel
theorem dX4_sham_53 : decode cX4_sham 53 = .ok (.getfield 12, 3) := by decide +kernel
theorem dX4_sham_56 : decode cX4_sham 56 = .ok (.invokevirtual 158, 3) := by decide +kernel
theorem dX4_sham_59 : decode cX4_sham 59 = .ok (.iconst 0, 1) := by decide +kernel
theorem dX4_sham_60 : decode cX4_sham 60 = .ok (.istore_n 2, 1) := by decide +kernel
theorem dX4_sham_61 : decode cX4_sham 61 = .ok (.iload_n 2, 1) := by decide +kernel
theorem dX4_sham_62 : decode cX4_sham 62 = .ok (.aload_n 0, 1) := by decide +kernel
theorem dX4_sham_63 : decode cX4_sham 63 = .ok (.getfield 221, 3) := by decide +kernel
theorem dX4_sham_66 : decode cX4_sham 66 = .ok (.if_icmp .ge 59, 3) := by decide +kernel
theorem dX4_sham_69 : decode cX4_sham 69 = .ok (.aload_n 0, 1) := by decide +kernel
theorem dX4_sham_70 : decode cX4_sham 70 = .ok (.getfield 43, 3) := by decide +kernel
theorem dX4_sham_73 : decode cX4_sham 73 = .ok (.iload_n 2, 1) := by decide +kernel
theorem dX4_sham_74 : decode cX4_sham 74 = .ok (.iaload, 1) := by decide +kernel
theorem dX4_sham_75 : decode cX4_sham 75 = .ok (.bipush 10, 2) := by decide +kernel
theorem dX4_sham_77 : decode cX4_sham 77 = .ok (.if_icmp .ne 23, 3) := by decide +kernel
theorem dX4_sham_80 : decode cX4_sham 80 = .ok (.aload_n 0, 1) := by decide +kernel
theorem dX4_sham_81 : decode cX4_sham 81 = .ok (.getfield 25, 3) := by decide +kernel
theorem dX4_sham_84 : decode cX4_sham 84 = .ok (.iload_n 1, 1) := by decide +kernel
theorem dX4_sham_85 : decode cX4_sham 85 = .ok (.iload_n 2, 1) := by decide +kernel
theorem dX4_sham_86 : decode cX4_sham 86 = .ok (.invokevirtual 183, 3) := by decide +kernel
theorem dX4_sham_89 : decode cX4_sham 89 = .ok (.ifCond .ne 7, 3) := by decide +kernel
theorem dX4_sham_92 : decode cX4_sham 92 = .ok (.iconst 1, 1) := by decide +kernel
theorem dX4_sham_93 : decode cX4_sham 93 = .ok (.goto 19, 3) := by decide +kernel
theorem dX4_sham_96 : decode cX4_sham 96 = .ok (.iconst 0, 1) := by decide +kernel
theorem dX4_sham_97 : decode cX4_sham 97 = .ok (.goto 15, 3) := by decide +kernel
theorem dX4_sham_100 : decode cX4_sham 100 = .ok (.aload_n 0, 1) := by decide +kernel
theorem dX4_sham_101 : decode cX4_sham 101 = .ok (.iload_n 1, 1) := by decide +kernel
theorem dX4_sham_102 : decode cX4_sham 102 = .ok (.aload_n 0, 1) := by decide +kernel
theorem dX4_sham_103 : decode cX4_sham 103 = .ok (.getfield 43, 3) := by decide +kernel
theorem dX4_sham_106 : decode cX4_sham 106 = .ok (.iload_n 2, 1) := by decide +kernel
theorem dX4_sham_107 : decode cX4_sham 107 = .ok (.iaload, 1) := by decide +kernel
theorem dX4_sham_108 : decode cX4_sham 108 = .ok (.iload_n 2, 1) := by decide +kernel
theorem dX4_sham_109 : decode cX4_sham 109 = .ok (.invokevirtual 218, 3) := by decide +kernel
theorem dX4_sham_112 : decode cX4_sham 112 = .ok (.istore_n 3, 1) := by decide +kernel
theorem dX4_sham_113 : decode cX4_sham 113 = .ok (.iload_n 3, 1) := by decide +kernel
theorem dX4_sham_114 : decode cX4_sham 114 = .ok (.ifCond .ne 5, 3) := by decide +kernel
theorem dX4_sham_117 : decode cX4_sham 117 = .ok (.iload_n 2, 1) := by decide +kernel
theorem dX4_sham_118 : decode cX4_sham 118 = .ok (.ireturn, 1) := by decide +kernel
theorem dX4_sham_119 : decode cX4_sham 119 = .ok (.iinc 2 1, 3) := by decide +kernel
theorem dX4_sham_122 : decode cX4_sham 122 = .ok (.goto (-61), 3) := by decide +kernel
theorem dX4_sham_125 : decode cX4_sham 125 = .ok (.bipush (-9), 2) := by decide +kernel
theorem dX4_sham_127 : decode cX4_sham 127 = .ok (.ireturn, 1) := by decide +kernel
theorem dX4_who_0 : decode cX4_who 0 = .ok (.aload_n 0, 1) := by decide +kernel
theorem dX4_who_1 : decode cX4_who 1 = .ok (.iload_n 1, 1) := by decide +kernel
theorem dX4_who_2 : decode cX4_who 2 = .ok (.invokevirtual 79, 3) := by decide +kernel
theorem dX4_who_5 : decode cX4_who 5 = .ok (.ifCond .eq 9, 3) := by decide +kernel
theorem dX4_who_8 : decode cX4_who 8 = .ok (.aload_n 0, 1) := by decide +kernel
theorem dX4_who_9 : decode cX4_who 9 = .ok (.iconst (-1), 1) := by decide +kernel
theorem dX4_who_10 : decode cX4_who 10 = .ok (.invokevirtual 50, 3) := by decide +kernel
theorem dX4_who_13 : decode cX4_who 13 = .ok (.ireturn, 1) := by decide +kernel
theorem dX4_who_14 : decode cX4_who 14 = .ok (.iload_n 2, 1) := by decide +kernel
theorem dX4_who_15 : decode cX4_who 15 = .ok (.ifCond .ge 10, 3) := by decide +kernel
theorem dX4_who_18 : decode cX4_who 18 = .ok (.aload_n 0, 1) := by decide +kernel
theorem dX4_who_19 : decode cX4_who 19 = .ok (.bipush (-4), 2) := by decide +kernel
theorem dX4_who_21 : decode cX4_who 21 = .ok (.invokevirtual 50, 3) := by decide +kernel
theorem dX4_who_24 : decode cX4_who 24 = .ok (.ireturn, 1) := by decide +kernel
theorem dX4_who_25 : decode cX4_who 25 = .ok (.iload_n 2, 1) := by decide +kernel
theorem dX4_who_26 : decode cX4_who 26 = .ok (.bipush 24, 2) := by decide +kernel
theorem dX4_who_28 : decode cX4_who 28 = .ok (.if_icmp .le 10, 3) := by decide +kernel
theorem dX4_who_31 : decode cX4_who 31 = .ok (.aload_n 0, 1) := by decide +kernel
theorem dX4_who_32 : decode cX4_who 32 = .ok (.bipush (-6), 2) := by decide +kernel
theorem dX4_who_34 : decode cX4_who 34 = .ok (.invokevirtual 50, 3) := by decide +kernel
theorem dX4_who_37 : decode cX4_who 37 = .ok (.ireturn, 1) := by decide +kernel
theorem dX4_who_38 : decode cX4_who 38 = .ok (.aload_n 0, 1) := by decide +kernel
theorem dX4_who_39 : decode cX4_who 39 = .ok (.getfield 25, 3) := by decide +kernel
theorem dX4_who_42 : decode cX4_who 42 = .ok (.aload_n 0, 1) := by decide +kernel
theorem dX4_who_43 : decode cX4_who 43 = .ok (.getfield 12, 3) := by decide +kernel
theorem dX4_who_46 : decode cX4_who 46 = .ok (.invokevirtual 158, 3) := by decide +kernel
theorem dX4_who_49 : decode cX4_who 49 = .ok (.iconst 0, 1) := by decide +kernel
theorem dX4_who_50 : decode cX4_who 50 = .ok (.istore_n 3, 1) := by decide +kernel
theorem dX4_who_51 : decode cX4_who 51 = .ok (.iconst 0, 1) := by decide +kernel
theorem dX4_who_52 : decode cX4_who 52 = .ok (.istore 4, 2) := by decide +kernel
theorem dX4_who_54 : decode cX4_who 54 = .ok (.iload 4, 2) := by decide +kernel
theorem dX4_who_56 : decode cX4_who 56 = .ok (.aload_n 0, 1) := by decide +kernel
theorem dX4_who_57 : decode cX4_who 57 = .ok (.getfield 12, 3) := by decide +kernel
theorem dX4_who_60 : decode cX4_who 60 = .ok (.getfield 121, 3) := by decide +kernel
theorem dX4_who_63 : decode cX4_who 63 = .ok (.if_icmp .ge 30, 3) := by decide +kernel
theorem dX4_who_66 : decode cX4_who 66 = .ok (.aload_n 0, 1) := by decide +kernel
theorem dX4_who_67 : decode cX4_who 67 = .ok (.getfield 25, 3) := by decide +kernel
theorem dX4_who_70 : decode cX4_who 70 = .ok (.iload 4, 2) := by decide +kernel
theorem dX4_who_72 : decode cX4_who 72 = .ok (.iload_n 1, 1) := by decide +kernel
theorem dX4_who_73 : decode cX4_who 73 = .ok (.invokevirtual 224, 3) := by decide +kernel
theorem dX4_who_76 : decode cX4_who 76 = .ok (.iload_n 2, 1) := by decide +kernel
theorem dX4_who_77 : decode cX4_who 77 = .ok (.if_icmp .ne 10, 3) := by decide +kernel
theorem dX4_who_80 : decode cX4_who 80 = .ok (.iload_n 3, 1) := by decide +kernel
theorem dX4_who_81 : decode cX4_who 81 = .ok (.iconst 1, 1) := by decide +kernel
theorem dX4_who_82 : decode cX4_who 82 = .ok (.iload 4, 2) := by decide +kernel
theorem dX4_who_84 : decode cX4_who 84 = .ok (.ishl, 1) := by decide +kernel
theorem dX4_who_85 : decode cX4_who 85 = .ok (.ior, 1) := by decide +kernel
theorem dX4_who_86 : decode cX4_who 86 = .ok (.istore_n 3, 1) := by decide +kernel
theorem dX4_who_87 : decode cX4_who 87 = .ok (.iinc 4 1, 3) := by decide +kernel
theorem dX4_who_90 : decode cX4_who 90 = .ok (.goto (-36), 3) := by decide +kernel
theorem dX4_who_93 : decode cX4_who 93 = .ok (.iload_n 3, 1) := by decide +kernel
theorem dX4_who_94 : decode cX4_who 94 = .ok (.ireturn, 1) := by decide +kernel
theorem dX4_questions_0 : decode cX4_questions 0 = .ok (.iconst 0, 1) := by decide +kernel
theorem dX4_questions_1 : decode cX4_questions 1 = .ok (.istore_n 1, 1) := by decide +kernel
theorem dX4_questions_2 : decode cX4_questions 2 = .ok (.iconst 0, 1) := by decide +kernel
theorem dX4_questions_3 : decode cX4_questions 3 = .ok (.istore_n 2, 1) := by decide +kernel
theorem dX4_questions_4 : decode cX4_questions 4 = .ok (.iconst 0, 1) := by decide +kernel
theorem dX4_questions_5 : decode cX4_questions 5 = .ok (.istore_n 3, 1) := by decide +kernel
theorem dX4_questions_6 : decode cX4_questions 6 = .ok (.iload_n 3, 1) := by decide +kernel
theorem dX4_questions_7 : decode cX4_questions 7 = .ok (.aload_n 0, 1) := by decide +kernel
theorem dX4_questions_8 : decode cX4_questions 8 = .ok (.getfield 12, 3) := by decide +kernel
theorem dX4_questions_11 : decode cX4_questions 11 = .ok (.getfield 121, 3) := by decide +kernel
theorem dX4_questions_14 : decode cX4_questions 14 = .ok (.if_icmp .ge 40, 3) := by decide +kernel
theorem dX4_questions_17 : decode cX4_questions 17 = .ok (.iconst 1, 1) := by decide +kernel
theorem dX4_questions_18 : decode cX4_questions 18 = .ok (.aload_n 0, 1) := by decide +kernel
theorem dX4_questions_19 : decode cX4_questions 19 = .ok (.getfield 12, 3) := by decide +kernel
theorem dX4_questions_22 : decode cX4_questions 22 = .ok (.getfield 108, 3) := by decide +kernel
theorem dX4_questions_25 : decode cX4_questions 25 = .ok (.iload_n 3, 1) := by decide +kernel
theorem dX4_questions_26 : decode cX4_questions 26 = .ok (.iaload, 1) := by decide +kernel
theorem dX4_questions_27 : decode cX4_questions 27 = .ok (.ishl, 1) := by decide +kernel
theorem dX4_questions_28 : decode cX4_questions 28 = .ok (.istore 4, 2) := by decide +kernel
theorem dX4_questions_30 : decode cX4_questions 30 = .ok (.iload_n 2, 1) := by decide +kernel
theorem dX4_questions_31 : decode cX4_questions 31 = .ok (.iload 4, 2) := by decide +kernel
theorem dX4_questions_33 : decode cX4_questions 33 = .ok (.iand, 1) := by decide +kernel
theorem dX4_questions_34 : decode cX4_questions 34 = .ok (.ifCond .ne 14, 3) := by decide +kernel
theorem dX4_questions_37 : decode cX4_questions 37 = .ok (.iload_n 2, 1) := by decide +kernel
theorem dX4_questions_38 : decode cX4_questions 38 = .ok (.iload 4, 2) := by decide +kernel
theorem dX4_questions_40 : decode cX4_questions 40 = .ok (.ior, 1) := by decide +kernel
theorem dX4_questions_41 : decode cX4_questions 41 = .ok (.istore_n 2, 1) := by decide +kernel
theorem dX4_questions_42 : decode cX4_questions 42 = .ok (.iload_n 1, 1) := by decide +kernel
theorem dX4_questions_43 : decode cX4_questions 43 = .ok (.iconst 1, 1) := by decide +kernel
theorem dX4_questions_44 : decode cX4_questions 44 = .ok (.iload_n 3, 1) := by decide +kernel
theorem dX4_questions_45 : decode cX4_questions 45 = .ok (.ishl, 1) := by decide +kernel
theorem dX4_questions_46 : decode cX4_questions 46 = .ok (.ior, 1) := by decide +kernel
theorem dX4_questions_47 : decode cX4_questions 47 = .ok (.istore_n 1, 1) := by decide +kernel
theorem dX4_questions_48 : decode cX4_questions 48 = .ok (.iinc 3 1, 3) := by decide +kernel
theorem dX4_questions_51 : decode cX4_questions 51 = .ok (.goto (-45), 3) := by decide +kernel
theorem dX4_questions_54 : decode cX4_questions 54 = .ok (.iload_n 1, 1) := by decide +kernel
theorem dX4_questions_55 : decode cX4_questions 55 = .ok (.ireturn, 1) := by decide +kernel
theorem dX4_quarrels_0 : decode cX4_quarrels 0 = .ok (.iload_n 1, 1) := by decide +kernel
theorem dX4_quarrels_1 : decode cX4_quarrels 1 = .ok (.iconst 2, 1) := by decide +kernel
theorem dX4_quarrels_2 : decode cX4_quarrels 2 = .ok (.invokestatic 83, 3) := by decide +kernel
theorem dX4_quarrels_5 : decode cX4_quarrels 5 = .ok (.ifCond .eq 10, 3) := by decide +kernel
theorem dX4_quarrels_8 : decode cX4_quarrels 8 = .ok (.aload_n 0, 1) := by decide +kernel
theorem dX4_quarrels_9 : decode cX4_quarrels 9 = .ok (.bipush (-2), 2) := by decide +kernel
theorem dX4_quarrels_11 : decode cX4_quarrels 11 = .ok (.invokevirtual 50, 3) := by decide +kernel
theorem dX4_quarrels_14 : decode cX4_quarrels 14 = .ok (.ireturn, 1) := by decide +kernel
theorem dX4_quarrels_15 : decode cX4_quarrels 15 = .ok (.iload_n 1, 1) := by decide +kernel
theorem dX4_quarrels_16 : decode cX4_quarrels 16 = .ok (.iconst 1, 1) := by decide +kernel
theorem dX4_quarrels_17 : decode cX4_quarrels 17 = .ok (.if_icmp .ne 8, 3) := by decide +kernel
theorem dX4_quarrels_20 : decode cX4_quarrels 20 = .ok (.aload_n 0, 1) := by decide +kernel
theorem dX4_quarrels_21 : decode cX4_quarrels 21 = .ok (.invokevirtual 227, 3) := by decide +kernel
theorem dX4_quarrels_24 : decode cX4_quarrels 24 = .ok (.ireturn, 1) := by decide +kernel
theorem dX4_quarrels_25 : decode cX4_quarrels 25 = .ok (.aload_n 0, 1) := by decide +kernel
theorem dX4_quarrels_26 : decode cX4_quarrels 26 = .ok (.getfield 25, 3) := by decide +kernel
theorem dX4_quarrels_29 : decode cX4_quarrels 29 = .ok (.aload_n 0, 1) := by decide +kernel
theorem dX4_quarrels_30 : decode cX4_quarrels 30 = .ok (.getfield 12, 3) := by decide +kernel
theorem dX4_quarrels_33 : decode cX4_quarrels 33 = .ok (.invokevirtual 158, 3) := by decide +kernel
theorem dX4_quarrels_36 : decode cX4_quarrels 36 = .ok (.aload_n 0, 1) := by decide +kernel
theorem dX4_quarrels_37 : decode cX4_quarrels 37 = .ok (.invokevirtual 230, 3) := by decide +kernel
theorem dX4_quarrels_40 : decode cX4_quarrels 40 = .ok (.ireturn, 1) := by decide +kernel
theorem dX4_quarrelHours_0 : decode cX4_quarrelHours 0 = .ok (.aload_n 0, 1) := by decide +kernel
theorem dX4_quarrelHours_1 : decode cX4_quarrelHours 1 = .ok (.getfield 12, 3) := by decide +kernel
theorem dX4_quarrelHours_4 : decode cX4_quarrelHours 4 = .ok (.iconst 3, 1) := by decide +kernel
theorem dX4_quarrelHours_5 : decode cX4_quarrelHours 5 = .ok (.invokevirtual 233, 3) := by decide +kernel
theorem dX4_quarrelHours_8 : decode cX4_quarrelHours 8 = .ok (.istore_n 1, 1) := by decide +kernel
theorem dX4_quarrelHours_9 : decode cX4_quarrelHours 9 = .ok (.iconst 0, 1) := by decide +kernel
theorem dX4_quarrelHours_10 : decode cX4_quarrelHours 10 = .ok (.istore_n 2, 1) := by decide +kernel
theorem dX4_quarrelHours_11 : decode cX4_quarrelHours 11 = .ok (.iconst 0, 1) := by decide +kernel
theorem dX4_quarrelHours_12 : decode cX4_quarrelHours 12 = .ok (.istore_n 3, 1) := by decide +kernel
theorem dX4_quarrelHours_13 : decode cX4_quarrelHours 13 = .ok (.iload_n 3, 1) := by decide +kernel
theorem dX4_quarrelHours_14 : decode cX4_quarrelHours 14 = .ok (.bipush 24, 2) := by decide +kernel
theorem dX4_quarrelHours_16 : decode cX4_quarrelHours 16 = .ok (.if_icmp .ge 29, 3) := by decide +kernel
theorem dX4_quarrelHours_19 : decode cX4_quarrelHours 19 = .ok (.aload_n 0, 1) := by decide +kernel
theorem dX4_quarrelHours_20 : decode cX4_quarrelHours 20 = .ok (.getfield 25, 3) := by decide +kernel
theorem dX4_quarrelHours_23 : decode cX4_quarrelHours 23 = .ok (.iload_n 3, 1) := by decide +kernel
theorem dX4_quarrelHours_24 : decode cX4_quarrelHours 24 = .ok (.invokevirtual 175, 3) := by decide +kernel
theorem dX4_quarrelHours_27 : decode cX4_quarrelHours 27 = .ok (.iload_n 1, 1) := by decide +kernel
theorem dX4_quarrelHours_28 : decode cX4_quarrelHours 28 = .ok (.iand, 1) := by decide +kernel
theorem dX4_quarrelHours_29 : decode cX4_quarrelHours 29 = .ok (.invokestatic 178, 3) := by decide +kernel
theorem dX4_quarrelHours_32 : decode cX4_quarrelHours 32 = .ok (.iconst 2, 1) := by decide +kernel
theorem dX4_quarrelHours_33 : decode cX4_quarrelHours 33 = .ok (.if_icmp .lt 6, 3) := by decide +kernel
theorem dX4_quarrelHours_36 : decode cX4_quarrelHours 36 = .ok (.iinc 2 1, 3) := by decide +kernel
theorem dX4_quarrelHours_39 : decode cX4_quarrelHours 39 = .ok (.iinc 3 1, 3) := by decide +kernel
theorem dX4_quarrelHours_42 : decode cX4_quarrelHours 42 = .ok (.goto (-29), 3) := by decide +kernel
theorem dX4_quarrelHours_45 : decode cX4_quarrelHours 45 = .ok (.iload_n 2, 1) := by decide +kernel
theorem dX4_quarrelHours_46 : decode cX4_quarrelHours 46 = .ok (.ireturn, 1) := by decide +kernel
theorem dX4_peace_0 : decode cX4_peace 0 = .ok (.aload_n 0, 1) := by decide +kernel
theorem dX4_peace_1 : decode cX4_peace 1 = .ok (.getfield 12, 3) := by decide +kernel
theorem dX4_peace_4 : decode cX4_peace 4 = .ok (.iconst 3, 1) := by decide +kernel
theorem dX4_peace_5 : decode cX4_peace 5 = .ok (.invokevirtual 233, 3) := by decide +kernel
theorem dX4_peace_8 : decode cX4_peace 8 = .ok (.istore_n 1, 1) := by decide +kernel
theorem dX4_peace_9 : decode cX4_peace 9 = .ok (.aload_n 0, 1) := by decide +kernel
theorem dX4_peace_10 : decode cX4_peace 10 = .ok (.getfield 16, 3) := by decide +kernel
theorem dX4_peace_13 : decode cX4_peace 13 = .ok (.aload_n 0, 1) := by decide +kernel
theorem dX4_peace_14 : decode cX4_peace 14 = .ok (.getfield 12, 3) := by decide +kernel
theorem dX4_peace_17 : decode cX4_peace 17 = .ok (.invokevirtual 65, 3) := by decide +kernel
theorem dX4_peace_20 : decode cX4_peace 20 = .ok (.bipush (-9), 2) := by decide +kernel
theorem dX4_peace_22 : decode cX4_peace 22 = .ok (.istore_n 2, 1) := by decide +kernel
theorem dX4_peace_23 : decode cX4_peace 23 = .ok (.iconst 0, 1) := by decide +kernel
theorem dX4_peace_24 : decode cX4_peace 24 = .ok (.istore_n 3, 1) := by decide +kernel
theorem dX4_peace_25 : decode cX4_peace 25 = .ok (.iload_n 3, 1) := by decide +kernel
theorem dX4_peace_26 : decode cX4_peace 26 = .ok (.iconst 1, 1) := by decide +kernel
theorem dX4_peace_27 : decode cX4_peace 27 = .ok (.aload_n 0, 1) := by decide +kernel
theorem dX4_peace_28 : decode cX4_peace 28 = .ok (.getfield 12, 3) := by decide +kernel
theorem dX4_peace_31 : decode cX4_peace 31 = .ok (.getfield 121, 3) := by decide +kernel
theorem dX4_peace_34 : decode cX4_peace 34 = .ok (.ishl, 1) := by decide +kernel
theorem dX4_peace_35 : decode cX4_peace 35 = .ok (.if_icmp .ge 53, 3) := by decide +kernel
theorem dX4_peace_38 : decode cX4_peace 38 = .ok (.iload_n 3, 1) := by decide +kernel
theorem dX4_peace_39 : decode cX4_peace 39 = .ok (.iload_n 1, 1) := by decide +kernel
theorem dX4_peace_40 : decode cX4_peace 40 = .ok (.iconst (-1), 1) := by decide +kernel
theorem dX4_peace_41 : decode cX4_peace 41 = .ok (.ixor, 1) := by decide +kernel
theorem dX4_peace_42 : decode cX4_peace 42 = .ok (.iand, 1) := by decide +kernel
theorem dX4_peace_43 : decode cX4_peace 43 = .ok (.ifCond .ne 39, 3) := by decide +kernel
theorem dX4_peace_46 : decode cX4_peace 46 = .ok (.iload_n 3, 1) := by decide +kernel
theorem dX4_peace_47 : decode cX4_peace 47 = .ok (.iload_n 2, 1) := by decide +kernel
theorem dX4_peace_48 : decode cX4_peace 48 = .ok (.invokestatic 208, 3) := by decide +kernel
theorem dX4_peace_51 : decode cX4_peace 51 = .ok (.ifCond .eq 31, 3) := by decide +kernel
theorem dX4_peace_54 : decode cX4_peace 54 = .ok (.aload_n 0, 1) := by decide +kernel
theorem dX4_peace_55 : decode cX4_peace 55 = .ok (.getfield 16, 3) := by decide +kernel
theorem dX4_peace_58 : decode cX4_peace 58 = .ok (.iload_n 3, 1) := by decide +kernel
theorem dX4_peace_59 : decode cX4_peace 59 = .ok (.putfield 236, 3) := by decide +kernel
theorem dX4_peace_62 : decode cX4_peace 62 = .ok (.aload_n 0, 1) := by decide +kernel
theorem dX4_peace_63 : decode cX4_peace 63 = .ok (.getfield 25, 3) := by decide +kernel
theorem dX4_peace_66 : decode cX4_peace 66 = .ok (.aload_n 0, 1) := by decide +kernel
theorem dX4_peace_67 : decode cX4_peace 67 = .ok (.getfield 16, 3) := by decide +kernel
theorem dX4_peace_70 : decode cX4_peace 70 = .ok (.invokevirtual 158, 3) := by decide +kernel
theorem dX4_peace_73 : decode cX4_peace 73 = .ok (.aload_n 0, 1) := by decide +kernel
theorem dX4_peace_74 : decode cX4_peace 74 = .ok (.invokevirtual 230, 3) := by decide +kernel
theorem dX4_peace_77 : decode cX4_peace 77 = .ok (.ifCond .ne 5, 3) := by decide +kernel
theorem dX4_peace_80 : decode cX4_peace 80 = .ok (.iload_n 3, 1) := by decide +kernel
theorem dX4_peace_81 : decode cX4_peace 81 = .ok (.istore_n 2, 1) := by decide +kernel
theorem dX4_peace_82 : decode cX4_peace 82 = .ok (.iinc 3 1, 3) := by decide +kernel
theorem dX4_peace_85 : decode cX4_peace 85 = .ok (.goto (-60), 3) := by decide +kernel
theorem dX4_peace_88 : decode cX4_peace 88 = .ok (.iload_n 2, 1) := by decide +kernel
theorem dX4_peace_89 : decode cX4_peace 89 = .ok (.ireturn, 1) := by decide +kernel
theorem dX4_silent_0 : decode cX4_silent 0 = .ok (.iload_n 1, 1) := by decide +kernel
theorem dX4_silent_1 : decode cX4_silent 1 = .ok (.iconst 3, 1) := by decide +kernel
theorem dX4_silent_2 : decode cX4_silent 2 = .ok (.invokestatic 83, 3) := by decide +kernel
theorem dX4_silent_5 : decode cX4_silent 5 = .ok (.ifCond .eq 10, 3) := by decide +kernel
theorem dX4_silent_8 : decode cX4_silent 8 = .ok (.aload_n 0, 1) := by decide +kernel
theorem dX4_silent_9 : decode cX4_silent 9 = .ok (.bipush (-2), 2) := by decide +kernel
theorem dX4_silent_11 : decode cX4_silent 11 = .ok (.invokevirtual 50, 3) := by decide +kernel
theorem dX4_silent_14 : decode cX4_silent 14 = .ok (.ireturn, 1) := by decide +kernel
theorem dX4_silent_15 : decode cX4_silent 15 = .ok (.aload_n 0, 1) := by decide +kernel
theorem dX4_silent_16 : decode cX4_silent 16 = .ok (.getfield 25, 3) := by decide +kernel
theorem dX4_silent_19 : decode cX4_silent 19 = .ok (.aload_n 0, 1) := by decide +kernel
theorem dX4_silent_20 : decode cX4_silent 20 = .ok (.getfield 12, 3) := by decide +kernel
theorem dX4_silent_23 : decode cX4_silent 23 = .ok (.invokevirtual 158, 3) := by decide +kernel
theorem dX4_silent_26 : decode cX4_silent 26 = .ok (.iconst 0, 1) := by decide +kernel
theorem dX4_silent_27 : decode cX4_silent 27 = .ok (.istore_n 2, 1) := by decide +kernel
theorem dX4_silent_28 : decode cX4_silent 28 = .ok (.iconst 0, 1) := by decide +kernel
theorem dX4_silent_29 : decode cX4_silent 29 = .ok (.istore_n 3, 1) := by decide +kernel
theorem dX4_silent_30 : decode cX4_silent 30 = .ok (.iconst 0, 1) := by decide +kernel
theorem dX4_silent_31 : decode cX4_silent 31 = .ok (.istore 4, 2) := by decide +kernel
theorem dX4_silent_33 : decode cX4_silent 33 = .ok (.bipush (-9), 2) := by decide +kernel
theorem dX4_silent_35 : decode cX4_silent 35 = .ok (.istore 5, 2) := by decide +kernel
theorem dX4_silent_37 : decode cX4_silent 37 = .ok (.iconst 0, 1) := by decide +kernel
theorem dX4_silent_38 : decode cX4_silent 38 = .ok (.istore 6, 2) := by decide +kernel
theorem dX4_silent_40 : decode cX4_silent 40 = .ok (.iload 6, 2) := by decide +kernel
theorem dX4_silent_42 : decode cX4_silent 42 = .ok (.bipush 24, 2) := by decide +kernel
theorem dX4_silent_44 : decode cX4_silent 44 = .ok (.if_icmp .ge 49, 3) := by decide +kernel
theorem dX4_silent_47 : decode cX4_silent 47 = .ok (.aload_n 0, 1) := by decide +kernel
theorem dX4_silent_48 : decode cX4_silent 48 = .ok (.getfield 25, 3) := by decide +kernel
theorem dX4_silent_51 : decode cX4_silent 51 = .ok (.iload 6, 2) := by decide +kernel
theorem dX4_silent_53 : decode cX4_silent 53 = .ok (.invokevirtual 175, 3) := by decide +kernel
theorem dX4_silent_56 : decode cX4_silent 56 = .ok (.ifCond .eq 8, 3) := by decide +kernel
theorem dX4_silent_59 : decode cX4_silent 59 = .ok (.iconst 0, 1) := by decide +kernel
theorem dX4_silent_60 : decode cX4_silent 60 = .ok (.istore_n 3, 1) := by decide +kernel
theorem dX4_silent_61 : decode cX4_silent 61 = .ok (.goto 26, 3) := by decide +kernel
theorem dX4_silent_64 : decode cX4_silent 64 = .ok (.iinc 2 1, 3) := by decide +kernel
theorem dX4_silent_67 : decode cX4_silent 67 = .ok (.iinc 3 1, 3) := by decide +kernel
theorem dX4_silent_70 : decode cX4_silent 70 = .ok (.iload_n 3, 1) := by decide +kernel
theorem dX4_silent_71 : decode cX4_silent 71 = .ok (.iload 4, 2) := by decide +kernel
theorem dX4_silent_73 : decode cX4_silent 73 = .ok (.if_icmp .le 14, 3) := by decide +kernel
theorem dX4_silent_76 : decode cX4_silent 76 = .ok (.iload_n 3, 1) := by decide +kernel
theorem dX4_silent_77 : decode cX4_silent 77 = .ok (.istore 4, 2) := by decide +kernel
theorem dX4_silent_79 : decode cX4_silent 79 = .ok (.iload 6, 2) := by decide +kernel
theorem dX4_silent_81 : decode cX4_silent 81 = .ok (.iconst 1, 1) := by decide +kernel
theorem dX4_silent_82 : decode cX4_silent 82 = .ok (.iadd, 1) := by decide +kernel
theorem dX4_silent_83 : decode cX4_silent 83 = .ok (.iload_n 3, 1) := by decide +kernel
theorem dX4_silent_84 : decode cX4_silent 84 = .ok (.isub, 1) := by decide +kernel
theorem dX4_silent_85 : decode cX4_silent 85 = .ok (.istore 5, 2) := by decide +kernel
theorem dX4_silent_87 : decode cX4_silent 87 = .ok (.iinc 6 1, 3) := by decide +kernel
theorem dX4_silent_90 : decode cX4_silent 90 = .ok (.goto (-50), 3) := by decide +kernel
theorem dX4_silent_93 : decode cX4_silent 93 = .ok (.iload_n 1, 1) := by decide +kernel
theorem dX4_silent_94 : decode cX4_silent 94 = .ok (.ifCond .ne 5, 3) := by decide +kernel
theorem dX4_silent_97 : decode cX4_silent 97 = .ok (.iload_n 2, 1) := by decide +kernel
theorem dX4_silent_98 : decode cX4_silent 98 = .ok (.ireturn, 1) := by decide +kernel
theorem dX4_silent_99 : decode cX4_silent 99 = .ok (.iload_n 1, 1) := by decide +kernel
theorem dX4_silent_100 : decode cX4_silent 100 = .ok (.iconst 1, 1) := by decide +kernel
theorem dX4_silent_101 : decode cX4_silent 101 = .ok (.if_icmp .ne 8, 3) := by decide +kernel
theorem dX4_silent_104 : decode cX4_silent 104 = .ok (.iload 4, 2) := by decide +kernel
theorem dX4_silent_106 : decode cX4_silent 106 = .ok (.goto 5, 3) := by decide +kernel
theorem dX4_silent_109 : decode cX4_silent 109 = .ok (.iload 5, 2) := by decide +kernel
theorem dX4_silent_111 : decode cX4_silent 111 = .ok (.ireturn, 1) := by decide +kernel
theorem dX4_colds_0 : decode cX4_colds 0 = .ok (.aload_n 0, 1) := by decide +kernel
theorem dX4_colds_1 : decode cX4_colds 1 = .ok (.iload_n 1, 1) := by decide +kernel
theorem dX4_colds_2 : decode cX4_colds 2 = .ok (.invokevirtual 79, 3) := by decide +kernel
theorem dX4_colds_5 : decode cX4_colds 5 = .ok (.ifCond .ne 10, 3) := by decide +kernel
theorem dX4_colds_8 : decode cX4_colds 8 = .ok (.iload_n 2, 1) := by decide +kernel
theorem dX4_colds_9 : decode cX4_colds 9 = .ok (.invokestatic 146, 3) := by decide +kernel
theorem dX4_colds_12 : decode cX4_colds 12 = .ok (.ifCond .eq 9, 3) := by decide +kernel
theorem dX4_colds_15 : decode cX4_colds 15 = .ok (.aload_n 0, 1) := by decide +kernel
theorem dX4_colds_16 : decode cX4_colds 16 = .ok (.iconst (-1), 1) := by decide +kernel
theorem dX4_colds_17 : decode cX4_colds 17 = .ok (.invokevirtual 239, 3) := by decide +kernel
theorem dX4_colds_20 : decode cX4_colds 20 = .ok (.lreturn, 1) := by decide +kernel
theorem dX4_colds_21 : decode cX4_colds 21 = .ok (.iload_n 3, 1) := by decide +kernel
theorem dX4_colds_22 : decode cX4_colds 22 = .ok (.iconst 2, 1) := by decide +kernel
theorem dX4_colds_23 : decode cX4_colds 23 = .ok (.if_icmp .ge 10, 3) := by decide +kernel
theorem dX4_colds_26 : decode cX4_colds 26 = .ok (.aload_n 0, 1) := by decide +kernel
theorem dX4_colds_27 : decode cX4_colds 27 = .ok (.bipush (-4), 2) := by decide +kernel
theorem dX4_colds_29 : decode cX4_colds 29 = .ok (.invokevirtual 239, 3) := by decide +kernel
theorem dX4_colds_32 : decode cX4_colds 32 = .ok (.lreturn, 1) := by decide +kernel
theorem dX4_colds_33 : decode cX4_colds 33 = .ok (.iload_n 3, 1) := by decide +kernel
theorem dX4_colds_34 : decode cX4_colds 34 = .ok (.bipush 20, 2) := by decide +kernel
theorem dX4_colds_36 : decode cX4_colds 36 = .ok (.if_icmp .le 10, 3) := by decide +kernel
theorem dX4_colds_39 : decode cX4_colds 39 = .ok (.aload_n 0, 1) := by decide +kernel
theorem dX4_colds_40 : decode cX4_colds 40 = .ok (.bipush (-6), 2) := by decide +kernel
theorem dX4_colds_42 : decode cX4_colds 42 = .ok (.invokevirtual 239, 3) := by decide +kernel
theorem dX4_colds_45 : decode cX4_colds 45 = .ok (.lreturn, 1) := by decide +kernel
theorem dX4_colds_46 : decode cX4_colds 46 = .ok (.iload 4, 2) := by decide +kernel
theorem dX4_colds_48 : decode cX4_colds 48 = .ok (.iconst 2, 1) := by decide +kernel
theorem dX4_colds_49 : decode cX4_colds 49 = .ok (.invokestatic 83, 3) := by decide +kernel
theorem dX4_colds_52 : decode cX4_colds 52 = .ok (.ifCond .eq 10, 3) := by decide +kernel
theorem dX4_colds_55 : decode cX4_colds 55 = .ok (.aload_n 0, 1) := by decide +kernel
theorem dX4_colds_56 : decode cX4_colds 56 = .ok (.bipush (-2), 2) := by decide +kernel
theorem dX4_colds_58 : decode cX4_colds 58 = .ok (.invokevirtual 239, 3) := by decide +kernel
theorem dX4_colds_61 : decode cX4_colds 61 = .ok (.lreturn, 1) := by decide +kernel
theorem dX4_colds_62 : decode cX4_colds 62 = .ok (.aload_n 0, 1) := by decide +kernel
theorem dX4_colds_63 : decode cX4_colds 63 = .ok (.getfield 16, 3) := by decide +kernel
theorem dX4_colds_66 : decode cX4_colds 66 = .ok (.aload_n 0, 1) := by decide +kernel
theorem dX4_colds_67 : decode cX4_colds 67 = .ok (.getfield 12, 3) := by decide +kernel
theorem dX4_colds_70 : decode cX4_colds 70 = .ok (.invokevirtual 65, 3) := by decide +kernel
theorem dX4_colds_73 : decode cX4_colds 73 = .ok (.aload_n 0, 1) := by decide +kernel
theorem dX4_colds_74 : decode cX4_colds 74 = .ok (.getfield 12, 3) := by decide +kernel
theorem dX4_colds_77 : decode cX4_colds 77 = .ok (.getfield 114, 3) := by decide +kernel
theorem dX4_colds_80 : decode cX4_colds 80 = .ok (.aload_n 0, 1) := by decide +kernel
theorem dX4_colds_81 : decode cX4_colds 81 = .ok (.getfield 12, 3) := by decide +kernel
theorem dX4_colds_84 : decode cX4_colds 84 = .ok (.getfield 205, 3) := by decide +kernel
theorem dX4_colds_87 : decode cX4_colds 87 = .ok (.invokestatic 178, 3) := by decide +kernel
theorem dX4_colds_90 : decode cX4_colds 90 = .ok (.isub, 1) := by decide +kernel
theorem dX4_colds_91 : decode cX4_colds 91 = .ok (.istore 5, 2) := by decide +kernel
theorem dX4_colds_93 : decode cX4_colds 93 = .ok (.lconst 0, 1) := by decide +kernel
theorem dX4_colds_94 : decode cX4_colds 94 = .ok (.lstore 6, 2) := by decide +kernel
theorem dX4_colds_96 : decode cX4_colds 96 = .ok (.iconst 0, 1) := by decide +kernel
theorem dX4_colds_97 : decode cX4_colds 97 = .ok (.istore 8, 2) := by decide +kernel
theorem dX4_colds_99 : decode cX4_colds 99 = .ok (.iload 8, 2) := by decide +kernel
theorem dX4_colds_101 : decode cX4_colds 101 = .ok (.iconst 1, 1) := by decide +kernel
theorem dX4_colds_102 : decode cX4_colds 102 = .ok (.aload_n 0, 1) := by decide +kernel
theorem dX4_colds_103 : decode cX4_colds 103 = .ok (.getfield 12, 3) := by decide +kernel
theorem dX4_colds_106 : decode cX4_colds 106 = .ok (.getfield 114, 3) := by decide +kernel
theorem dX4_colds_109 : decode cX4_colds 109 = .ok (.ishl, 1) := by decide +kernel
theorem dX4_colds_110 : decode cX4_colds 110 = .ok (.if_icmp .ge 84, 3) := by decide +kernel
theorem dX4_colds_113 : decode cX4_colds 113 = .ok (.iload 8, 2) := by decide +kernel
theorem dX4_colds_115 : decode cX4_colds 115 = .ok (.aload_n 0, 1) := by decide +kernel
theorem dX4_colds_116 : decode cX4_colds 116 = .ok (.getfield 12, 3) := by decide +kernel
theorem dX4_colds_119 : decode cX4_colds 119 = .ok (.getfield 205, 3) := by decide +kernel
theorem dX4_colds_122 : decode cX4_colds 122 = .ok (.iand, 1) := by decide +kernel
theorem dX4_colds_123 : decode cX4_colds 123 = .ok (.ifCond .ne 65, 3) := by decide +kernel
theorem dX4_colds_126 : decode cX4_colds 126 = .ok (.aload_n 0, 1) := by decide +kernel
theorem dX4_colds_127 : decode cX4_colds 127 = .ok (.getfield 16, 3) := by decide +kernel
theorem dX4_colds_130 : decode cX4_colds 130 = .ok (.aload_n 0, 1) := by decide +kernel
theorem dX4_colds_131 : decode cX4_colds 131 = .ok (.getfield 12, 3) := by decide +kernel
theorem dX4_colds_134 : decode cX4_colds 134 = .ok (.getfield 205, 3) := by decide +kernel
theorem dX4_colds_137 : decode cX4_colds 137 = .ok (.iload 8, 2) := by decide +kernel
theorem dX4_colds_139 : decode cX4_colds 139 = .ok (.ior, 1) := by decide +kernel
theorem dX4_colds_140 : decode cX4_colds 140 = .ok (.putfield 205, 3) := by decide +kernel
theorem dX4_colds_143 : decode cX4_colds 143 = .ok (.aload_n 0, 1) := by decide +kernel
theorem dX4_colds_144 : decode cX4_colds 144 = .ok (.getfield 25, 3) := by decide +kernel
theorem dX4_colds_147 : decode cX4_colds 147 = .ok (.aload_n 0, 1) := by decide +kernel
theorem dX4_colds_148 : decode cX4_colds 148 = .ok (.getfield 16, 3) := by decide +kernel
theorem dX4_colds_151 : decode cX4_colds 151 = .ok (.invokevirtual 158, 3) := by decide +kernel
theorem dX4_colds_154 : decode cX4_colds 154 = .ok (.aload_n 0, 1) := by decide +kernel
theorem dX4_colds_155 : decode cX4_colds 155 = .ok (.getfield 25, 3) := by decide +kernel
theorem dX4_colds_158 : decode cX4_colds 158 = .ok (.iload_n 2, 1) := by decide +kernel
theorem dX4_colds_159 : decode cX4_colds 159 = .ok (.invokevirtual 195, 3) := by decide +kernel
theorem dX4_colds_162 : decode cX4_colds 162 = .ok (.iload_n 1, 1) := by decide +kernel
theorem dX4_colds_163 : decode cX4_colds 163 = .ok (.ishr, 1) := by decide +kernel
theorem dX4_colds_164 : decode cX4_colds 164 = .ok (.iconst 1, 1) := by decide +kernel
theorem dX4_colds_165 : decode cX4_colds 165 = .ok (.iand, 1) := by decide +kernel
theorem dX4_colds_166 : decode cX4_colds 166 = .ok (.ifCond .eq 22, 3) := by decide +kernel
theorem dX4_colds_169 : decode cX4_colds 169 = .ok (.lload 6, 2) := by decide +kernel
theorem dX4_colds_171 : decode cX4_colds 171 = .ok (.iload_n 3, 1) := by decide +kernel
theorem dX4_colds_172 : decode cX4_colds 172 = .ok (.iconst 1, 1) := by decide +kernel
theorem dX4_colds_173 : decode cX4_colds 173 = .ok (.isub, 1) := by decide +kernel
theorem dX4_colds_174 : decode cX4_colds 174 = .ok (.iload 5, 2) := by decide +kernel
theorem dX4_colds_176 : decode cX4_colds 176 = .ok (.iload 8, 2) := by decide +kernel
theorem dX4_colds_178 : decode cX4_colds 178 = .ok (.invokestatic 178, 3) := by decide +kernel
theorem dX4_colds_181 : decode cX4_colds 181 = .ok (.isub, 1) := by decide +kernel
theorem dX4_colds_182 : decode cX4_colds 182 = .ok (.invokestatic 243, 3) := by decide +kernel
theorem dX4_colds_185 : decode cX4_colds 185 = .ok (.ladd, 1) := by decide +kernel
theorem dX4_colds_186 : decode cX4_colds 186 = .ok (.lstore 6, 2) := by decide +kernel
theorem dX4_colds_188 : decode cX4_colds 188 = .ok (.iinc 8 1, 3) := by decide +kernel
theorem dX4_colds_191 : decode cX4_colds 191 = .ok (.goto (-92), 3) := by decide +kernel
theorem dX4_colds_194 : decode cX4_colds 194 = .ok (.lload 6, 2) := by decide +kernel
theorem dX4_colds_196 : decode cX4_colds 196 = .ok (.iload_n 3, 1) := by decide +kernel
theorem dX4_colds_197 : decode cX4_colds 197 = .ok (.iload 5, 2) := by decide +kernel
theorem dX4_colds_199 : decode cX4_colds 199 = .ok (.invokestatic 243, 3) := by decide +kernel
theorem dX4_colds_202 : decode cX4_colds 202 = .ok (.iload 4, 2) := by decide +kernel
theorem dX4_colds_204 : decode cX4_colds 204 = .ok (.invokestatic 247, 3) := by decide +kernel
theorem dX4_colds_207 : decode cX4_colds 207 = .ok (.lreturn, 1) := by decide +kernel
theorem dX4_power_0 : decode cX4_power 0 = .ok (.lconst 1, 1) := by decide +kernel
theorem dX4_power_1 : decode cX4_power 1 = .ok (.lstore_n 2, 1) := by decide +kernel
theorem dX4_power_2 : decode cX4_power 2 = .ok (.iconst 0, 1) := by decide +kernel
theorem dX4_power_3 : decode cX4_power 3 = .ok (.istore 4, 2) := by decide +kernel
theorem dX4_power_5 : decode cX4_power 5 = .ok (.iload 4, 2) := by decide +kernel
theorem dX4_power_7 : decode cX4_power 7 = .ok (.iload_n 1, 1) := by decide +kernel
theorem dX4_power_8 : decode cX4_power 8 = .ok (.if_icmp .ge 21, 3) := by decide +kernel
theorem dX4_power_11 : decode cX4_power 11 = .ok (.iload 4, 2) := by decide +kernel
theorem dX4_power_13 : decode cX4_power 13 = .ok (.bipush 7, 2) := by decide +kernel
theorem dX4_power_15 : decode cX4_power 15 = .ok (.if_icmp .ge 14, 3) := by decide +kernel
theorem dX4_power_18 : decode cX4_power 18 = .ok (.lload_n 2, 1) := by decide +kernel
theorem dX4_power_19 : decode cX4_power 19 = .ok (.iload_n 0, 1) := by decide +kernel
theorem dX4_power_20 : decode cX4_power 20 = .ok (.i2l, 1) := by decide +kernel
theorem dX4_power_21 : decode cX4_power 21 = .ok (.lmul, 1) := by decide +kernel
theorem dX4_power_22 : decode cX4_power 22 = .ok (.lstore_n 2, 1) := by decide +kernel
theorem dX4_power_23 : decode cX4_power 23 = .ok (.iinc 4 1, 3) := by decide +kernel
theorem dX4_power_26 : decode cX4_power 26 = .ok (.goto (-21), 3) := by decide +kernel
theorem dX4_power_29 : decode cX4_power 29 = .ok (.lload_n 2, 1) := by decide +kernel
theorem dX4_power_30 : decode cX4_power 30 = .ok (.lreturn, 1) := by decide +kernel
theorem dX4_partOf_0 : decode cX4_partOf 0 = .ok (.lload_n 2, 1) := by decide +kernel
theorem dX4_partOf_1 : decode cX4_partOf 1 = .ok (.lstore 5, 2) := by decide +kernel
theorem dX4_partOf_3 : decode cX4_partOf 3 = .ok (.lload_n 0, 1) := by decide +kernel
theorem dX4_partOf_4 : decode cX4_partOf 4 = .ok (.lstore 7, 2) := by decide +kernel
theorem dX4_partOf_6 : decode cX4_partOf 6 = .ok (.iconst 0, 1) := by decide +kernel
theorem dX4_partOf_7 : decode cX4_partOf 7 = .ok (.istore 9, 2) := by decide +kernel
theorem dX4_partOf_9 : decode cX4_partOf 9 = .ok (.iload 9, 2) := by decide +kernel
theorem dX4_partOf_11 : decode cX4_partOf 11 = .ok (.sipush 128, 3) := by decide +kernel
theorem dX4_partOf_14 : decode cX4_partOf 14 = .ok (.if_icmp .ge 31, 3) := by decide +kernel
theorem dX4_partOf_17 : decode cX4_partOf 17 = .ok (.lload 7, 2) := by decide +kernel
theorem dX4_partOf_19 : decode cX4_partOf 19 = .ok (.lconst 0, 1) := by decide +kernel
theorem dX4_partOf_20 : decode cX4_partOf 20 = .ok (.lcmp, 1) := by decide +kernel
theorem dX4_partOf_21 : decode cX4_partOf 21 = .ok (.ifCond .le 24, 3) := by decide +kernel
theorem dX4_partOf_24 : decode cX4_partOf 24 = .ok (.lload 5, 2) := by decide +kernel
theorem dX4_partOf_26 : decode cX4_partOf 26 = .ok (.lload 7, 2) := by decide +kernel
theorem dX4_partOf_28 : decode cX4_partOf 28 = .ok (.lrem, 1) := by decide +kernel
theorem dX4_partOf_29 : decode cX4_partOf 29 = .ok (.lstore 10, 2) := by decide +kernel
theorem dX4_partOf_31 : decode cX4_partOf 31 = .ok (.lload 7, 2) := by decide +kernel
theorem dX4_partOf_33 : decode cX4_partOf 33 = .ok (.lstore 5, 2) := by decide +kernel
theorem dX4_partOf_35 : decode cX4_partOf 35 = .ok (.lload 10, 2) := by decide +kernel
theorem dX4_partOf_37 : decode cX4_partOf 37 = .ok (.lstore 7, 2) := by decide +kernel
theorem dX4_partOf_39 : decode cX4_partOf 39 = .ok (.iinc 9 1, 3) := by decide +kernel
theorem dX4_partOf_42 : decode cX4_partOf 42 = .ok (.goto (-33), 3) := by decide +kernel
theorem dX4_partOf_45 : decode cX4_partOf 45 = .ok (.lload_n 0, 1) := by decide +kernel
theorem dX4_partOf_46 : decode cX4_partOf 46 = .ok (.lconst 0, 1) := by decide +kernel
theorem dX4_partOf_47 : decode cX4_partOf 47 = .ok (.lcmp, 1) := by decide +kernel
theorem dX4_partOf_48 : decode cX4_partOf 48 = .ok (.ifCond .eq 10, 3) := by decide +kernel
theorem dX4_partOf_51 : decode cX4_partOf 51 = .ok (.lload 5, 2) := by decide +kernel
theorem dX4_partOf_53 : decode cX4_partOf 53 = .ok (.lconst 0, 1) := by decide +kernel
theorem dX4_partOf_54 : decode cX4_partOf 54 = .ok (.lcmp, 1) := by decide +kernel
theorem dX4_partOf_55 : decode cX4_partOf 55 = .ok (.ifCond .gt 7, 3) := by decide +kernel
theorem dX4_partOf_58 : decode cX4_partOf 58 = .ok (.iload 4, 2) := by decide +kernel
theorem dX4_partOf_60 : decode cX4_partOf 60 = .ok (.i2l, 1) := by decide +kernel
theorem dX4_partOf_61 : decode cX4_partOf 61 = .ok (.lreturn, 1) := by decide +kernel
theorem dX4_partOf_62 : decode cX4_partOf 62 = .ok (.iload 4, 2) := by decide +kernel
theorem dX4_partOf_64 : decode cX4_partOf 64 = .ok (.ifCond .ne 10, 3) := by decide +kernel
theorem dX4_partOf_67 : decode cX4_partOf 67 = .ok (.lload_n 0, 1) := by decide +kernel
theorem dX4_partOf_68 : decode cX4_partOf 68 = .ok (.lload 5, 2) := by decide +kernel
theorem dX4_partOf_70 : decode cX4_partOf 70 = .ok (.ldiv, 1) := by decide +kernel
theorem dX4_partOf_71 : decode cX4_partOf 71 = .ok (.goto 7, 3) := by decide +kernel
theorem dX4_partOf_74 : decode cX4_partOf 74 = .ok (.lload_n 2, 1) := by decide +kernel
theorem dX4_partOf_75 : decode cX4_partOf 75 = .ok (.lload 5, 2) := by decide +kernel
theorem dX4_partOf_77 : decode cX4_partOf 77 = .ok (.ldiv, 1) := by decide +kernel
theorem dX4_partOf_78 : decode cX4_partOf 78 = .ok (.lreturn, 1) := by decide +kernel
theorem dX4_list_0 : decode cX4_list 0 = .ok (.aload_n 0, 1) := by decide +kernel
theorem dX4_list_1 : decode cX4_list 1 = .ok (.iload_n 1, 1) := by decide +kernel
theorem dX4_list_2 : decode cX4_list 2 = .ok (.invokevirtual 79, 3) := by decide +kernel
theorem dX4_list_5 : decode cX4_list 5 = .ok (.ifCond .eq 9, 3) := by decide +kernel
theorem dX4_list_8 : decode cX4_list 8 = .ok (.aload_n 0, 1) := by decide +kernel
theorem dX4_list_9 : decode cX4_list 9 = .ok (.iconst (-1), 1) := by decide +kernel
theorem dX4_list_10 : decode cX4_list 10 = .ok (.invokevirtual 50, 3) := by decide +kernel
theorem dX4_list_13 : decode cX4_list 13 = .ok (.ireturn, 1) := by decide +kernel
theorem dX4_list_14 : decode cX4_list 14 = .ok (.iload_n 2, 1) := by decide +kernel
theorem dX4_list_15 : decode cX4_list 15 = .ok (.iconst 2, 1) := by decide +kernel
theorem dX4_list_16 : decode cX4_list 16 = .ok (.invokestatic 83, 3) := by decide +kernel
theorem dX4_list_19 : decode cX4_list 19 = .ok (.ifCond .eq 10, 3) := by decide +kernel
theorem dX4_list_22 : decode cX4_list 22 = .ok (.aload_n 0, 1) := by decide +kernel
theorem dX4_list_23 : decode cX4_list 23 = .ok (.bipush (-2), 2) := by decide +kernel
theorem dX4_list_25 : decode cX4_list 25 = .ok (.invokevirtual 50, 3) := by decide +kernel
theorem dX4_list_28 : decode cX4_list 28 = .ok (.ireturn, 1) := by decide +kernel
theorem dX4_list_29 : decode cX4_list 29 = .ok (.aload_n 0, 1) := by decide +kernel
theorem dX4_list_30 : decode cX4_list 30 = .ok (.getfield 25, 3) := by decide +kernel
theorem dX4_list_33 : decode cX4_list 33 = .ok (.aload_n 0, 1) := by decide +kernel
theorem dX4_list_34 : decode cX4_list 34 = .ok (.getfield 12, 3) := by decide +kernel
theorem dX4_list_37 : decode cX4_list 37 = .ok (.invokevirtual 158, 3) := by decide +kernel
theorem dX4_list_40 : decode cX4_list 40 = .ok (.aload_n 0, 1) := by decide +kernel
theorem dX4_list_41 : decode cX4_list 41 = .ok (.getfield 25, 3) := by decide +kernel
theorem dX4_list_44 : decode cX4_list 44 = .ok (.bipush 24, 2) := by decide +kernel
theorem dX4_list_46 : decode cX4_list 46 = .ok (.iload_n 1, 1) := by decide +kernel
theorem dX4_list_47 : decode cX4_list 47 = .ok (.invokevirtual 168, 3) := by decide +kernel
theorem dX4_list_50 : decode cX4_list 50 = .ok (.aload_n 0, 1) := by decide +kernel
theorem dX4_list_51 : decode cX4_list 51 = .ok (.getfield 12, 3) := by decide +kernel
theorem dX4_list_54 : decode cX4_list 54 = .ok (.getfield 96, 3) := by decide +kernel
theorem dX4_list_57 : decode cX4_list 57 = .ok (.iload_n 1, 1) := by decide +kernel
theorem dX4_list_58 : decode cX4_list 58 = .ok (.iaload, 1) := by decide +kernel
theorem dX4_list_59 : decode cX4_list 59 = .ok (.iconst (-1), 1) := by decide +kernel
theorem dX4_list_60 : decode cX4_list 60 = .ok (.ixor, 1) := by decide +kernel
theorem dX4_list_61 : decode cX4_list 61 = .ok (.iand, 1) := by decide +kernel
theorem dX4_list_62 : decode cX4_list 62 = .ok (.istore_n 3, 1) := by decide +kernel
theorem dX4_list_63 : decode cX4_list 63 = .ok (.iload_n 2, 1) := by decide +kernel
theorem dX4_list_64 : decode cX4_list 64 = .ok (.ifCond .ne 5, 3) := by decide +kernel
theorem dX4_list_67 : decode cX4_list 67 = .ok (.iload_n 3, 1) := by decide +kernel
theorem dX4_list_68 : decode cX4_list 68 = .ok (.ireturn, 1) := by decide +kernel
theorem dX4_list_69 : decode cX4_list 69 = .ok (.bipush (-9), 2) := by decide +kernel
theorem dX4_list_71 : decode cX4_list 71 = .ok (.istore 4, 2) := by decide +kernel
theorem dX4_list_73 : decode cX4_list 73 = .ok (.iconst 0, 1) := by decide +kernel
theorem dX4_list_74 : decode cX4_list 74 = .ok (.istore 5, 2) := by decide +kernel
theorem dX4_list_76 : decode cX4_list 76 = .ok (.iload 5, 2) := by decide +kernel
theorem dX4_list_78 : decode cX4_list 78 = .ok (.bipush 10, 2) := by decide +kernel
theorem dX4_list_80 : decode cX4_list 80 = .ok (.if_icmp .ge 35, 3) := by decide +kernel
theorem dX4_list_83 : decode cX4_list 83 = .ok (.iload_n 3, 1) := by decide +kernel
theorem dX4_list_84 : decode cX4_list 84 = .ok (.iload 5, 2) := by decide +kernel
theorem dX4_list_86 : decode cX4_list 86 = .ok (.ishr, 1) := by decide +kernel
theorem dX4_list_87 : decode cX4_list 87 = .ok (.iconst 1, 1) := by decide +kernel
theorem dX4_list_88 : decode cX4_list 88 = .ok (.iand, 1) := by decide +kernel
theorem dX4_list_89 : decode cX4_list 89 = .ok (.ifCond .eq 20, 3) := by decide +kernel
theorem dX4_list_92 : decode cX4_list 92 = .ok (.iload 4, 2) := by decide +kernel
theorem dX4_list_94 : decode cX4_list 94 = .ok (.aload_n 0, 1) := by decide +kernel
theorem dX4_list_95 : decode cX4_list 95 = .ok (.getfield 25, 3) := by decide +kernel
theorem dX4_list_98 : decode cX4_list 98 = .ok (.iload_n 1, 1) := by decide +kernel
theorem dX4_list_99 : decode cX4_list 99 = .ok (.iload 5, 2) := by decide +kernel
theorem dX4_list_101 : decode cX4_list 101 = .ok (.invokevirtual 189, 3) := by decide +kernel
theorem dX4_list_104 : decode cX4_list 104 = .ok (.invokestatic 251, 3) := by decide +kernel
theorem dX4_list_107 : decode cX4_list 107 = .ok (.istore 4, 2) := by decide +kernel
theorem dX4_list_109 : decode cX4_list 109 = .ok (.iinc 5 1, 3) := by decide +kernel
theorem dX4_list_112 : decode cX4_list 112 = .ok (.goto (-36), 3) := by decide +kernel
theorem dX4_list_115 : decode cX4_list 115 = .ok (.iload 4, 2) := by decide +kernel
theorem dX4_list_117 : decode cX4_list 117 = .ok (.ireturn, 1) := by decide +kernel
theorem dX4_days_0 : decode cX4_days 0 = .ok (.iload_n 1, 1) := by decide +kernel
theorem dX4_days_1 : decode cX4_days 1 = .ok (.iconst (-1), 1) := by decide +kernel
theorem dX4_days_2 : decode cX4_days 2 = .ok (.if_icmp .eq 17, 3) := by decide +kernel
theorem dX4_days_5 : decode cX4_days 5 = .ok (.aload_n 0, 1) := by decide +kernel
theorem dX4_days_6 : decode cX4_days 6 = .ok (.iload_n 1, 1) := by decide +kernel
theorem dX4_days_7 : decode cX4_days 7 = .ok (.invokevirtual 79, 3) := by decide +kernel
theorem dX4_days_10 : decode cX4_days 10 = .ok (.ifCond .eq 9, 3) := by decide +kernel
theorem dX4_days_13 : decode cX4_days 13 = .ok (.aload_n 0, 1) := by decide +kernel
theorem dX4_days_14 : decode cX4_days 14 = .ok (.iconst (-1), 1) := by decide +kernel
theorem dX4_days_15 : decode cX4_days 15 = .ok (.invokevirtual 50, 3) := by decide +kernel
theorem dX4_days_18 : decode cX4_days 18 = .ok (.ireturn, 1) := by decide +kernel
theorem dX4_days_19 : decode cX4_days 19 = .ok (.aload_n 0, 1) := by decide +kernel
theorem dX4_days_20 : decode cX4_days 20 = .ok (.getfield 16, 3) := by decide +kernel
theorem dX4_days_23 : decode cX4_days 23 = .ok (.aload_n 0, 1) := by decide +kernel
theorem dX4_days_24 : decode cX4_days 24 = .ok (.getfield 12, 3) := by decide +kernel
theorem dX4_days_27 : decode cX4_days 27 = .ok (.invokevirtual 65, 3) := by decide +kernel
theorem dX4_days_30 : decode cX4_days 30 = .ok (.iconst 0, 1) := by decide +kernel
theorem dX4_days_31 : decode cX4_days 31 = .ok (.istore_n 2, 1) := by decide +kernel
theorem dX4_days_32 : decode cX4_days 32 = .ok (.iload_n 2, 1) := by decide +kernel
theorem dX4_days_33 : decode cX4_days 33 = .ok (.bipush 70, 2) := by decide +kernel
theorem dX4_days_35 : decode cX4_days 35 = .ok (.if_icmp .ge 20, 3) := by decide +kernel
theorem dX4_days_38 : decode cX4_days 38 = .ok (.aload_n 0, 1) := by decide +kernel
theorem dX4_days_39 : decode cX4_days 39 = .ok (.aload_n 0, 1) := by decide +kernel
theorem dX4_days_40 : decode cX4_days 40 = .ok (.getfield 16, 3) := by decide +kernel
theorem dX4_days_43 : decode cX4_days 43 = .ok (.invokevirtual 256, 3) := by decide +kernel
theorem dX4_days_46 : decode cX4_days 46 = .ok (.ifCond .eq 9, 3) := by decide +kernel
theorem dX4_days_49 : decode cX4_days 49 = .ok (.iinc 2 1, 3) := by decide +kernel
theorem dX4_days_52 : decode cX4_days 52 = .ok (.goto (-20), 3) := by decide +kernel
theorem dX4_days_55 : decode cX4_days 55 = .ok (.iload_n 1, 1) := by decide +kernel
theorem dX4_days_56 : decode cX4_days 56 = .ok (.iconst (-1), 1) := by decide +kernel
theorem dX4_days_57 : decode cX4_days 57 = .ok (.if_icmp .ne 7, 3) := by decide +kernel
theorem dX4_days_60 : decode cX4_days 60 = .ok (.iload_n 2, 1) := by decide +kernel
theorem dX4_days_61 : decode cX4_days 61 = .ok (.goto 12, 3) := by decide +kernel
theorem dX4_days_64 : decode cX4_days 64 = .ok (.aload_n 0, 1) := by decide +kernel
theorem dX4_days_65 : decode cX4_days 65 = .ok (.getfield 16, 3) := by decide +kernel
theorem dX4_days_68 : decode cX4_days 68 = .ok (.getfield 96, 3) := by decide +kernel
theorem dX4_days_71 : decode cX4_days 71 = .ok (.iload_n 1, 1) := by decide +kernel
theorem dX4_days_72 : decode cX4_days 72 = .ok (.iaload, 1) := by decide +kernel
theorem dX4_days_73 : decode cX4_days 73 = .ok (.ireturn, 1) := by decide +kernel
theorem dX4_dayChanges_0 : decode cX4_dayChanges 0 = .ok (.aload_n 1, 1) := by decide +kernel
theorem dX4_dayChanges_1 : decode cX4_dayChanges 1 = .ok (.invokevirtual 155, 3) := by decide +kernel
theorem dX4_dayChanges_4 : decode cX4_dayChanges 4 = .ok (.istore_n 2, 1) := by decide +kernel
theorem dX4_dayChanges_5 : decode cX4_dayChanges 5 = .ok (.aload_n 0, 1) := by decide +kernel
theorem dX4_dayChanges_6 : decode cX4_dayChanges 6 = .ok (.getfield 25, 3) := by decide +kernel
theorem dX4_dayChanges_9 : decode cX4_dayChanges 9 = .ok (.aload_n 1, 1) := by decide +kernel
theorem dX4_dayChanges_10 : decode cX4_dayChanges 10 = .ok (.invokevirtual 158, 3) := by decide +kernel
theorem dX4_dayChanges_13 : decode cX4_dayChanges 13 = .ok (.aload_n 0, 1) := by decide +kernel
theorem dX4_dayChanges_14 : decode cX4_dayChanges 14 = .ok (.getfield 25, 3) := by decide +kernel
theorem dX4_dayChanges_17 : decode cX4_dayChanges 17 = .ok (.aload_n 1, 1) := by decide +kernel
theorem dX4_dayChanges_18 : decode cX4_dayChanges 18 = .ok (.invokevirtual 161, 3) := by decide +kernel
theorem dX4_dayChanges_21 : decode cX4_dayChanges 21 = .ok (.aload_n 1, 1) := by decide +kernel
theorem dX4_dayChanges_22 : decode cX4_dayChanges 22 = .ok (.invokevirtual 155, 3) := by decide +kernel
theorem dX4_dayChanges_25 : decode cX4_dayChanges 25 = .ok (.iload_n 2, 1) := by decide +kernel
theorem dX4_dayChanges_26 : decode cX4_dayChanges 26 = .ok (.if_icmp .eq 7, 3) := by decide +kernel
theorem dX4_dayChanges_29 : decode cX4_dayChanges 29 = .ok (.iconst 1, 1) := by decide +kernel
theorem dX4_dayChanges_30 : decode cX4_dayChanges 30 = .ok (.goto 4, 3) := by decide +kernel
theorem dX4_dayChanges_33 : decode cX4_dayChanges 33 = .ok (.iconst 0, 1) := by decide +kernel
theorem dX4_dayChanges_34 : decode cX4_dayChanges 34 = .ok (.ireturn, 1) := by decide +kernel
theorem dX4_needed_0 : decode cX4_needed 0 = .ok (.aload_n 0, 1) := by decide +kernel
theorem dX4_needed_1 : decode cX4_needed 1 = .ok (.aload_n 0, 1) := by decide +kernel
theorem dX4_needed_2 : decode cX4_needed 2 = .ok (.getfield 12, 3) := by decide +kernel
theorem dX4_needed_5 : decode cX4_needed 5 = .ok (.invokevirtual 198, 3) := by decide +kernel
theorem dX4_needed_8 : decode cX4_needed 8 = .ok (.istore_n 1, 1) := by decide +kernel
theorem dX4_needed_9 : decode cX4_needed 9 = .ok (.aload_n 0, 1) := by decide +kernel
theorem dX4_needed_10 : decode cX4_needed 10 = .ok (.getfield 16, 3) := by decide +kernel
theorem dX4_needed_13 : decode cX4_needed 13 = .ok (.aload_n 0, 1) := by decide +kernel
theorem dX4_needed_14 : decode cX4_needed 14 = .ok (.getfield 12, 3) := by decide +kernel
theorem dX4_needed_17 : decode cX4_needed 17 = .ok (.invokevirtual 65, 3) := by decide +kernel
theorem dX4_needed_20 : decode cX4_needed 20 = .ok (.iconst 0, 1) := by decide +kernel
theorem dX4_needed_21 : decode cX4_needed 21 = .ok (.istore_n 2, 1) := by decide +kernel
theorem dX4_needed_22 : decode cX4_needed 22 = .ok (.iconst 0, 1) := by decide +kernel
theorem dX4_needed_23 : decode cX4_needed 23 = .ok (.istore_n 3, 1) := by decide +kernel
theorem dX4_needed_24 : decode cX4_needed 24 = .ok (.iload_n 3, 1) := by decide +kernel
theorem dX4_needed_25 : decode cX4_needed 25 = .ok (.aload_n 0, 1) := by decide +kernel
theorem dX4_needed_26 : decode cX4_needed 26 = .ok (.getfield 12, 3) := by decide +kernel
theorem dX4_needed_29 : decode cX4_needed 29 = .ok (.getfield 121, 3) := by decide +kernel
theorem dX4_needed_32 : decode cX4_needed 32 = .ok (.if_icmp .ge 37, 3) := by decide +kernel
theorem dX4_needed_35 : decode cX4_needed 35 = .ok (.aload_n 0, 1) := by decide +kernel
theorem dX4_needed_36 : decode cX4_needed 36 = .ok (.getfield 16, 3) := by decide +kernel
theorem dX4_needed_39 : decode cX4_needed 39 = .ok (.iconst 1, 1) := by decide +kernel
theorem dX4_needed_40 : decode cX4_needed 40 = .ok (.iload_n 3, 1) := by decide +kernel
theorem dX4_needed_41 : decode cX4_needed 41 = .ok (.ishl, 1) := by decide +kernel
theorem dX4_needed_42 : decode cX4_needed 42 = .ok (.putfield 236, 3) := by decide +kernel
theorem dX4_needed_45 : decode cX4_needed 45 = .ok (.aload_n 0, 1) := by decide +kernel
theorem dX4_needed_46 : decode cX4_needed 46 = .ok (.aload_n 0, 1) := by decide +kernel
theorem dX4_needed_47 : decode cX4_needed 47 = .ok (.getfield 16, 3) := by decide +kernel
theorem dX4_needed_50 : decode cX4_needed 50 = .ok (.invokevirtual 198, 3) := by decide +kernel
theorem dX4_needed_53 : decode cX4_needed 53 = .ok (.iload_n 1, 1) := by decide +kernel
theorem dX4_needed_54 : decode cX4_needed 54 = .ok (.if_icmp .ge 9, 3) := by decide +kernel
theorem dX4_needed_57 : decode cX4_needed 57 = .ok (.iload_n 2, 1) := by decide +kernel
theorem dX4_needed_58 : decode cX4_needed 58 = .ok (.iconst 1, 1) := by decide +kernel
theorem dX4_needed_59 : decode cX4_needed 59 = .ok (.iload_n 3, 1) := by decide +kernel
theorem dX4_needed_60 : decode cX4_needed 60 = .ok (.ishl, 1) := by decide +kernel
theorem dX4_needed_61 : decode cX4_needed 61 = .ok (.ior, 1) := by decide +kernel
theorem dX4_needed_62 : decode cX4_needed 62 = .ok (.istore_n 2, 1) := by decide +kernel
theorem dX4_needed_63 : decode cX4_needed 63 = .ok (.iinc 3 1, 3) := by decide +kernel
theorem dX4_needed_66 : decode cX4_needed 66 = .ok (.goto (-42), 3) := by decide +kernel
theorem dX4_needed_69 : decode cX4_needed 69 = .ok (.iload_n 2, 1) := by decide +kernel
theorem dX4_needed_70 : decode cX4_needed 70 = .ok (.ireturn, 1) := by decide +kernel
theorem dX4_loudest_0 : decode cX4_loudest 0 = .ok (.iload_n 1, 1) := by decide +kernel
theorem dX4_loudest_1 : decode cX4_loudest 1 = .ok (.iconst 2, 1) := by decide +kernel
theorem dX4_loudest_2 : decode cX4_loudest 2 = .ok (.invokestatic 83, 3) := by decide +kernel
theorem dX4_loudest_5 : decode cX4_loudest 5 = .ok (.ifCond .eq 10, 3) := by decide +kernel
theorem dX4_loudest_8 : decode cX4_loudest 8 = .ok (.aload_n 0, 1) := by decide +kernel
theorem dX4_loudest_9 : decode cX4_loudest 9 = .ok (.bipush (-2), 2) := by decide +kernel
theorem dX4_loudest_11 : decode cX4_loudest 11 = .ok (.invokevirtual 50, 3) := by decide +kernel
theorem dX4_loudest_14 : decode cX4_loudest 14 = .ok (.ireturn, 1) := by decide +kernel
theorem dX4_loudest_15 : decode cX4_loudest 15 = .ok (.aload_n 0, 1) := by decide +kernel
theorem dX4_loudest_16 : decode cX4_loudest 16 = .ok (.getfield 25, 3) := by decide +kernel
theorem dX4_loudest_19 : decode cX4_loudest 19 = .ok (.aload_n 0, 1) := by decide +kernel
theorem dX4_loudest_20 : decode cX4_loudest 20 = .ok (.getfield 12, 3) := by decide +kernel
theorem dX4_loudest_23 : decode cX4_loudest 23 = .ok (.invokevirtual 158, 3) := by decide +kernel
theorem dX4_loudest_26 : decode cX4_loudest 26 = .ok (.bipush (-9), 2) := by decide +kernel
theorem dX4_loudest_28 : decode cX4_loudest 28 = .ok (.istore_n 2, 1) := by decide +kernel
theorem dX4_loudest_29 : decode cX4_loudest 29 = .ok (.iconst 0, 1) := by decide +kernel
theorem dX4_loudest_30 : decode cX4_loudest 30 = .ok (.istore_n 3, 1) := by decide +kernel
theorem dX4_loudest_31 : decode cX4_loudest 31 = .ok (.iconst 0, 1) := by decide +kernel
theorem dX4_loudest_32 : decode cX4_loudest 32 = .ok (.istore 4, 2) := by decide +kernel
theorem dX4_loudest_34 : decode cX4_loudest 34 = .ok (.iload 4, 2) := by decide +kernel
theorem dX4_loudest_36 : decode cX4_loudest 36 = .ok (.aload_n 0, 1) := by decide +kernel
theorem dX4_loudest_37 : decode cX4_loudest 37 = .ok (.getfield 12, 3) := by decide +kernel
theorem dX4_loudest_40 : decode cX4_loudest 40 = .ok (.getfield 114, 3) := by decide +kernel
theorem dX4_loudest_43 : decode cX4_loudest 43 = .ok (.if_icmp .ge 61, 3) := by decide +kernel
theorem dX4_loudest_46 : decode cX4_loudest 46 = .ok (.iconst 0, 1) := by decide +kernel
theorem dX4_loudest_47 : decode cX4_loudest 47 = .ok (.istore 5, 2) := by decide +kernel
theorem dX4_loudest_49 : decode cX4_loudest 49 = .ok (.iconst 0, 1) := by decide +kernel
theorem dX4_loudest_50 : decode cX4_loudest 50 = .ok (.istore 6, 2) := by decide +kernel
theorem dX4_loudest_52 : decode cX4_loudest 52 = .ok (.iload 6, 2) := by decide +kernel
theorem dX4_loudest_54 : decode cX4_loudest 54 = .ok (.aload_n 0, 1) := by decide +kernel
theorem dX4_loudest_55 : decode cX4_loudest 55 = .ok (.getfield 12, 3) := by decide +kernel
theorem dX4_loudest_58 : decode cX4_loudest 58 = .ok (.getfield 121, 3) := by decide +kernel
theorem dX4_loudest_61 : decode cX4_loudest 61 = .ok (.if_icmp .ge 25, 3) := by decide +kernel
theorem dX4_loudest_64 : decode cX4_loudest 64 = .ok (.iload 5, 2) := by decide +kernel
theorem dX4_loudest_66 : decode cX4_loudest 66 = .ok (.aload_n 0, 1) := by decide +kernel
theorem dX4_loudest_67 : decode cX4_loudest 67 = .ok (.getfield 25, 3) := by decide +kernel
theorem dX4_loudest_70 : decode cX4_loudest 70 = .ok (.iload 6, 2) := by decide +kernel
theorem dX4_loudest_72 : decode cX4_loudest 72 = .ok (.iload 4, 2) := by decide +kernel
theorem dX4_loudest_74 : decode cX4_loudest 74 = .ok (.invokevirtual 224, 3) := by decide +kernel
theorem dX4_loudest_77 : decode cX4_loudest 77 = .ok (.iadd, 1) := by decide +kernel
theorem dX4_loudest_78 : decode cX4_loudest 78 = .ok (.istore 5, 2) := by decide +kernel
theorem dX4_loudest_80 : decode cX4_loudest 80 = .ok (.iinc 6 1, 3) := by decide +kernel
theorem dX4_loudest_83 : decode cX4_loudest 83 = .ok (.goto (-31), 3) := by decide +kernel
theorem dX4_loudest_86 : decode cX4_loudest 86 = .ok (.iload 5, 2) := by decide +kernel
theorem dX4_loudest_88 : decode cX4_loudest 88 = .ok (.iload_n 3, 1) := by decide +kernel
theorem dX4_loudest_89 : decode cX4_loudest 89 = .ok (.if_icmp .le 9, 3) := by decide +kernel
theorem dX4_loudest_92 : decode cX4_loudest 92 = .ok (.iload 5, 2) := by decide +kernel
theorem dX4_loudest_94 : decode cX4_loudest 94 = .ok (.istore_n 3, 1) := by decide +kernel
theorem dX4_loudest_95 : decode cX4_loudest 95 = .ok (.iload 4, 2) := by decide +kernel
theorem dX4_loudest_97 : decode cX4_loudest 97 = .ok (.istore_n 2, 1) := by decide +kernel
theorem dX4_loudest_98 : decode cX4_loudest 98 = .ok (.iinc 4 1, 3) := by decide +kernel
theorem dX4_loudest_101 : decode cX4_loudest 101 = .ok (.goto (-67), 3) := by decide +kernel
theorem dX4_loudest_104 : decode cX4_loudest 104 = .ok (.iload_n 1, 1) := by decide +kernel
theorem dX4_loudest_105 : decode cX4_loudest 105 = .ok (.ifCond .ne 7, 3) := by decide +kernel
theorem dX4_loudest_108 : decode cX4_loudest 108 = .ok (.iload_n 2, 1) := by decide +kernel
theorem dX4_loudest_109 : decode cX4_loudest 109 = .ok (.goto 4, 3) := by decide +kernel
theorem dX4_loudest_112 : decode cX4_loudest 112 = .ok (.iload_n 3, 1) := by decide +kernel
theorem dX4_loudest_113 : decode cX4_loudest 113 = .ok (.ireturn, 1) := by decide +kernel
theorem dX4_narrow_0 : decode cX4_narrow 0 = .ok (.aload_n 0, 1) := by decide +kernel
theorem dX4_narrow_1 : decode cX4_narrow 1 = .ok (.iload_n 1, 1) := by decide +kernel
theorem dX4_narrow_2 : decode cX4_narrow 2 = .ok (.invokevirtual 79, 3) := by decide +kernel
theorem dX4_narrow_5 : decode cX4_narrow 5 = .ok (.ifCond .eq 9, 3) := by decide +kernel
theorem dX4_narrow_8 : decode cX4_narrow 8 = .ok (.aload_n 0, 1) := by decide +kernel
theorem dX4_narrow_9 : decode cX4_narrow 9 = .ok (.iconst (-1), 1) := by decide +kernel
theorem dX4_narrow_10 : decode cX4_narrow 10 = .ok (.invokevirtual 50, 3) := by decide +kernel
theorem dX4_narrow_13 : decode cX4_narrow 13 = .ok (.ireturn, 1) := by decide +kernel
theorem dX4_narrow_14 : decode cX4_narrow 14 = .ok (.iload_n 2, 1) := by decide +kernel
theorem dX4_narrow_15 : decode cX4_narrow 15 = .ok (.iconst 2, 1) := by decide +kernel
theorem dX4_narrow_16 : decode cX4_narrow 16 = .ok (.invokestatic 83, 3) := by decide +kernel
theorem dX4_narrow_19 : decode cX4_narrow 19 = .ok (.ifCond .eq 10, 3) := by decide +kernel
theorem dX4_narrow_22 : decode cX4_narrow 22 = .ok (.aload_n 0, 1) := by decide +kernel
theorem dX4_narrow_23 : decode cX4_narrow 23 = .ok (.bipush (-2), 2) := by decide +kernel
theorem dX4_narrow_25 : decode cX4_narrow 25 = .ok (.invokevirtual 50, 3) := by decide +kernel
theorem dX4_narrow_28 : decode cX4_narrow 28 = .ok (.ireturn, 1) := by decide +kernel
theorem dX4_narrow_29 : decode cX4_narrow 29 = .ok (.aload_n 0, 1) := by decide +kernel
theorem dX4_narrow_30 : decode cX4_narrow 30 = .ok (.aload_n 0, 1) := by decide +kernel
theorem dX4_narrow_31 : decode cX4_narrow 31 = .ok (.getfield 12, 3) := by decide +kernel
theorem dX4_narrow_34 : decode cX4_narrow 34 = .ok (.invokevirtual 198, 3) := by decide +kernel
theorem dX4_narrow_37 : decode cX4_narrow 37 = .ok (.istore_n 3, 1) := by decide +kernel
theorem dX4_narrow_38 : decode cX4_narrow 38 = .ok (.aload_n 0, 1) := by decide +kernel
theorem dX4_narrow_39 : decode cX4_narrow 39 = .ok (.getfield 16, 3) := by decide +kernel
theorem dX4_narrow_42 : decode cX4_narrow 42 = .ok (.aload_n 0, 1) := by decide +kernel
theorem dX4_narrow_43 : decode cX4_narrow 43 = .ok (.getfield 12, 3) := by decide +kernel
theorem dX4_narrow_46 : decode cX4_narrow 46 = .ok (.invokevirtual 65, 3) := by decide +kernel
theorem dX4_narrow_49 : decode cX4_narrow 49 = .ok (.iconst 0, 1) := by decide +kernel
theorem dX4_narrow_50 : decode cX4_narrow 50 = .ok (.istore 4, 2) := by decide +kernel
theorem dX4_narrow_52 : decode cX4_narrow 52 = .ok (.bipush (-9), 2) := by decide +kernel
theorem dX4_narrow_54 : decode cX4_narrow 54 = .ok (.istore 5, 2) := by decide +kernel
theorem dX4_narrow_56 : decode cX4_narrow 56 = .ok (.iconst 0, 1) := by decide +kernel
theorem dX4_narrow_57 : decode cX4_narrow 57 = .ok (.istore 6, 2) := by decide +kernel
theorem dX4_narrow_59 : decode cX4_narrow 59 = .ok (.iload 6, 2) := by decide +kernel
theorem dX4_narrow_61 : decode cX4_narrow 61 = .ok (.bipush 24, 2) := by decide +kernel
theorem dX4_narrow_63 : decode cX4_narrow 63 = .ok (.if_icmp .ge 71, 3) := by decide +kernel
theorem dX4_narrow_66 : decode cX4_narrow 66 = .ok (.aload_n 0, 1) := by decide +kernel
theorem dX4_narrow_67 : decode cX4_narrow 67 = .ok (.getfield 12, 3) := by decide +kernel
theorem dX4_narrow_70 : decode cX4_narrow 70 = .ok (.iload_n 1, 1) := by decide +kernel
theorem dX4_narrow_71 : decode cX4_narrow 71 = .ok (.iload 6, 2) := by decide +kernel
theorem dX4_narrow_73 : decode cX4_narrow 73 = .ok (.invokevirtual 134, 3) := by decide +kernel
theorem dX4_narrow_76 : decode cX4_narrow 76 = .ok (.ifCond .eq 52, 3) := by decide +kernel
theorem dX4_narrow_79 : decode cX4_narrow 79 = .ok (.aload_n 0, 1) := by decide +kernel
theorem dX4_narrow_80 : decode cX4_narrow 80 = .ok (.getfield 16, 3) := by decide +kernel
theorem dX4_narrow_83 : decode cX4_narrow 83 = .ok (.getfield 90, 3) := by decide +kernel
theorem dX4_narrow_86 : decode cX4_narrow 86 = .ok (.iload_n 1, 1) := by decide +kernel
theorem dX4_narrow_87 : decode cX4_narrow 87 = .ok (.aload_n 0, 1) := by decide +kernel
theorem dX4_narrow_88 : decode cX4_narrow 88 = .ok (.getfield 12, 3) := by decide +kernel
theorem dX4_narrow_91 : decode cX4_narrow 91 = .ok (.getfield 90, 3) := by decide +kernel
theorem dX4_narrow_94 : decode cX4_narrow 94 = .ok (.iload_n 1, 1) := by decide +kernel
theorem dX4_narrow_95 : decode cX4_narrow 95 = .ok (.iaload, 1) := by decide +kernel
theorem dX4_narrow_96 : decode cX4_narrow 96 = .ok (.iconst 1, 1) := by decide +kernel
theorem dX4_narrow_97 : decode cX4_narrow 97 = .ok (.iload 6, 2) := by decide +kernel
theorem dX4_narrow_99 : decode cX4_narrow 99 = .ok (.ishl, 1) := by decide +kernel
theorem dX4_narrow_100 : decode cX4_narrow 100 = .ok (.iconst (-1), 1) := by decide +kernel
theorem dX4_narrow_101 : decode cX4_narrow 101 = .ok (.ixor, 1) := by decide +kernel
theorem dX4_narrow_102 : decode cX4_narrow 102 = .ok (.iand, 1) := by decide +kernel
theorem dX4_narrow_103 : decode cX4_narrow 103 = .ok (.iastore, 1) := by decide +kernel
theorem dX4_narrow_104 : decode cX4_narrow 104 = .ok (.aload_n 0, 1) := by decide +kernel
theorem dX4_narrow_105 : decode cX4_narrow 105 = .ok (.aload_n 0, 1) := by decide +kernel
theorem dX4_narrow_106 : decode cX4_narrow 106 = .ok (.getfield 16, 3) := by decide +kernel
theorem dX4_narrow_109 : decode cX4_narrow 109 = .ok (.invokevirtual 198, 3) := by decide +kernel
theorem dX4_narrow_112 : decode cX4_narrow 112 = .ok (.iload_n 3, 1) := by decide +kernel
theorem dX4_narrow_113 : decode cX4_narrow 113 = .ok (.if_icmp .ne 15, 3) := by decide +kernel
theorem dX4_narrow_116 : decode cX4_narrow 116 = .ok (.iinc 4 1, 3) := by decide +kernel
theorem dX4_narrow_119 : decode cX4_narrow 119 = .ok (.iload 5, 2) := by decide +kernel
theorem dX4_narrow_121 : decode cX4_narrow 121 = .ok (.ifCond .ge 7, 3) := by decide +kernel
theorem dX4_narrow_124 : decode cX4_narrow 124 = .ok (.iload 6, 2) := by decide +kernel
theorem dX4_narrow_126 : decode cX4_narrow 126 = .ok (.istore 5, 2) := by decide +kernel
theorem dX4_narrow_128 : decode cX4_narrow 128 = .ok (.iinc 6 1, 3) := by decide +kernel
theorem dX4_narrow_131 : decode cX4_narrow 131 = .ok (.goto (-72), 3) := by decide +kernel
theorem dX4_narrow_134 : decode cX4_narrow 134 = .ok (.iload_n 2, 1) := by decide +kernel
theorem dX4_narrow_135 : decode cX4_narrow 135 = .ok (.ifCond .ne 8, 3) := by decide +kernel
theorem dX4_narrow_138 : decode cX4_narrow 138 = .ok (.iload 4, 2) := by decide +kernel
theorem dX4_narrow_140 : decode cX4_narrow 140 = .ok (.goto 5, 3) := by decide +kernel
theorem dX4_narrow_143 : decode cX4_narrow 143 = .ok (.iload 5, 2) := by decide +kernel
theorem dX4_narrow_145 : decode cX4_narrow 145 = .ok (.ireturn, 1) := by decide +kernel
theorem dX4_key_0 : decode cX4_key 0 = .ok (.iconst 0, 1) := by decide +kernel
theorem dX4_key_1 : decode cX4_key 1 = .ok (.istore_n 1, 1) := by decide +kernel
theorem dX4_key_2 : decode cX4_key 2 = .ok (.iconst (-1), 1) := by decide +kernel
theorem dX4_key_3 : decode cX4_key 3 = .ok (.istore_n 2, 1) := by decide +kernel
theorem dX4_key_4 : decode cX4_key 4 = .ok (.iconst 0, 1) := by decide +kernel
theorem dX4_key_5 : decode cX4_key 5 = .ok (.istore_n 3, 1) := by decide +kernel
theorem dX4_key_6 : decode cX4_key 6 = .ok (.iload_n 3, 1) := by decide +kernel
theorem dX4_key_7 : decode cX4_key 7 = .ok (.bipush 10, 2) := by decide +kernel
theorem dX4_key_9 : decode cX4_key 9 = .ok (.if_icmp .ge 73, 3) := by decide +kernel
theorem dX4_key_12 : decode cX4_key 12 = .ok (.aload_n 0, 1) := by decide +kernel
theorem dX4_key_13 : decode cX4_key 13 = .ok (.getfield 16, 3) := by decide +kernel
theorem dX4_key_16 : decode cX4_key 16 = .ok (.aload_n 0, 1) := by decide +kernel
theorem dX4_key_17 : decode cX4_key 17 = .ok (.getfield 12, 3) := by decide +kernel
theorem dX4_key_20 : decode cX4_key 20 = .ok (.invokevirtual 65, 3) := by decide +kernel
theorem dX4_key_23 : decode cX4_key 23 = .ok (.iconst 0, 1) := by decide +kernel
theorem dX4_key_24 : decode cX4_key 24 = .ok (.istore 4, 2) := by decide +kernel
theorem dX4_key_26 : decode cX4_key 26 = .ok (.iload 4, 2) := by decide +kernel
theorem dX4_key_28 : decode cX4_key 28 = .ok (.aload_n 0, 1) := by decide +kernel
theorem dX4_key_29 : decode cX4_key 29 = .ok (.getfield 12, 3) := by decide +kernel
theorem dX4_key_32 : decode cX4_key 32 = .ok (.getfield 114, 3) := by decide +kernel
theorem dX4_key_35 : decode cX4_key 35 = .ok (.if_icmp .ge 20, 3) := by decide +kernel
theorem dX4_key_38 : decode cX4_key 38 = .ok (.aload_n 0, 1) := by decide +kernel
theorem dX4_key_39 : decode cX4_key 39 = .ok (.getfield 16, 3) := by decide +kernel
theorem dX4_key_42 : decode cX4_key 42 = .ok (.iload 4, 2) := by decide +kernel
theorem dX4_key_44 : decode cX4_key 44 = .ok (.iload_n 3, 1) := by decide +kernel
theorem dX4_key_45 : decode cX4_key 45 = .ok (.invokevirtual 152, 3) := by decide +kernel
theorem dX4_key_48 : decode cX4_key 48 = .ok (.pop, 1) := by decide +kernel
theorem dX4_key_49 : decode cX4_key 49 = .ok (.iinc 4 1, 3) := by decide +kernel
theorem dX4_key_52 : decode cX4_key 52 = .ok (.goto (-26), 3) := by decide +kernel
theorem dX4_key_55 : decode cX4_key 55 = .ok (.aload_n 0, 1) := by decide +kernel
theorem dX4_key_56 : decode cX4_key 56 = .ok (.aload_n 0, 1) := by decide +kernel
theorem dX4_key_57 : decode cX4_key 57 = .ok (.getfield 16, 3) := by decide +kernel
theorem dX4_key_60 : decode cX4_key 60 = .ok (.invokevirtual 198, 3) := by decide +kernel
theorem dX4_key_63 : decode cX4_key 63 = .ok (.istore 4, 2) := by decide +kernel
theorem dX4_key_65 : decode cX4_key 65 = .ok (.iload 4, 2) := by decide +kernel
theorem dX4_key_67 : decode cX4_key 67 = .ok (.iload_n 2, 1) := by decide +kernel
theorem dX4_key_68 : decode cX4_key 68 = .ok (.if_icmp .le 8, 3) := by decide +kernel
theorem dX4_key_71 : decode cX4_key 71 = .ok (.iload 4, 2) := by decide +kernel
theorem dX4_key_73 : decode cX4_key 73 = .ok (.istore_n 2, 1) := by decide +kernel
theorem dX4_key_74 : decode cX4_key 74 = .ok (.iload_n 3, 1) := by decide +kernel
theorem dX4_key_75 : decode cX4_key 75 = .ok (.istore_n 1, 1) := by decide +kernel
theorem dX4_key_76 : decode cX4_key 76 = .ok (.iinc 3 1, 3) := by decide +kernel
theorem dX4_key_79 : decode cX4_key 79 = .ok (.goto (-73), 3) := by decide +kernel
theorem dX4_key_82 : decode cX4_key 82 = .ok (.iload_n 1, 1) := by decide +kernel
theorem dX4_key_83 : decode cX4_key 83 = .ok (.ireturn, 1) := by decide +kernel
theorem dX4_half_0 : decode cX4_half 0 = .ok (.aload_n 0, 1) := by decide +kernel
theorem dX4_half_1 : decode cX4_half 1 = .ok (.aload_n 0, 1) := by decide +kernel
theorem dX4_half_2 : decode cX4_half 2 = .ok (.getfield 12, 3) := by decide +kernel
theorem dX4_half_5 : decode cX4_half 5 = .ok (.invokevirtual 198, 3) := by decide +kernel
theorem dX4_half_8 : decode cX4_half 8 = .ok (.istore_n 1, 1) := by decide +kernel
theorem dX4_half_9 : decode cX4_half 9 = .ok (.iconst 0, 1) := by decide +kernel
theorem dX4_half_10 : decode cX4_half 10 = .ok (.istore_n 2, 1) := by decide +kernel
theorem dX4_half_11 : decode cX4_half 11 = .ok (.iload_n 2, 1) := by decide +kernel
theorem dX4_half_12 : decode cX4_half 12 = .ok (.bipush 24, 2) := by decide +kernel
theorem dX4_half_14 : decode cX4_half 14 = .ok (.if_icmp .ge 25, 3) := by decide +kernel
theorem dX4_half_17 : decode cX4_half 17 = .ok (.iconst 2, 1) := by decide +kernel
theorem dX4_half_18 : decode cX4_half 18 = .ok (.aload_n 0, 1) := by decide +kernel
theorem dX4_half_19 : decode cX4_half 19 = .ok (.getfield 25, 3) := by decide +kernel
theorem dX4_half_22 : decode cX4_half 22 = .ok (.iload_n 2, 1) := by decide +kernel
theorem dX4_half_23 : decode cX4_half 23 = .ok (.invokevirtual 260, 3) := by decide +kernel
theorem dX4_half_26 : decode cX4_half 26 = .ok (.imul, 1) := by decide +kernel
theorem dX4_half_27 : decode cX4_half 27 = .ok (.iload_n 1, 1) := by decide +kernel
theorem dX4_half_28 : decode cX4_half 28 = .ok (.if_icmp .lt 5, 3) := by decide +kernel
theorem dX4_half_31 : decode cX4_half 31 = .ok (.iload_n 2, 1) := by decide +kernel
theorem dX4_half_32 : decode cX4_half 32 = .ok (.ireturn, 1) := by decide +kernel
theorem dX4_half_33 : decode cX4_half 33 = .ok (.iinc 2 1, 3) := by decide +kernel
theorem dX4_half_36 : decode cX4_half 36 = .ok (.goto (-25), 3) := by decide +kernel
theorem dX4_half_39 : decode cX4_half 39 = .ok (.bipush 24, 2) := by decide +kernel
theorem dX4_half_41 : decode cX4_half 41 = .ok (.ireturn, 1) := by decide +kernel
theorem dX4_turned_0 : decode cX4_turned 0 = .ok (.aload_n 0, 1) := by decide +kernel
theorem dX4_turned_1 : decode cX4_turned 1 = .ok (.getfield 16, 3) := by decide +kernel
theorem dX4_turned_4 : decode cX4_turned 4 = .ok (.aload_n 0, 1) := by decide +kernel
theorem dX4_turned_5 : decode cX4_turned 5 = .ok (.getfield 12, 3) := by decide +kernel
theorem dX4_turned_8 : decode cX4_turned 8 = .ok (.invokevirtual 65, 3) := by decide +kernel
theorem dX4_turned_11 : decode cX4_turned 11 = .ok (.iconst 0, 1) := by decide +kernel
theorem dX4_turned_12 : decode cX4_turned 12 = .ok (.istore_n 1, 1) := by decide +kernel
theorem dX4_turned_13 : decode cX4_turned 13 = .ok (.iload_n 1, 1) := by decide +kernel
theorem dX4_turned_14 : decode cX4_turned 14 = .ok (.aload_n 0, 1) := by decide +kernel
theorem dX4_turned_15 : decode cX4_turned 15 = .ok (.getfield 12, 3) := by decide +kernel
theorem dX4_turned_18 : decode cX4_turned 18 = .ok (.getfield 114, 3) := by decide +kernel
theorem dX4_turned_21 : decode cX4_turned 21 = .ok (.if_icmp .ge 56, 3) := by decide +kernel
theorem dX4_turned_24 : decode cX4_turned 24 = .ok (.iconst 0, 1) := by decide +kernel
theorem dX4_turned_25 : decode cX4_turned 25 = .ok (.istore_n 2, 1) := by decide +kernel
theorem dX4_turned_26 : decode cX4_turned 26 = .ok (.iconst 0, 1) := by decide +kernel
theorem dX4_turned_27 : decode cX4_turned 27 = .ok (.istore_n 3, 1) := by decide +kernel
theorem dX4_turned_28 : decode cX4_turned 28 = .ok (.iload_n 3, 1) := by decide +kernel
theorem dX4_turned_29 : decode cX4_turned 29 = .ok (.bipush 24, 2) := by decide +kernel
theorem dX4_turned_31 : decode cX4_turned 31 = .ok (.if_icmp .ge 30, 3) := by decide +kernel
theorem dX4_turned_34 : decode cX4_turned 34 = .ok (.aload_n 0, 1) := by decide +kernel
theorem dX4_turned_35 : decode cX4_turned 35 = .ok (.getfield 12, 3) := by decide +kernel
theorem dX4_turned_38 : decode cX4_turned 38 = .ok (.iload_n 1, 1) := by decide +kernel
theorem dX4_turned_39 : decode cX4_turned 39 = .ok (.iload_n 3, 1) := by decide +kernel
theorem dX4_turned_40 : decode cX4_turned 40 = .ok (.invokevirtual 134, 3) := by decide +kernel
theorem dX4_turned_43 : decode cX4_turned 43 = .ok (.ifCond .eq 12, 3) := by decide +kernel
theorem dX4_turned_46 : decode cX4_turned 46 = .ok (.iload_n 2, 1) := by decide +kernel
theorem dX4_turned_47 : decode cX4_turned 47 = .ok (.iconst 1, 1) := by decide +kernel
theorem dX4_turned_48 : decode cX4_turned 48 = .ok (.bipush 23, 2) := by decide +kernel
theorem dX4_turned_50 : decode cX4_turned 50 = .ok (.iload_n 3, 1) := by decide +kernel
theorem dX4_turned_51 : decode cX4_turned 51 = .ok (.isub, 1) := by decide +kernel
theorem dX4_turned_52 : decode cX4_turned 52 = .ok (.ishl, 1) := by decide +kernel
theorem dX4_turned_53 : decode cX4_turned 53 = .ok (.ior, 1) := by decide +kernel
theorem dX4_turned_54 : decode cX4_turned 54 = .ok (.istore_n 2, 1) := by decide +kernel
theorem dX4_turned_55 : decode cX4_turned 55 = .ok (.iinc 3 1, 3) := by decide +kernel
theorem dX4_turned_58 : decode cX4_turned 58 = .ok (.goto (-30), 3) := by decide +kernel
theorem dX4_turned_61 : decode cX4_turned 61 = .ok (.aload_n 0, 1) := by decide +kernel
theorem dX4_turned_62 : decode cX4_turned 62 = .ok (.getfield 16, 3) := by decide +kernel
theorem dX4_turned_65 : decode cX4_turned 65 = .ok (.getfield 90, 3) := by decide +kernel
theorem dX4_turned_68 : decode cX4_turned 68 = .ok (.iload_n 1, 1) := by decide +kernel
theorem dX4_turned_69 : decode cX4_turned 69 = .ok (.iload_n 2, 1) := by decide +kernel
theorem dX4_turned_70 : decode cX4_turned 70 = .ok (.iastore, 1) := by decide +kernel
theorem dX4_turned_71 : decode cX4_turned 71 = .ok (.iinc 1 1, 3) := by decide +kernel
theorem dX4_turned_74 : decode cX4_turned 74 = .ok (.goto (-61), 3) := by decide +kernel
theorem dX4_turned_77 : decode cX4_turned 77 = .ok (.aload_n 0, 1) := by decide +kernel
theorem dX4_turned_78 : decode cX4_turned 78 = .ok (.aload_n 0, 1) := by decide +kernel
theorem dX4_turned_79 : decode cX4_turned 79 = .ok (.getfield 16, 3) := by decide +kernel
theorem dX4_turned_82 : decode cX4_turned 82 = .ok (.invokevirtual 198, 3) := by decide +kernel
theorem dX4_turned_85 : decode cX4_turned 85 = .ok (.ireturn, 1) := by decide +kernel
theorem dX4_twin_0 : decode cX4_twin 0 = .ok (.aload_n 0, 1) := by decide +kernel
theorem dX4_twin_1 : decode cX4_twin 1 = .ok (.getfield 25, 3) := by decide +kernel
theorem dX4_twin_4 : decode cX4_twin 4 = .ok (.aload_n 0, 1) := by decide +kernel
theorem dX4_twin_5 : decode cX4_twin 5 = .ok (.getfield 12, 3) := by decide +kernel
theorem dX4_twin_8 : decode cX4_twin 8 = .ok (.invokevirtual 158, 3) := by decide +kernel
theorem dX4_twin_11 : decode cX4_twin 11 = .ok (.bipush (-9), 2) := by decide +kernel
theorem dX4_twin_13 : decode cX4_twin 13 = .ok (.istore_n 1, 1) := by decide +kernel
theorem dX4_twin_14 : decode cX4_twin 14 = .ok (.iconst 0, 1) := by decide +kernel
theorem dX4_twin_15 : decode cX4_twin 15 = .ok (.istore_n 2, 1) := by decide +kernel
theorem dX4_twin_16 : decode cX4_twin 16 = .ok (.iconst 0, 1) := by decide +kernel
theorem dX4_twin_17 : decode cX4_twin 17 = .ok (.istore_n 3, 1) := by decide +kernel
theorem dX4_twin_18 : decode cX4_twin 18 = .ok (.iload_n 3, 1) := by decide +kernel
theorem dX4_twin_19 : decode cX4_twin 19 = .ok (.aload_n 0, 1) := by decide +kernel
theorem dX4_twin_20 : decode cX4_twin 20 = .ok (.getfield 12, 3) := by decide +kernel
theorem dX4_twin_23 : decode cX4_twin 23 = .ok (.getfield 121, 3) := by decide +kernel
theorem dX4_twin_26 : decode cX4_twin 26 = .ok (.if_icmp .ge 61, 3) := by decide +kernel
theorem dX4_twin_29 : decode cX4_twin 29 = .ok (.iload_n 3, 1) := by decide +kernel
theorem dX4_twin_30 : decode cX4_twin 30 = .ok (.iconst 1, 1) := by decide +kernel
theorem dX4_twin_31 : decode cX4_twin 31 = .ok (.iadd, 1) := by decide +kernel
theorem dX4_twin_32 : decode cX4_twin 32 = .ok (.istore 4, 2) := by decide +kernel
theorem dX4_twin_34 : decode cX4_twin 34 = .ok (.iload 4, 2) := by decide +kernel
theorem dX4_twin_36 : decode cX4_twin 36 = .ok (.aload_n 0, 1) := by decide +kernel
theorem dX4_twin_37 : decode cX4_twin 37 = .ok (.getfield 12, 3) := by decide +kernel
theorem dX4_twin_40 : decode cX4_twin 40 = .ok (.getfield 121, 3) := by decide +kernel
theorem dX4_twin_43 : decode cX4_twin 43 = .ok (.if_icmp .ge 38, 3) := by decide +kernel
theorem dX4_twin_46 : decode cX4_twin 46 = .ok (.aload_n 0, 1) := by decide +kernel
theorem dX4_twin_47 : decode cX4_twin 47 = .ok (.getfield 25, 3) := by decide +kernel
theorem dX4_twin_50 : decode cX4_twin 50 = .ok (.iload_n 3, 1) := by decide +kernel
theorem dX4_twin_51 : decode cX4_twin 51 = .ok (.iload 4, 2) := by decide +kernel
theorem dX4_twin_53 : decode cX4_twin 53 = .ok (.invokevirtual 263, 3) := by decide +kernel
theorem dX4_twin_56 : decode cX4_twin 56 = .ok (.istore 5, 2) := by decide +kernel
theorem dX4_twin_58 : decode cX4_twin 58 = .ok (.iload 5, 2) := by decide +kernel
theorem dX4_twin_60 : decode cX4_twin 60 = .ok (.iload_n 2, 1) := by decide +kernel
theorem dX4_twin_61 : decode cX4_twin 61 = .ok (.if_icmp .le 14, 3) := by decide +kernel
theorem dX4_twin_64 : decode cX4_twin 64 = .ok (.iload 5, 2) := by decide +kernel
theorem dX4_twin_66 : decode cX4_twin 66 = .ok (.istore_n 2, 1) := by decide +kernel
theorem dX4_twin_67 : decode cX4_twin 67 = .ok (.bipush 10, 2) := by decide +kernel
theorem dX4_twin_69 : decode cX4_twin 69 = .ok (.iload_n 3, 1) := by decide +kernel
theorem dX4_twin_70 : decode cX4_twin 70 = .ok (.imul, 1) := by decide +kernel
theorem dX4_twin_71 : decode cX4_twin 71 = .ok (.iload 4, 2) := by decide +kernel
theorem dX4_twin_73 : decode cX4_twin 73 = .ok (.iadd, 1) := by decide +kernel
theorem dX4_twin_74 : decode cX4_twin 74 = .ok (.istore_n 1, 1) := by decide +kernel
theorem dX4_twin_75 : decode cX4_twin 75 = .ok (.iinc 4 1, 3) := by decide +kernel
theorem dX4_twin_78 : decode cX4_twin 78 = .ok (.goto (-44), 3) := by decide +kernel
theorem dX4_twin_81 : decode cX4_twin 81 = .ok (.iinc 3 1, 3) := by decide +kernel
theorem dX4_twin_84 : decode cX4_twin 84 = .ok (.goto (-66), 3) := by decide +kernel
theorem dX4_twin_87 : decode cX4_twin 87 = .ok (.iload_n 1, 1) := by decide +kernel
theorem dX4_twin_88 : decode cX4_twin 88 = .ok (.ireturn, 1) := by decide +kernel
theorem dX4_spreads_0 : decode cX4_spreads 0 = .ok (.aload_n 0, 1) := by decide +kernel
theorem dX4_spreads_1 : decode cX4_spreads 1 = .ok (.iload_n 1, 1) := by decide +kernel
theorem dX4_spreads_2 : decode cX4_spreads 2 = .ok (.invokevirtual 79, 3) := by decide +kernel
theorem dX4_spreads_5 : decode cX4_spreads 5 = .ok (.ifCond .ne 10, 3) := by decide +kernel
theorem dX4_spreads_8 : decode cX4_spreads 8 = .ok (.iload_n 2, 1) := by decide +kernel
theorem dX4_spreads_9 : decode cX4_spreads 9 = .ok (.invokestatic 146, 3) := by decide +kernel
theorem dX4_spreads_12 : decode cX4_spreads 12 = .ok (.ifCond .eq 9, 3) := by decide +kernel
theorem dX4_spreads_15 : decode cX4_spreads 15 = .ok (.aload_n 0, 1) := by decide +kernel
theorem dX4_spreads_16 : decode cX4_spreads 16 = .ok (.iconst (-1), 1) := by decide +kernel
theorem dX4_spreads_17 : decode cX4_spreads 17 = .ok (.invokevirtual 50, 3) := by decide +kernel
theorem dX4_spreads_20 : decode cX4_spreads 20 = .ok (.ireturn, 1) := by decide +kernel
theorem dX4_spreads_21 : decode cX4_spreads 21 = .ok (.aload_n 0, 1) := by decide +kernel
theorem dX4_spreads_22 : decode cX4_spreads 22 = .ok (.getfield 16, 3) := by decide +kernel
theorem dX4_spreads_25 : decode cX4_spreads 25 = .ok (.aload_n 0, 1) := by decide +kernel
theorem dX4_spreads_26 : decode cX4_spreads 26 = .ok (.getfield 12, 3) := by decide +kernel
theorem dX4_spreads_29 : decode cX4_spreads 29 = .ok (.invokevirtual 65, 3) := by decide +kernel
theorem dX4_spreads_32 : decode cX4_spreads 32 = .ok (.iconst 0, 1) := by decide +kernel
theorem dX4_spreads_33 : decode cX4_spreads 33 = .ok (.istore_n 3, 1) := by decide +kernel
theorem dX4_spreads_34 : decode cX4_spreads 34 = .ok (.iload_n 3, 1) := by decide +kernel
theorem dX4_spreads_35 : decode cX4_spreads 35 = .ok (.bipush 70, 2) := by decide +kernel
theorem dX4_spreads_37 : decode cX4_spreads 37 = .ok (.if_icmp .gt 37, 3) := by decide +kernel
theorem dX4_spreads_40 : decode cX4_spreads 40 = .ok (.aload_n 0, 1) := by decide +kernel
theorem dX4_spreads_41 : decode cX4_spreads 41 = .ok (.getfield 16, 3) := by decide +kernel
theorem dX4_spreads_44 : decode cX4_spreads 44 = .ok (.iload_n 1, 1) := by decide +kernel
theorem dX4_spreads_45 : decode cX4_spreads 45 = .ok (.iload_n 2, 1) := by decide +kernel
theorem dX4_spreads_46 : decode cX4_spreads 46 = .ok (.invokevirtual 149, 3) := by decide +kernel
theorem dX4_spreads_49 : decode cX4_spreads 49 = .ok (.ifCond .eq 5, 3) := by decide +kernel
theorem dX4_spreads_52 : decode cX4_spreads 52 = .ok (.iload_n 3, 1) := by decide +kernel
theorem dX4_spreads_53 : decode cX4_spreads 53 = .ok (.ireturn, 1) := by decide +kernel
theorem dX4_spreads_54 : decode cX4_spreads 54 = .ok (.aload_n 0, 1) := by decide +kernel
theorem dX4_spreads_55 : decode cX4_spreads 55 = .ok (.aload_n 0, 1) := by decide +kernel
theorem dX4_spreads_56 : decode cX4_spreads 56 = .ok (.getfield 16, 3) := by decide +kernel
theorem dX4_spreads_59 : decode cX4_spreads 59 = .ok (.invokevirtual 256, 3) := by decide +kernel
theorem dX4_spreads_62 : decode cX4_spreads 62 = .ok (.ifCond .ne 6, 3) := by decide +kernel
theorem dX4_spreads_65 : decode cX4_spreads 65 = .ok (.bipush (-9), 2) := by decide +kernel
theorem dX4_spreads_67 : decode cX4_spreads 67 = .ok (.ireturn, 1) := by decide +kernel
theorem dX4_spreads_68 : decode cX4_spreads 68 = .ok (.iinc 3 1, 3) := by decide +kernel
theorem dX4_spreads_71 : decode cX4_spreads 71 = .ok (.goto (-37), 3) := by decide +kernel
theorem dX4_spreads_74 : decode cX4_spreads 74 = .ok (.bipush (-9), 2) := by decide +kernel
theorem dX4_spreads_76 : decode cX4_spreads 76 = .ok (.ireturn, 1) := by decide +kernel
theorem dX4_keeper_0 : decode cX4_keeper 0 = .ok (.iload_n 1, 1) := by decide +kernel
theorem dX4_keeper_1 : decode cX4_keeper 1 = .ok (.iconst 2, 1) := by decide +kernel
theorem dX4_keeper_2 : decode cX4_keeper 2 = .ok (.invokestatic 83, 3) := by decide +kernel
theorem dX4_keeper_5 : decode cX4_keeper 5 = .ok (.ifCond .eq 10, 3) := by decide +kernel
theorem dX4_keeper_8 : decode cX4_keeper 8 = .ok (.aload_n 0, 1) := by decide +kernel
theorem dX4_keeper_9 : decode cX4_keeper 9 = .ok (.bipush (-2), 2) := by decide +kernel
theorem dX4_keeper_11 : decode cX4_keeper 11 = .ok (.invokevirtual 50, 3) := by decide +kernel
theorem dX4_keeper_14 : decode cX4_keeper 14 = .ok (.ireturn, 1) := by decide +kernel
theorem dX4_keeper_15 : decode cX4_keeper 15 = .ok (.aload_n 0, 1) := by decide +kernel
theorem dX4_keeper_16 : decode cX4_keeper 16 = .ok (.getfield 16, 3) := by decide +kernel
theorem dX4_keeper_19 : decode cX4_keeper 19 = .ok (.aload_n 0, 1) := by decide +kernel
theorem dX4_keeper_20 : decode cX4_keeper 20 = .ok (.getfield 12, 3) := by decide +kernel
theorem dX4_keeper_23 : decode cX4_keeper 23 = .ok (.invokevirtual 65, 3) := by decide +kernel
theorem dX4_keeper_26 : decode cX4_keeper 26 = .ok (.bipush (-9), 2) := by decide +kernel
theorem dX4_keeper_28 : decode cX4_keeper 28 = .ok (.istore_n 2, 1) := by decide +kernel
theorem dX4_keeper_29 : decode cX4_keeper 29 = .ok (.bipush (-9), 2) := by decide +kernel
theorem dX4_keeper_31 : decode cX4_keeper 31 = .ok (.istore_n 3, 1) := by decide +kernel
theorem dX4_keeper_32 : decode cX4_keeper 32 = .ok (.iconst 0, 1) := by decide +kernel
theorem dX4_keeper_33 : decode cX4_keeper 33 = .ok (.istore 4, 2) := by decide +kernel
theorem dX4_keeper_35 : decode cX4_keeper 35 = .ok (.iload 4, 2) := by decide +kernel
theorem dX4_keeper_37 : decode cX4_keeper 37 = .ok (.aload_n 0, 1) := by decide +kernel
theorem dX4_keeper_38 : decode cX4_keeper 38 = .ok (.getfield 12, 3) := by decide +kernel
theorem dX4_keeper_41 : decode cX4_keeper 41 = .ok (.getfield 114, 3) := by decide +kernel
theorem dX4_keeper_44 : decode cX4_keeper 44 = .ok (.if_icmp .ge 54, 3) := by decide +kernel
theorem dX4_keeper_47 : decode cX4_keeper 47 = .ok (.aload_n 0, 1) := by decide +kernel
theorem dX4_keeper_48 : decode cX4_keeper 48 = .ok (.getfield 16, 3) := by decide +kernel
theorem dX4_keeper_51 : decode cX4_keeper 51 = .ok (.aload_n 0, 1) := by decide +kernel
theorem dX4_keeper_52 : decode cX4_keeper 52 = .ok (.getfield 12, 3) := by decide +kernel
theorem dX4_keeper_55 : decode cX4_keeper 55 = .ok (.getfield 205, 3) := by decide +kernel
theorem dX4_keeper_58 : decode cX4_keeper 58 = .ok (.iconst 1, 1) := by decide +kernel
theorem dX4_keeper_59 : decode cX4_keeper 59 = .ok (.iload 4, 2) := by decide +kernel
theorem dX4_keeper_61 : decode cX4_keeper 61 = .ok (.ishl, 1) := by decide +kernel
theorem dX4_keeper_62 : decode cX4_keeper 62 = .ok (.ior, 1) := by decide +kernel
theorem dX4_keeper_63 : decode cX4_keeper 63 = .ok (.putfield 205, 3) := by decide +kernel
theorem dX4_keeper_66 : decode cX4_keeper 66 = .ok (.aload_n 0, 1) := by decide +kernel
theorem dX4_keeper_67 : decode cX4_keeper 67 = .ok (.aload_n 0, 1) := by decide +kernel
theorem dX4_keeper_68 : decode cX4_keeper 68 = .ok (.getfield 16, 3) := by decide +kernel
theorem dX4_keeper_71 : decode cX4_keeper 71 = .ok (.invokevirtual 198, 3) := by decide +kernel
theorem dX4_keeper_74 : decode cX4_keeper 74 = .ok (.istore 5, 2) := by decide +kernel
theorem dX4_keeper_76 : decode cX4_keeper 76 = .ok (.iload_n 2, 1) := by decide +kernel
theorem dX4_keeper_77 : decode cX4_keeper 77 = .ok (.ifCond .lt 9, 3) := by decide +kernel
theorem dX4_keeper_80 : decode cX4_keeper 80 = .ok (.iload 5, 2) := by decide +kernel
theorem dX4_keeper_82 : decode cX4_keeper 82 = .ok (.iload_n 3, 1) := by decide +kernel
theorem dX4_keeper_83 : decode cX4_keeper 83 = .ok (.if_icmp .ge 9, 3) := by decide +kernel
theorem dX4_keeper_86 : decode cX4_keeper 86 = .ok (.iload 5, 2) := by decide +kernel
theorem dX4_keeper_88 : decode cX4_keeper 88 = .ok (.istore_n 3, 1) := by decide +kernel
theorem dX4_keeper_89 : decode cX4_keeper 89 = .ok (.iload 4, 2) := by decide +kernel
theorem dX4_keeper_91 : decode cX4_keeper 91 = .ok (.istore_n 2, 1) := by decide +kernel
theorem dX4_keeper_92 : decode cX4_keeper 92 = .ok (.iinc 4 1, 3) := by decide +kernel
theorem dX4_keeper_95 : decode cX4_keeper 95 = .ok (.goto (-60), 3) := by decide +kernel
theorem dX4_keeper_98 : decode cX4_keeper 98 = .ok (.iload_n 1, 1) := by decide +kernel
theorem dX4_keeper_99 : decode cX4_keeper 99 = .ok (.ifCond .ne 7, 3) := by decide +kernel
theorem dX4_keeper_102 : decode cX4_keeper 102 = .ok (.iload_n 2, 1) := by decide +kernel
theorem dX4_keeper_103 : decode cX4_keeper 103 = .ok (.goto 4, 3) := by decide +kernel
theorem dX4_keeper_106 : decode cX4_keeper 106 = .ok (.iload_n 3, 1) := by decide +kernel
theorem dX4_keeper_107 : decode cX4_keeper 107 = .ok (.ireturn, 1) := by decide +kernel
theorem dX4_openings_0 : decode cX4_openings 0 = .ok (.aload_n 0, 1) := by decide +kernel
theorem dX4_openings_1 : decode cX4_openings 1 = .ok (.iload_n 1, 1) := by decide +kernel
theorem dX4_openings_2 : decode cX4_openings 2 = .ok (.invokevirtual 79, 3) := by decide +kernel
theorem dX4_openings_5 : decode cX4_openings 5 = .ok (.ifCond .eq 9, 3) := by decide +kernel
theorem dX4_openings_8 : decode cX4_openings 8 = .ok (.aload_n 0, 1) := by decide +kernel
theorem dX4_openings_9 : decode cX4_openings 9 = .ok (.iconst (-1), 1) := by decide +kernel
theorem dX4_openings_10 : decode cX4_openings 10 = .ok (.invokevirtual 50, 3) := by decide +kernel
theorem dX4_openings_13 : decode cX4_openings 13 = .ok (.ireturn, 1) := by decide +kernel
theorem dX4_openings_14 : decode cX4_openings 14 = .ok (.iload_n 2, 1) := by decide +kernel
theorem dX4_openings_15 : decode cX4_openings 15 = .ok (.iconst 2, 1) := by decide +kernel
theorem dX4_openings_16 : decode cX4_openings 16 = .ok (.invokestatic 83, 3) := by decide +kernel
theorem dX4_openings_19 : decode cX4_openings 19 = .ok (.ifCond .eq 10, 3) := by decide +kernel
theorem dX4_openings_22 : decode cX4_openings 22 = .ok (.aload_n 0, 1) := by decide +kernel
theorem dX4_openings_23 : decode cX4_openings 23 = .ok (.bipush (-2), 2) := by decide +kernel
theorem dX4_openings_25 : decode cX4_openings 25 = .ok (.invokevirtual 50, 3) := by decide +kernel
theorem dX4_openings_28 : decode cX4_openings 28 = .ok (.ireturn, 1) := by decide +kernel
theorem dX4_openings_29 : decode cX4_openings 29 = .ok (.aload_n 0, 1) := by decide +kernel
theorem dX4_openings_30 : decode cX4_openings 30 = .ok (.aload_n 0, 1) := by decide +kernel
theorem dX4_openings_31 : decode cX4_openings 31 = .ok (.getfield 12, 3) := by decide +kernel
theorem dX4_openings_34 : decode cX4_openings 34 = .ok (.invokevirtual 198, 3) := by decide +kernel
theorem dX4_openings_37 : decode cX4_openings 37 = .ok (.istore_n 3, 1) := by decide +kernel
theorem dX4_openings_38 : decode cX4_openings 38 = .ok (.aload_n 0, 1) := by decide +kernel
theorem dX4_openings_39 : decode cX4_openings 39 = .ok (.getfield 16, 3) := by decide +kernel
theorem dX4_openings_42 : decode cX4_openings 42 = .ok (.aload_n 0, 1) := by decide +kernel
theorem dX4_openings_43 : decode cX4_openings 43 = .ok (.getfield 12, 3) := by decide +kernel
theorem dX4_openings_46 : decode cX4_openings 46 = .ok (.invokevirtual 65, 3) := by decide +kernel
theorem dX4_openings_49 : decode cX4_openings 49 = .ok (.iconst 0, 1) := by decide +kernel
theorem dX4_openings_50 : decode cX4_openings 50 = .ok (.istore 4, 2) := by decide +kernel
theorem dX4_openings_52 : decode cX4_openings 52 = .ok (.bipush (-9), 2) := by decide +kernel
theorem dX4_openings_54 : decode cX4_openings 54 = .ok (.istore 5, 2) := by decide +kernel
theorem dX4_openings_56 : decode cX4_openings 56 = .ok (.iconst 0, 1) := by decide +kernel
theorem dX4_openings_57 : decode cX4_openings 57 = .ok (.istore 6, 2) := by decide +kernel
theorem dX4_openings_59 : decode cX4_openings 59 = .ok (.iload 6, 2) := by decide +kernel
theorem dX4_openings_61 : decode cX4_openings 61 = .ok (.bipush 24, 2) := by decide +kernel
theorem dX4_openings_63 : decode cX4_openings 63 = .ok (.if_icmp .ge 69, 3) := by decide +kernel
theorem dX4_openings_66 : decode cX4_openings 66 = .ok (.aload_n 0, 1) := by decide +kernel
theorem dX4_openings_67 : decode cX4_openings 67 = .ok (.getfield 12, 3) := by decide +kernel
theorem dX4_openings_70 : decode cX4_openings 70 = .ok (.iload_n 1, 1) := by decide +kernel
theorem dX4_openings_71 : decode cX4_openings 71 = .ok (.iload 6, 2) := by decide +kernel
theorem dX4_openings_73 : decode cX4_openings 73 = .ok (.invokevirtual 134, 3) := by decide +kernel
theorem dX4_openings_76 : decode cX4_openings 76 = .ok (.ifCond .ne 50, 3) := by decide +kernel
theorem dX4_openings_79 : decode cX4_openings 79 = .ok (.aload_n 0, 1) := by decide +kernel
theorem dX4_openings_80 : decode cX4_openings 80 = .ok (.getfield 16, 3) := by decide +kernel
theorem dX4_openings_83 : decode cX4_openings 83 = .ok (.getfield 90, 3) := by decide +kernel
theorem dX4_openings_86 : decode cX4_openings 86 = .ok (.iload_n 1, 1) := by decide +kernel
theorem dX4_openings_87 : decode cX4_openings 87 = .ok (.aload_n 0, 1) := by decide +kernel
theorem dX4_openings_88 : decode cX4_openings 88 = .ok (.getfield 12, 3) := by decide +kernel
theorem dX4_openings_91 : decode cX4_openings 91 = .ok (.getfield 90, 3) := by decide +kernel
theorem dX4_openings_94 : decode cX4_openings 94 = .ok (.iload_n 1, 1) := by decide +kernel
theorem dX4_openings_95 : decode cX4_openings 95 = .ok (.iaload, 1) := by decide +kernel
theorem dX4_openings_96 : decode cX4_openings 96 = .ok (.iconst 1, 1) := by decide +kernel
theorem dX4_openings_97 : decode cX4_openings 97 = .ok (.iload 6, 2) := by decide +kernel
theorem dX4_openings_99 : decode cX4_openings 99 = .ok (.ishl, 1) := by decide +kernel
theorem dX4_openings_100 : decode cX4_openings 100 = .ok (.ior, 1) := by decide +kernel
theorem dX4_openings_101 : decode cX4_openings 101 = .ok (.iastore, 1) := by decide +kernel
theorem dX4_openings_102 : decode cX4_openings 102 = .ok (.aload_n 0, 1) := by decide +kernel
theorem dX4_openings_103 : decode cX4_openings 103 = .ok (.aload_n 0, 1) := by decide +kernel
theorem dX4_openings_104 : decode cX4_openings 104 = .ok (.getfield 16, 3) := by decide +kernel
theorem dX4_openings_107 : decode cX4_openings 107 = .ok (.invokevirtual 198, 3) := by decide +kernel
theorem dX4_openings_110 : decode cX4_openings 110 = .ok (.iload_n 3, 1) := by decide +kernel
theorem dX4_openings_111 : decode cX4_openings 111 = .ok (.if_icmp .le 15, 3) := by decide +kernel
theorem dX4_openings_114 : decode cX4_openings 114 = .ok (.iinc 4 1, 3) := by decide +kernel
theorem dX4_openings_117 : decode cX4_openings 117 = .ok (.iload 5, 2) := by decide +kernel
theorem dX4_openings_119 : decode cX4_openings 119 = .ok (.ifCond .ge 7, 3) := by decide +kernel
theorem dX4_openings_122 : decode cX4_openings 122 = .ok (.iload 6, 2) := by decide +kernel
theorem dX4_openings_124 : decode cX4_openings 124 = .ok (.istore 5, 2) := by decide +kernel
theorem dX4_openings_126 : decode cX4_openings 126 = .ok (.iinc 6 1, 3) := by decide +kernel
theorem dX4_openings_129 : decode cX4_openings 129 = .ok (.goto (-70), 3) := by decide +kernel
theorem dX4_openings_132 : decode cX4_openings 132 = .ok (.iload_n 2, 1) := by decide +kernel
theorem dX4_openings_133 : decode cX4_openings 133 = .ok (.ifCond .ne 8, 3) := by decide +kernel
theorem dX4_openings_136 : decode cX4_openings 136 = .ok (.iload 4, 2) := by decide +kernel
theorem dX4_openings_138 : decode cX4_openings 138 = .ok (.goto 5, 3) := by decide +kernel
theorem dX4_openings_141 : decode cX4_openings 141 = .ok (.iload 5, 2) := by decide +kernel
theorem dX4_openings_143 : decode cX4_openings 143 = .ok (.ireturn, 1) := by decide +kernel
theorem dX4_dinner_0 : decode cX4_dinner 0 = .ok (.iload_n 1, 1) := by decide +kernel
theorem dX4_dinner_1 : decode cX4_dinner 1 = .ok (.iconst 1, 1) := by decide +kernel
theorem dX4_dinner_2 : decode cX4_dinner 2 = .ok (.if_icmp .ge 10, 3) := by decide +kernel
theorem dX4_dinner_5 : decode cX4_dinner 5 = .ok (.aload_n 0, 1) := by decide +kernel
theorem dX4_dinner_6 : decode cX4_dinner 6 = .ok (.bipush (-4), 2) := by decide +kernel
theorem dX4_dinner_8 : decode cX4_dinner 8 = .ok (.invokevirtual 50, 3) := by decide +kernel
theorem dX4_dinner_11 : decode cX4_dinner 11 = .ok (.ireturn, 1) := by decide +kernel
theorem dX4_dinner_12 : decode cX4_dinner 12 = .ok (.iload_n 1, 1) := by decide +kernel
theorem dX4_dinner_13 : decode cX4_dinner 13 = .ok (.bipush 12, 2) := by decide +kernel
theorem dX4_dinner_15 : decode cX4_dinner 15 = .ok (.if_icmp .le 10, 3) := by decide +kernel
theorem dX4_dinner_18 : decode cX4_dinner 18 = .ok (.aload_n 0, 1) := by decide +kernel
theorem dX4_dinner_19 : decode cX4_dinner 19 = .ok (.bipush (-6), 2) := by decide +kernel
theorem dX4_dinner_21 : decode cX4_dinner 21 = .ok (.invokevirtual 50, 3) := by decide +kernel
theorem dX4_dinner_24 : decode cX4_dinner 24 = .ok (.ireturn, 1) := by decide +kernel
theorem dX4_dinner_25 : decode cX4_dinner 25 = .ok (.iload_n 2, 1) := by decide +kernel
theorem dX4_dinner_26 : decode cX4_dinner 26 = .ok (.iconst 2, 1) := by decide +kernel
theorem dX4_dinner_27 : decode cX4_dinner 27 = .ok (.invokestatic 83, 3) := by decide +kernel
theorem dX4_dinner_30 : decode cX4_dinner 30 = .ok (.ifCond .eq 10, 3) := by decide +kernel
theorem dX4_dinner_33 : decode cX4_dinner 33 = .ok (.aload_n 0, 1) := by decide +kernel
theorem dX4_dinner_34 : decode cX4_dinner 34 = .ok (.bipush (-2), 2) := by decide +kernel
theorem dX4_dinner_36 : decode cX4_dinner 36 = .ok (.invokevirtual 50, 3) := by decide +kernel
theorem dX4_dinner_39 : decode cX4_dinner 39 = .ok (.ireturn, 1) := by decide +kernel
theorem dX4_dinner_40 : decode cX4_dinner 40 = .ok (.aload_n 0, 1) := by decide +kernel
theorem dX4_dinner_41 : decode cX4_dinner 41 = .ok (.getfield 25, 3) := by decide +kernel
theorem dX4_dinner_44 : decode cX4_dinner 44 = .ok (.aload_n 0, 1) := by decide +kernel
theorem dX4_dinner_45 : decode cX4_dinner 45 = .ok (.getfield 12, 3) := by decide +kernel
theorem dX4_dinner_48 : decode cX4_dinner 48 = .ok (.invokevirtual 158, 3) := by decide +kernel
theorem dX4_dinner_51 : decode cX4_dinner 51 = .ok (.bipush (-9), 2) := by decide +kernel
theorem dX4_dinner_53 : decode cX4_dinner 53 = .ok (.istore_n 3, 1) := by decide +kernel
theorem dX4_dinner_54 : decode cX4_dinner 54 = .ok (.iconst 0, 1) := by decide +kernel
theorem dX4_dinner_55 : decode cX4_dinner 55 = .ok (.istore 4, 2) := by decide +kernel
theorem dX4_dinner_57 : decode cX4_dinner 57 = .ok (.iconst 0, 1) := by decide +kernel
theorem dX4_dinner_58 : decode cX4_dinner 58 = .ok (.istore 5, 2) := by decide +kernel
theorem dX4_dinner_60 : decode cX4_dinner 60 = .ok (.iload 5, 2) := by decide +kernel
theorem dX4_dinner_62 : decode cX4_dinner 62 = .ok (.bipush 24, 2) := by decide +kernel
theorem dX4_dinner_64 : decode cX4_dinner 64 = .ok (.iload_n 1, 1) := by decide +kernel
theorem dX4_dinner_65 : decode cX4_dinner 65 = .ok (.isub, 1) := by decide +kernel
theorem dX4_dinner_66 : decode cX4_dinner 66 = .ok (.if_icmp .gt 66, 3) := by decide +kernel
theorem dX4_dinner_69 : decode cX4_dinner 69 = .ok (.iconst 0, 1) := by decide +kernel
theorem dX4_dinner_70 : decode cX4_dinner 70 = .ok (.istore 6, 2) := by decide +kernel
theorem dX4_dinner_72 : decode cX4_dinner 72 = .ok (.iload 5, 2) := by decide +kernel
theorem dX4_dinner_74 : decode cX4_dinner 74 = .ok (.istore 7, 2) := by decide +kernel
theorem dX4_dinner_76 : decode cX4_dinner 76 = .ok (.iload 7, 2) := by decide +kernel
theorem dX4_dinner_78 : decode cX4_dinner 78 = .ok (.iload 5, 2) := by decide +kernel
theorem dX4_dinner_80 : decode cX4_dinner 80 = .ok (.iload_n 1, 1) := by decide +kernel
theorem dX4_dinner_81 : decode cX4_dinner 81 = .ok (.iadd, 1) := by decide +kernel
theorem dX4_dinner_82 : decode cX4_dinner 82 = .ok (.if_icmp .ge 26, 3) := by decide +kernel
theorem dX4_dinner_85 : decode cX4_dinner 85 = .ok (.iload 6, 2) := by decide +kernel
theorem dX4_dinner_87 : decode cX4_dinner 87 = .ok (.aload_n 0, 1) := by decide +kernel
theorem dX4_dinner_88 : decode cX4_dinner 88 = .ok (.getfield 25, 3) := by decide +kernel
theorem dX4_dinner_91 : decode cX4_dinner 91 = .ok (.iload 7, 2) := by decide +kernel
theorem dX4_dinner_93 : decode cX4_dinner 93 = .ok (.invokevirtual 175, 3) := by decide +kernel
theorem dX4_dinner_96 : decode cX4_dinner 96 = .ok (.invokestatic 178, 3) := by decide +kernel
theorem dX4_dinner_99 : decode cX4_dinner 99 = .ok (.iadd, 1) := by decide +kernel
theorem dX4_dinner_100 : decode cX4_dinner 100 = .ok (.istore 6, 2) := by decide +kernel
theorem dX4_dinner_102 : decode cX4_dinner 102 = .ok (.iinc 7 1, 3) := by decide +kernel
theorem dX4_dinner_105 : decode cX4_dinner 105 = .ok (.goto (-29), 3) := by decide +kernel
theorem dX4_dinner_108 : decode cX4_dinner 108 = .ok (.iload_n 3, 1) := by decide +kernel
theorem dX4_dinner_109 : decode cX4_dinner 109 = .ok (.ifCond .lt 10, 3) := by decide +kernel
theorem dX4_dinner_112 : decode cX4_dinner 112 = .ok (.iload 6, 2) := by decide +kernel
theorem dX4_dinner_114 : decode cX4_dinner 114 = .ok (.iload 4, 2) := by decide +kernel
theorem dX4_dinner_116 : decode cX4_dinner 116 = .ok (.if_icmp .ge 10, 3) := by decide +kernel
theorem dX4_dinner_119 : decode cX4_dinner 119 = .ok (.iload 6, 2) := by decide +kernel
theorem dX4_dinner_121 : decode cX4_dinner 121 = .ok (.istore 4, 2) := by decide +kernel
theorem dX4_dinner_123 : decode cX4_dinner 123 = .ok (.iload 5, 2) := by decide +kernel
theorem dX4_dinner_125 : decode cX4_dinner 125 = .ok (.istore_n 3, 1) := by decide +kernel
theorem dX4_dinner_126 : decode cX4_dinner 126 = .ok (.iinc 5 1, 3) := by decide +kernel
theorem dX4_dinner_129 : decode cX4_dinner 129 = .ok (.goto (-69), 3) := by decide +kernel
theorem dX4_dinner_132 : decode cX4_dinner 132 = .ok (.iload_n 2, 1) := by decide +kernel
theorem dX4_dinner_133 : decode cX4_dinner 133 = .ok (.ifCond .ne 7, 3) := by decide +kernel
theorem dX4_dinner_136 : decode cX4_dinner 136 = .ok (.iload_n 3, 1) := by decide +kernel
theorem dX4_dinner_137 : decode cX4_dinner 137 = .ok (.goto 5, 3) := by decide +kernel
theorem dX4_dinner_140 : decode cX4_dinner 140 = .ok (.iload 4, 2) := by decide +kernel
theorem dX4_dinner_142 : decode cX4_dinner 142 = .ok (.ireturn, 1) := by decide +kernel
theorem dX4_share_0 : decode cX4_share 0 = .ok (.aload_n 0, 1) := by decide +kernel
theorem dX4_share_1 : decode cX4_share 1 = .ok (.iload_n 1, 1) := by decide +kernel
theorem dX4_share_2 : decode cX4_share 2 = .ok (.invokevirtual 99, 3) := by decide +kernel
theorem dX4_share_5 : decode cX4_share 5 = .ok (.ifCond .eq 9, 3) := by decide +kernel
theorem dX4_share_8 : decode cX4_share 8 = .ok (.aload_n 0, 1) := by decide +kernel
theorem dX4_share_9 : decode cX4_share 9 = .ok (.iconst (-1), 1) := by decide +kernel
theorem dX4_share_10 : decode cX4_share 10 = .ok (.invokevirtual 239, 3) := by decide +kernel
theorem dX4_share_13 : decode cX4_share 13 = .ok (.lreturn, 1) := by decide +kernel
theorem dX4_share_14 : decode cX4_share 14 = .ok (.iload_n 2, 1) := by decide +kernel
theorem dX4_share_15 : decode cX4_share 15 = .ok (.iconst 2, 1) := by decide +kernel
theorem dX4_share_16 : decode cX4_share 16 = .ok (.invokestatic 83, 3) := by decide +kernel
theorem dX4_share_19 : decode cX4_share 19 = .ok (.ifCond .eq 10, 3) := by decide +kernel
theorem dX4_share_22 : decode cX4_share 22 = .ok (.aload_n 0, 1) := by decide +kernel
theorem dX4_share_23 : decode cX4_share 23 = .ok (.bipush (-2), 2) := by decide +kernel
theorem dX4_share_25 : decode cX4_share 25 = .ok (.invokevirtual 239, 3) := by decide +kernel
theorem dX4_share_28 : decode cX4_share 28 = .ok (.lreturn, 1) := by decide +kernel
theorem dX4_share_29 : decode cX4_share 29 = .ok (.aload_n 0, 1) := by decide +kernel
theorem dX4_share_30 : decode cX4_share 30 = .ok (.getfield 25, 3) := by decide +kernel
theorem dX4_share_33 : decode cX4_share 33 = .ok (.aload_n 0, 1) := by decide +kernel
theorem dX4_share_34 : decode cX4_share 34 = .ok (.getfield 12, 3) := by decide +kernel
theorem dX4_share_37 : decode cX4_share 37 = .ok (.invokevirtual 158, 3) := by decide +kernel
theorem dX4_share_40 : decode cX4_share 40 = .ok (.iconst 0, 1) := by decide +kernel
theorem dX4_share_41 : decode cX4_share 41 = .ok (.istore_n 3, 1) := by decide +kernel
theorem dX4_share_42 : decode cX4_share 42 = .ok (.iconst 0, 1) := by decide +kernel
theorem dX4_share_43 : decode cX4_share 43 = .ok (.istore 4, 2) := by decide +kernel
theorem dX4_share_45 : decode cX4_share 45 = .ok (.iload 4, 2) := by decide +kernel
theorem dX4_share_47 : decode cX4_share 47 = .ok (.aload_n 0, 1) := by decide +kernel
theorem dX4_share_48 : decode cX4_share 48 = .ok (.getfield 12, 3) := by decide +kernel
theorem dX4_share_51 : decode cX4_share 51 = .ok (.getfield 121, 3) := by decide +kernel
theorem dX4_share_54 : decode cX4_share 54 = .ok (.if_icmp .ge 21, 3) := by decide +kernel
theorem dX4_share_57 : decode cX4_share 57 = .ok (.iload_n 3, 1) := by decide +kernel
theorem dX4_share_58 : decode cX4_share 58 = .ok (.aload_n 0, 1) := by decide +kernel
theorem dX4_share_59 : decode cX4_share 59 = .ok (.getfield 25, 3) := by decide +kernel
theorem dX4_share_62 : decode cX4_share 62 = .ok (.iload 4, 2) := by decide +kernel
theorem dX4_share_64 : decode cX4_share 64 = .ok (.invokevirtual 192, 3) := by decide +kernel
theorem dX4_share_67 : decode cX4_share 67 = .ok (.iadd, 1) := by decide +kernel
theorem dX4_share_68 : decode cX4_share 68 = .ok (.istore_n 3, 1) := by decide +kernel
theorem dX4_share_69 : decode cX4_share 69 = .ok (.iinc 4 1, 3) := by decide +kernel
theorem dX4_share_72 : decode cX4_share 72 = .ok (.goto (-27), 3) := by decide +kernel
theorem dX4_share_75 : decode cX4_share 75 = .ok (.aload_n 0, 1) := by decide +kernel
theorem dX4_share_76 : decode cX4_share 76 = .ok (.getfield 25, 3) := by decide +kernel
theorem dX4_share_79 : decode cX4_share 79 = .ok (.iload_n 1, 1) := by decide +kernel
theorem dX4_share_80 : decode cX4_share 80 = .ok (.invokevirtual 192, 3) := by decide +kernel
theorem dX4_share_83 : decode cX4_share 83 = .ok (.i2l, 1) := by decide +kernel
theorem dX4_share_84 : decode cX4_share 84 = .ok (.iload_n 3, 1) := by decide +kernel
theorem dX4_share_85 : decode cX4_share 85 = .ok (.i2l, 1) := by decide +kernel
theorem dX4_share_86 : decode cX4_share 86 = .ok (.iload_n 2, 1) := by decide +kernel
theorem dX4_share_87 : decode cX4_share 87 = .ok (.invokestatic 247, 3) := by decide +kernel
theorem dX4_share_90 : decode cX4_share 90 = .ok (.lreturn, 1) := by decide +kernel
theorem dX4_bridge_0 : decode cX4_bridge 0 = .ok (.aload_n 0, 1) := by decide +kernel
theorem dX4_bridge_1 : decode cX4_bridge 1 = .ok (.getfield 16, 3) := by decide +kernel
theorem dX4_bridge_4 : decode cX4_bridge 4 = .ok (.aload_n 0, 1) := by decide +kernel
theorem dX4_bridge_5 : decode cX4_bridge 5 = .ok (.getfield 12, 3) := by decide +kernel
theorem dX4_bridge_8 : decode cX4_bridge 8 = .ok (.invokevirtual 65, 3) := by decide +kernel
theorem dX4_bridge_11 : decode cX4_bridge 11 = .ok (.bipush (-9), 2) := by decide +kernel
theorem dX4_bridge_13 : decode cX4_bridge 13 = .ok (.istore_n 1, 1) := by decide +kernel
theorem dX4_bridge_14 : decode cX4_bridge 14 = .ok (.iconst 0, 1) := by decide +kernel
theorem dX4_bridge_15 : decode cX4_bridge 15 = .ok (.istore_n 2, 1) := by decide +kernel
theorem dX4_bridge_16 : decode cX4_bridge 16 = .ok (.iconst 0, 1) := by decide +kernel
theorem dX4_bridge_17 : decode cX4_bridge 17 = .ok (.istore_n 3, 1) := by decide +kernel
theorem dX4_bridge_18 : decode cX4_bridge 18 = .ok (.iload_n 3, 1) := by decide +kernel
theorem dX4_bridge_19 : decode cX4_bridge 19 = .ok (.aload_n 0, 1) := by decide +kernel
theorem dX4_bridge_20 : decode cX4_bridge 20 = .ok (.getfield 12, 3) := by decide +kernel
theorem dX4_bridge_23 : decode cX4_bridge 23 = .ok (.getfield 121, 3) := by decide +kernel
theorem dX4_bridge_26 : decode cX4_bridge 26 = .ok (.if_icmp .ge 78, 3) := by decide +kernel
theorem dX4_bridge_29 : decode cX4_bridge 29 = .ok (.iload_n 3, 1) := by decide +kernel
theorem dX4_bridge_30 : decode cX4_bridge 30 = .ok (.iconst 1, 1) := by decide +kernel
theorem dX4_bridge_31 : decode cX4_bridge 31 = .ok (.iadd, 1) := by decide +kernel
theorem dX4_bridge_32 : decode cX4_bridge 32 = .ok (.istore 4, 2) := by decide +kernel
theorem dX4_bridge_34 : decode cX4_bridge 34 = .ok (.iload 4, 2) := by decide +kernel
theorem dX4_bridge_36 : decode cX4_bridge 36 = .ok (.aload_n 0, 1) := by decide +kernel
theorem dX4_bridge_37 : decode cX4_bridge 37 = .ok (.getfield 12, 3) := by decide +kernel
theorem dX4_bridge_40 : decode cX4_bridge 40 = .ok (.getfield 121, 3) := by decide +kernel
theorem dX4_bridge_43 : decode cX4_bridge 43 = .ok (.if_icmp .ge 55, 3) := by decide +kernel
theorem dX4_bridge_46 : decode cX4_bridge 46 = .ok (.aload_n 0, 1) := by decide +kernel
theorem dX4_bridge_47 : decode cX4_bridge 47 = .ok (.getfield 16, 3) := by decide +kernel
theorem dX4_bridge_50 : decode cX4_bridge 50 = .ok (.iconst 1, 1) := by decide +kernel
theorem dX4_bridge_51 : decode cX4_bridge 51 = .ok (.iload_n 3, 1) := by decide +kernel
theorem dX4_bridge_52 : decode cX4_bridge 52 = .ok (.ishl, 1) := by decide +kernel
theorem dX4_bridge_53 : decode cX4_bridge 53 = .ok (.iconst 1, 1) := by decide +kernel
theorem dX4_bridge_54 : decode cX4_bridge 54 = .ok (.iload 4, 2) := by decide +kernel
theorem dX4_bridge_56 : decode cX4_bridge 56 = .ok (.ishl, 1) := by decide +kernel
theorem dX4_bridge_57 : decode cX4_bridge 57 = .ok (.ior, 1) := by decide +kernel
theorem dX4_bridge_58 : decode cX4_bridge 58 = .ok (.putfield 236, 3) := by decide +kernel
theorem dX4_bridge_61 : decode cX4_bridge 61 = .ok (.aload_n 0, 1) := by decide +kernel
theorem dX4_bridge_62 : decode cX4_bridge 62 = .ok (.aload_n 0, 1) := by decide +kernel
theorem dX4_bridge_63 : decode cX4_bridge 63 = .ok (.getfield 16, 3) := by decide +kernel
theorem dX4_bridge_66 : decode cX4_bridge 66 = .ok (.invokevirtual 198, 3) := by decide +kernel
theorem dX4_bridge_69 : decode cX4_bridge 69 = .ok (.istore 5, 2) := by decide +kernel
theorem dX4_bridge_71 : decode cX4_bridge 71 = .ok (.iload_n 1, 1) := by decide +kernel
theorem dX4_bridge_72 : decode cX4_bridge 72 = .ok (.ifCond .lt 9, 3) := by decide +kernel
theorem dX4_bridge_75 : decode cX4_bridge 75 = .ok (.iload 5, 2) := by decide +kernel
theorem dX4_bridge_77 : decode cX4_bridge 77 = .ok (.iload_n 2, 1) := by decide +kernel
theorem dX4_bridge_78 : decode cX4_bridge 78 = .ok (.if_icmp .ge 14, 3) := by decide +kernel
theorem dX4_bridge_81 : decode cX4_bridge 81 = .ok (.iload 5, 2) := by decide +kernel
theorem dX4_bridge_83 : decode cX4_bridge 83 = .ok (.istore_n 2, 1) := by decide +kernel
theorem dX4_bridge_84 : decode cX4_bridge 84 = .ok (.bipush 10, 2) := by decide +kernel
theorem dX4_bridge_86 : decode cX4_bridge 86 = .ok (.iload_n 3, 1) := by decide +kernel
theorem dX4_bridge_87 : decode cX4_bridge 87 = .ok (.imul, 1) := by decide +kernel
theorem dX4_bridge_88 : decode cX4_bridge 88 = .ok (.iload 4, 2) := by decide +kernel
theorem dX4_bridge_90 : decode cX4_bridge 90 = .ok (.iadd, 1) := by decide +kernel
theorem dX4_bridge_91 : decode cX4_bridge 91 = .ok (.istore_n 1, 1) := by decide +kernel
theorem dX4_bridge_92 : decode cX4_bridge 92 = .ok (.iinc 4 1, 3) := by decide +kernel
theorem dX4_bridge_95 : decode cX4_bridge 95 = .ok (.goto (-61), 3) := by decide +kernel
theorem dX4_bridge_98 : decode cX4_bridge 98 = .ok (.iinc 3 1, 3) := by decide +kernel
theorem dX4_bridge_101 : decode cX4_bridge 101 = .ok (.goto (-83), 3) := by decide +kernel
theorem dX4_bridge_104 : decode cX4_bridge 104 = .ok (.iload_n 1, 1) := by decide +kernel
theorem dX4_bridge_105 : decode cX4_bridge 105 = .ok (.ireturn, 1) := by decide +kernel
theorem dX4_heir_0 : decode cX4_heir 0 = .ok (.aload_n 0, 1) := by decide +kernel
theorem dX4_heir_1 : decode cX4_heir 1 = .ok (.iload_n 1, 1) := by decide +kernel
theorem dX4_heir_2 : decode cX4_heir 2 = .ok (.invokevirtual 99, 3) := by decide +kernel
theorem dX4_heir_5 : decode cX4_heir 5 = .ok (.ifCond .eq 9, 3) := by decide +kernel
theorem dX4_heir_8 : decode cX4_heir 8 = .ok (.aload_n 0, 1) := by decide +kernel
theorem dX4_heir_9 : decode cX4_heir 9 = .ok (.iconst (-1), 1) := by decide +kernel
theorem dX4_heir_10 : decode cX4_heir 10 = .ok (.invokevirtual 50, 3) := by decide +kernel
theorem dX4_heir_13 : decode cX4_heir 13 = .ok (.ireturn, 1) := by decide +kernel
theorem dX4_heir_14 : decode cX4_heir 14 = .ok (.aload_n 0, 1) := by decide +kernel
theorem dX4_heir_15 : decode cX4_heir 15 = .ok (.getfield 16, 3) := by decide +kernel
theorem dX4_heir_18 : decode cX4_heir 18 = .ok (.aload_n 0, 1) := by decide +kernel
theorem dX4_heir_19 : decode cX4_heir 19 = .ok (.getfield 12, 3) := by decide +kernel
theorem dX4_heir_22 : decode cX4_heir 22 = .ok (.invokevirtual 65, 3) := by decide +kernel
theorem dX4_heir_25 : decode cX4_heir 25 = .ok (.iconst 0, 1) := by decide +kernel
theorem dX4_heir_26 : decode cX4_heir 26 = .ok (.istore_n 2, 1) := by decide +kernel
theorem dX4_heir_27 : decode cX4_heir 27 = .ok (.iconst (-1), 1) := by decide +kernel
theorem dX4_heir_28 : decode cX4_heir 28 = .ok (.istore_n 3, 1) := by decide +kernel
theorem dX4_heir_29 : decode cX4_heir 29 = .ok (.iconst 0, 1) := by decide +kernel
theorem dX4_heir_30 : decode cX4_heir 30 = .ok (.istore 4, 2) := by decide +kernel
theorem dX4_heir_32 : decode cX4_heir 32 = .ok (.iload 4, 2) := by decide +kernel
theorem dX4_heir_34 : decode cX4_heir 34 = .ok (.bipush 10, 2) := by decide +kernel
theorem dX4_heir_36 : decode cX4_heir 36 = .ok (.if_icmp .ge 53, 3) := by decide +kernel
theorem dX4_heir_39 : decode cX4_heir 39 = .ok (.aload_n 0, 1) := by decide +kernel
theorem dX4_heir_40 : decode cX4_heir 40 = .ok (.getfield 16, 3) := by decide +kernel
theorem dX4_heir_43 : decode cX4_heir 43 = .ok (.getfield 105, 3) := by decide +kernel
theorem dX4_heir_46 : decode cX4_heir 46 = .ok (.iload_n 1, 1) := by decide +kernel
theorem dX4_heir_47 : decode cX4_heir 47 = .ok (.iload 4, 2) := by decide +kernel
theorem dX4_heir_49 : decode cX4_heir 49 = .ok (.iastore, 1) := by decide +kernel
theorem dX4_heir_50 : decode cX4_heir 50 = .ok (.aload_n 0, 1) := by decide +kernel
theorem dX4_heir_51 : decode cX4_heir 51 = .ok (.getfield 25, 3) := by decide +kernel
theorem dX4_heir_54 : decode cX4_heir 54 = .ok (.aload_n 0, 1) := by decide +kernel
theorem dX4_heir_55 : decode cX4_heir 55 = .ok (.getfield 16, 3) := by decide +kernel
theorem dX4_heir_58 : decode cX4_heir 58 = .ok (.invokevirtual 158, 3) := by decide +kernel
theorem dX4_heir_61 : decode cX4_heir 61 = .ok (.aload_n 0, 1) := by decide +kernel
theorem dX4_heir_62 : decode cX4_heir 62 = .ok (.getfield 25, 3) := by decide +kernel
theorem dX4_heir_65 : decode cX4_heir 65 = .ok (.iload_n 1, 1) := by decide +kernel
theorem dX4_heir_66 : decode cX4_heir 66 = .ok (.invokevirtual 192, 3) := by decide +kernel
theorem dX4_heir_69 : decode cX4_heir 69 = .ok (.istore 5, 2) := by decide +kernel
theorem dX4_heir_71 : decode cX4_heir 71 = .ok (.iload 5, 2) := by decide +kernel
theorem dX4_heir_73 : decode cX4_heir 73 = .ok (.iload_n 3, 1) := by decide +kernel
theorem dX4_heir_74 : decode cX4_heir 74 = .ok (.if_icmp .le 9, 3) := by decide +kernel
theorem dX4_heir_77 : decode cX4_heir 77 = .ok (.iload 5, 2) := by decide +kernel
theorem dX4_heir_79 : decode cX4_heir 79 = .ok (.istore_n 3, 1) := by decide +kernel
theorem dX4_heir_80 : decode cX4_heir 80 = .ok (.iload 4, 2) := by decide +kernel
theorem dX4_heir_82 : decode cX4_heir 82 = .ok (.istore_n 2, 1) := by decide +kernel
theorem dX4_heir_83 : decode cX4_heir 83 = .ok (.iinc 4 1, 3) := by decide +kernel
theorem dX4_heir_86 : decode cX4_heir 86 = .ok (.goto (-54), 3) := by decide +kernel
theorem dX4_heir_89 : decode cX4_heir 89 = .ok (.iload_n 2, 1) := by decide +kernel
theorem dX4_heir_90 : decode cX4_heir 90 = .ok (.ireturn, 1) := by decide +kernel
theorem dX4_secret_0 : decode cX4_secret 0 = .ok (.aload_n 0, 1) := by decide +kernel
theorem dX4_secret_1 : decode cX4_secret 1 = .ok (.getfield 25, 3) := by decide +kernel
theorem dX4_secret_4 : decode cX4_secret 4 = .ok (.aload_n 0, 1) := by decide +kernel
theorem dX4_secret_5 : decode cX4_secret 5 = .ok (.getfield 12, 3) := by decide +kernel
theorem dX4_secret_8 : decode cX4_secret 8 = .ok (.invokevirtual 158, 3) := by decide +kernel
theorem dX4_secret_11 : decode cX4_secret 11 = .ok (.aload_n 0, 1) := by decide +kernel
theorem dX4_secret_12 : decode cX4_secret 12 = .ok (.getfield 25, 3) := by decide +kernel
theorem dX4_secret_15 : decode cX4_secret 15 = .ok (.iconst 1, 1) := by decide +kernel
theorem dX4_secret_16 : decode cX4_secret 16 = .ok (.aload_n 0, 1) := by decide +kernel
theorem dX4_secret_17 : decode cX4_secret 17 = .ok (.getfield 12, 3) := by decide +kernel
theorem dX4_secret_20 : decode cX4_secret 20 = .ok (.getfield 114, 3) := by decide +kernel
theorem dX4_secret_23 : decode cX4_secret 23 = .ok (.ishl, 1) := by decide +kernel
theorem dX4_secret_24 : decode cX4_secret 24 = .ok (.iconst 1, 1) := by decide +kernel
theorem dX4_secret_25 : decode cX4_secret 25 = .ok (.isub, 1) := by decide +kernel
theorem dX4_secret_26 : decode cX4_secret 26 = .ok (.invokevirtual 266, 3) := by decide +kernel
theorem dX4_secret_29 : decode cX4_secret 29 = .ok (.aload_n 0, 1) := by decide +kernel
theorem dX4_secret_30 : decode cX4_secret 30 = .ok (.getfield 25, 3) := by decide +kernel
theorem dX4_secret_33 : decode cX4_secret 33 = .ok (.invokevirtual 269, 3) := by decide +kernel
theorem dX4_secret_36 : decode cX4_secret 36 = .ok (.iconst (-1), 1) := by decide +kernel
theorem dX4_secret_37 : decode cX4_secret 37 = .ok (.ixor, 1) := by decide +kernel
theorem dX4_secret_38 : decode cX4_secret 38 = .ok (.iand, 1) := by decide +kernel
theorem dX4_secret_39 : decode cX4_secret 39 = .ok (.ireturn, 1) := by decide +kernel
theorem dX4_synod_0 : decode cX4_synod 0 = .ok (.aload_n 0, 1) := by decide +kernel
theorem dX4_synod_1 : decode cX4_synod 1 = .ok (.getfield 25, 3) := by decide +kernel
theorem dX4_synod_4 : decode cX4_synod 4 = .ok (.aload_n 0, 1) := by decide +kernel
theorem dX4_synod_5 : decode cX4_synod 5 = .ok (.getfield 12, 3) := by decide +kernel
theorem dX4_synod_8 : decode cX4_synod 8 = .ok (.invokevirtual 158, 3) := by decide +kernel
theorem dX4_synod_11 : decode cX4_synod 11 = .ok (.iconst 1, 1) := by decide +kernel
theorem dX4_synod_12 : decode cX4_synod 12 = .ok (.aload_n 0, 1) := by decide +kernel
theorem dX4_synod_13 : decode cX4_synod 13 = .ok (.getfield 12, 3) := by decide +kernel
theorem dX4_synod_16 : decode cX4_synod 16 = .ok (.getfield 114, 3) := by decide +kernel
theorem dX4_synod_19 : decode cX4_synod 19 = .ok (.ishl, 1) := by decide +kernel
theorem dX4_synod_20 : decode cX4_synod 20 = .ok (.iconst 1, 1) := by decide +kernel
theorem dX4_synod_21 : decode cX4_synod 21 = .ok (.isub, 1) := by decide +kernel
theorem dX4_synod_22 : decode cX4_synod 22 = .ok (.istore_n 1, 1) := by decide +kernel
theorem dX4_synod_23 : decode cX4_synod 23 = .ok (.aload_n 0, 1) := by decide +kernel
theorem dX4_synod_24 : decode cX4_synod 24 = .ok (.getfield 25, 3) := by decide +kernel
theorem dX4_synod_27 : decode cX4_synod 27 = .ok (.iload_n 1, 1) := by decide +kernel
theorem dX4_synod_28 : decode cX4_synod 28 = .ok (.invokevirtual 266, 3) := by decide +kernel
theorem dX4_synod_31 : decode cX4_synod 31 = .ok (.istore_n 2, 1) := by decide +kernel
theorem dX4_synod_32 : decode cX4_synod 32 = .ok (.iload_n 1, 1) := by decide +kernel
theorem dX4_synod_33 : decode cX4_synod 33 = .ok (.istore_n 3, 1) := by decide +kernel
theorem dX4_synod_34 : decode cX4_synod 34 = .ok (.iconst 0, 1) := by decide +kernel
theorem dX4_synod_35 : decode cX4_synod 35 = .ok (.istore 4, 2) := by decide +kernel
theorem dX4_synod_37 : decode cX4_synod 37 = .ok (.iload 4, 2) := by decide +kernel
theorem dX4_synod_39 : decode cX4_synod 39 = .ok (.iload_n 1, 1) := by decide +kernel
theorem dX4_synod_40 : decode cX4_synod 40 = .ok (.if_icmp .ge 34, 3) := by decide +kernel
theorem dX4_synod_43 : decode cX4_synod 43 = .ok (.iload 4, 2) := by decide +kernel
theorem dX4_synod_45 : decode cX4_synod 45 = .ok (.iload_n 3, 1) := by decide +kernel
theorem dX4_synod_46 : decode cX4_synod 46 = .ok (.invokestatic 208, 3) := by decide +kernel
theorem dX4_synod_49 : decode cX4_synod 49 = .ok (.ifCond .eq 19, 3) := by decide +kernel
theorem dX4_synod_52 : decode cX4_synod 52 = .ok (.aload_n 0, 1) := by decide +kernel
theorem dX4_synod_53 : decode cX4_synod 53 = .ok (.getfield 25, 3) := by decide +kernel
theorem dX4_synod_56 : decode cX4_synod 56 = .ok (.iload 4, 2) := by decide +kernel
theorem dX4_synod_58 : decode cX4_synod 58 = .ok (.invokevirtual 266, 3) := by decide +kernel
theorem dX4_synod_61 : decode cX4_synod 61 = .ok (.iload_n 2, 1) := by decide +kernel
theorem dX4_synod_62 : decode cX4_synod 62 = .ok (.if_icmp .ne 6, 3) := by decide +kernel
theorem dX4_synod_65 : decode cX4_synod 65 = .ok (.iload 4, 2) := by decide +kernel
theorem dX4_synod_67 : decode cX4_synod 67 = .ok (.istore_n 3, 1) := by decide +kernel
theorem dX4_synod_68 : decode cX4_synod 68 = .ok (.iinc 4 1, 3) := by decide +kernel
theorem dX4_synod_71 : decode cX4_synod 71 = .ok (.goto (-34), 3) := by decide +kernel
theorem dX4_synod_74 : decode cX4_synod 74 = .ok (.iload_n 3, 1) := by decide +kernel
theorem dX4_synod_75 : decode cX4_synod 75 = .ok (.ireturn, 1) := by decide +kernel
theorem dX4_row_0 : decode cX4_row 0 = .ok (.iload_n 1, 1) := by decide +kernel
theorem dX4_row_1 : decode cX4_row 1 = .ok (.ifCond .ge 10, 3) := by decide +kernel
theorem dX4_row_4 : decode cX4_row 4 = .ok (.aload_n 0, 1) := by decide +kernel
theorem dX4_row_5 : decode cX4_row 5 = .ok (.bipush (-4), 2) := by decide +kernel
theorem dX4_row_7 : decode cX4_row 7 = .ok (.invokevirtual 50, 3) := by decide +kernel
theorem dX4_row_10 : decode cX4_row 10 = .ok (.ireturn, 1) := by decide +kernel
theorem dX4_row_11 : decode cX4_row 11 = .ok (.iload_n 1, 1) := by decide +kernel
theorem dX4_row_12 : decode cX4_row 12 = .ok (.bipush 99, 2) := by decide +kernel
theorem dX4_row_14 : decode cX4_row 14 = .ok (.if_icmp .gt 12, 3) := by decide +kernel
theorem dX4_row_17 : decode cX4_row 17 = .ok (.aload_n 0, 1) := by decide +kernel
theorem dX4_row_18 : decode cX4_row 18 = .ok (.getfield 221, 3) := by decide +kernel
theorem dX4_row_21 : decode cX4_row 21 = .ok (.bipush 24, 2) := by decide +kernel
theorem dX4_row_23 : decode cX4_row 23 = .ok (.if_icmp .lt 10, 3) := by decide +kernel
theorem dX4_row_26 : decode cX4_row 26 = .ok (.aload_n 0, 1) := by decide +kernel
theorem dX4_row_27 : decode cX4_row 27 = .ok (.bipush (-6), 2) := by decide +kernel
theorem dX4_row_29 : decode cX4_row 29 = .ok (.invokevirtual 50, 3) := by decide +kernel
theorem dX4_row_32 : decode cX4_row 32 = .ok (.ireturn, 1) := by decide +kernel
theorem dX4_row_33 : decode cX4_row 33 = .ok (.aload_n 0, 1) := by decide +kernel
theorem dX4_row_34 : decode cX4_row 34 = .ok (.getfield 43, 3) := by decide +kernel
theorem dX4_row_37 : decode cX4_row 37 = .ok (.aload_n 0, 1) := by decide +kernel
theorem dX4_row_38 : decode cX4_row 38 = .ok (.getfield 221, 3) := by decide +kernel
theorem dX4_row_41 : decode cX4_row 41 = .ok (.iload_n 1, 1) := by decide +kernel
theorem dX4_row_42 : decode cX4_row 42 = .ok (.iastore, 1) := by decide +kernel
theorem dX4_row_43 : decode cX4_row 43 = .ok (.aload_n 0, 1) := by decide +kernel
theorem dX4_row_44 : decode cX4_row 44 = .ok (.dup, 1) := by decide +kernel
theorem dX4_row_45 : decode cX4_row 45 = .ok (.getfield 221, 3) := by decide +kernel
theorem dX4_row_48 : decode cX4_row 48 = .ok (.iconst 1, 1) := by decide +kernel
theorem dX4_row_49 : decode cX4_row 49 = .ok (.iadd, 1) := by decide +kernel
theorem dX4_row_50 : decode cX4_row 50 = .ok (.putfield 221, 3) := by decide +kernel
theorem dX4_row_53 : decode cX4_row 53 = .ok (.aload_n 0, 1) := by decide +kernel
theorem dX4_row_54 : decode cX4_row 54 = .ok (.getfield 221, 3) := by decide +kernel
theorem dX4_row_57 : decode cX4_row 57 = .ok (.ireturn, 1) := by decide +kernel
theorem dX4_judge_0 : decode cX4_judge 0 = .ok (.aload_n 0, 1) := by decide +kernel
theorem dX4_judge_1 : decode cX4_judge 1 = .ok (.getfield 25, 3) := by decide +kernel
theorem dX4_judge_4 : decode cX4_judge 4 = .ok (.aload_n 0, 1) := by decide +kernel
theorem dX4_judge_5 : decode cX4_judge 5 = .ok (.getfield 12, 3) := by decide +kernel
theorem dX4_judge_8 : decode cX4_judge 8 = .ok (.invokevirtual 158, 3) := by decide +kernel
theorem dX4_judge_11 : decode cX4_judge 11 = .ok (.bipush (-9), 2) := by decide +kernel
theorem dX4_judge_13 : decode cX4_judge 13 = .ok (.istore_n 1, 1) := by decide +kernel
theorem dX4_judge_14 : decode cX4_judge 14 = .ok (.iconst 0, 1) := by decide +kernel
theorem dX4_judge_15 : decode cX4_judge 15 = .ok (.istore_n 2, 1) := by decide +kernel
theorem dX4_judge_16 : decode cX4_judge 16 = .ok (.iload_n 2, 1) := by decide +kernel
theorem dX4_judge_17 : decode cX4_judge 17 = .ok (.aload_n 0, 1) := by decide +kernel
theorem dX4_judge_18 : decode cX4_judge 18 = .ok (.getfield 221, 3) := by decide +kernel
theorem dX4_judge_21 : decode cX4_judge 21 = .ok (.if_icmp .ge 35, 3) := by decide +kernel
theorem dX4_judge_24 : decode cX4_judge 24 = .ok (.iload_n 1, 1) := by decide +kernel
theorem dX4_judge_25 : decode cX4_judge 25 = .ok (.ifCond .ge 31, 3) := by decide +kernel
theorem dX4_judge_28 : decode cX4_judge 28 = .ok (.aload_n 0, 1) := by decide +kernel
theorem dX4_judge_29 : decode cX4_judge 29 = .ok (.getfield 43, 3) := by decide +kernel
theorem dX4_judge_32 : decode cX4_judge 32 = .ok (.iload_n 2, 1) := by decide +kernel
theorem dX4_judge_33 : decode cX4_judge 33 = .ok (.iaload, 1) := by decide +kernel
theorem dX4_judge_34 : decode cX4_judge 34 = .ok (.aload_n 0, 1) := by decide +kernel
theorem dX4_judge_35 : decode cX4_judge 35 = .ok (.getfield 25, 3) := by decide +kernel
theorem dX4_judge_38 : decode cX4_judge 38 = .ok (.iload_n 2, 1) := by decide +kernel
theorem dX4_judge_39 : decode cX4_judge 39 = .ok (.invokevirtual 175, 3) := by decide +kernel
theorem dX4_judge_42 : decode cX4_judge 42 = .ok (.invokestatic 178, 3) := by decide +kernel
theorem dX4_judge_45 : decode cX4_judge 45 = .ok (.if_icmp .eq 5, 3) := by decide +kernel
theorem dX4_judge_48 : decode cX4_judge 48 = .ok (.iload_n 2, 1) := by decide +kernel
theorem dX4_judge_49 : decode cX4_judge 49 = .ok (.istore_n 1, 1) := by decide +kernel
theorem dX4_judge_50 : decode cX4_judge 50 = .ok (.iinc 2 1, 3) := by decide +kernel
theorem dX4_judge_53 : decode cX4_judge 53 = .ok (.goto (-37), 3) := by decide +kernel
theorem dX4_judge_56 : decode cX4_judge 56 = .ok (.aload_n 0, 1) := by decide +kernel
theorem dX4_judge_57 : decode cX4_judge 57 = .ok (.iconst 0, 1) := by decide +kernel
theorem dX4_judge_58 : decode cX4_judge 58 = .ok (.putfield 221, 3) := by decide +kernel
theorem dX4_judge_61 : decode cX4_judge 61 = .ok (.iload_n 1, 1) := by decide +kernel
theorem dX4_judge_62 : decode cX4_judge 62 = .ok (.ireturn, 1) := by decide +kernel
theorem dX4_clear_0 : decode cX4_clear 0 = .ok (.aload_n 0, 1) := by decide +kernel
theorem dX4_clear_1 : decode cX4_clear 1 = .ok (.getfield 221, 3) := by decide +kernel
theorem dX4_clear_4 : decode cX4_clear 4 = .ok (.istore_n 1, 1) := by decide +kernel
theorem dX4_clear_5 : decode cX4_clear 5 = .ok (.aload_n 0, 1) := by decide +kernel
theorem dX4_clear_6 : decode cX4_clear 6 = .ok (.iconst 0, 1) := by decide +kernel
theorem dX4_clear_7 : decode cX4_clear 7 = .ok (.putfield 221, 3) := by decide +kernel
theorem dX4_clear_10 : decode cX4_clear 10 = .ok (.iload_n 1, 1) := by decide +kernel
theorem dX4_clear_11 : decode cX4_clear 11 = .ok (.ireturn, 1) := by decide +kernel
theorem dX4_lots_0 : decode cX4_lots 0 = .ok (.iload_n 1, 1) := by decide +kernel
theorem dX4_lots_1 : decode cX4_lots 1 = .ok (.iconst 1, 1) := by decide +kernel
theorem dX4_lots_2 : decode cX4_lots 2 = .ok (.if_icmp .ge 10, 3) := by decide +kernel
theorem dX4_lots_5 : decode cX4_lots 5 = .ok (.aload_n 0, 1) := by decide +kernel
theorem dX4_lots_6 : decode cX4_lots 6 = .ok (.bipush (-4), 2) := by decide +kernel
theorem dX4_lots_8 : decode cX4_lots 8 = .ok (.invokevirtual 50, 3) := by decide +kernel
theorem dX4_lots_11 : decode cX4_lots 11 = .ok (.ireturn, 1) := by decide +kernel
theorem dX4_lots_12 : decode cX4_lots 12 = .ok (.iload_n 1, 1) := by decide +kernel
theorem dX4_lots_13 : decode cX4_lots 13 = .ok (.bipush 20, 2) := by decide +kernel
theorem dX4_lots_15 : decode cX4_lots 15 = .ok (.if_icmp .le 10, 3) := by decide +kernel
theorem dX4_lots_18 : decode cX4_lots 18 = .ok (.aload_n 0, 1) := by decide +kernel
theorem dX4_lots_19 : decode cX4_lots 19 = .ok (.bipush (-6), 2) := by decide +kernel
theorem dX4_lots_21 : decode cX4_lots 21 = .ok (.invokevirtual 50, 3) := by decide +kernel
theorem dX4_lots_24 : decode cX4_lots 24 = .ok (.ireturn, 1) := by decide +kernel
theorem dX4_lots_25 : decode cX4_lots 25 = .ok (.iload_n 3, 1) := by decide +kernel
theorem dX4_lots_26 : decode cX4_lots 26 = .ok (.iconst 2, 1) := by decide +kernel
theorem dX4_lots_27 : decode cX4_lots 27 = .ok (.invokestatic 83, 3) := by decide +kernel
theorem dX4_lots_30 : decode cX4_lots 30 = .ok (.ifCond .eq 10, 3) := by decide +kernel
theorem dX4_lots_33 : decode cX4_lots 33 = .ok (.aload_n 0, 1) := by decide +kernel
theorem dX4_lots_34 : decode cX4_lots 34 = .ok (.bipush (-2), 2) := by decide +kernel
theorem dX4_lots_36 : decode cX4_lots 36 = .ok (.invokevirtual 50, 3) := by decide +kernel
theorem dX4_lots_39 : decode cX4_lots 39 = .ok (.ireturn, 1) := by decide +kernel
theorem dX4_lots_40 : decode cX4_lots 40 = .ok (.aload_n 0, 1) := by decide +kernel
theorem dX4_lots_41 : decode cX4_lots 41 = .ok (.getfield 16, 3) := by decide +kernel
theorem dX4_lots_44 : decode cX4_lots 44 = .ok (.aload_n 0, 1) := by decide +kernel
theorem dX4_lots_45 : decode cX4_lots 45 = .ok (.getfield 12, 3) := by decide +kernel
theorem dX4_lots_48 : decode cX4_lots 48 = .ok (.invokevirtual 65, 3) := by decide +kernel
theorem dX4_lots_51 : decode cX4_lots 51 = .ok (.iload_n 2, 1) := by decide +kernel
theorem dX4_lots_52 : decode cX4_lots 52 = .ok (.istore 4, 2) := by decide +kernel
theorem dX4_lots_54 : decode cX4_lots 54 = .ok (.iconst 0, 1) := by decide +kernel
theorem dX4_lots_55 : decode cX4_lots 55 = .ok (.istore 5, 2) := by decide +kernel
theorem dX4_lots_57 : decode cX4_lots 57 = .ok (.iconst 0, 1) := by decide +kernel
theorem dX4_lots_58 : decode cX4_lots 58 = .ok (.istore 6, 2) := by decide +kernel
theorem dX4_lots_60 : decode cX4_lots 60 = .ok (.iconst 0, 1) := by decide +kernel
theorem dX4_lots_61 : decode cX4_lots 61 = .ok (.istore 7, 2) := by decide +kernel
theorem dX4_lots_63 : decode cX4_lots 63 = .ok (.iload 7, 2) := by decide +kernel
theorem dX4_lots_65 : decode cX4_lots 65 = .ok (.iload_n 1, 1) := by decide +kernel
theorem dX4_lots_66 : decode cX4_lots 66 = .ok (.if_icmp .ge 111, 3) := by decide +kernel
theorem dX4_lots_69 : decode cX4_lots 69 = .ok (.iconst 0, 1) := by decide +kernel
theorem dX4_lots_70 : decode cX4_lots 70 = .ok (.istore 8, 2) := by decide +kernel
theorem dX4_lots_72 : decode cX4_lots 72 = .ok (.iload 8, 2) := by decide +kernel
theorem dX4_lots_74 : decode cX4_lots 74 = .ok (.aload_n 0, 1) := by decide +kernel
theorem dX4_lots_75 : decode cX4_lots 75 = .ok (.getfield 12, 3) := by decide +kernel
theorem dX4_lots_78 : decode cX4_lots 78 = .ok (.getfield 114, 3) := by decide +kernel
theorem dX4_lots_81 : decode cX4_lots 81 = .ok (.if_icmp .ge 64, 3) := by decide +kernel
theorem dX4_lots_84 : decode cX4_lots 84 = .ok (.iload 4, 2) := by decide +kernel
theorem dX4_lots_86 : decode cX4_lots 86 = .ok (.invokestatic 272, 3) := by decide +kernel
theorem dX4_lots_89 : decode cX4_lots 89 = .ok (.istore 4, 2) := by decide +kernel
theorem dX4_lots_91 : decode cX4_lots 91 = .ok (.iload 4, 2) := by decide +kernel
theorem dX4_lots_93 : decode cX4_lots 93 = .ok (.invokestatic 275, 3) := by decide +kernel
theorem dX4_lots_96 : decode cX4_lots 96 = .ok (.istore 9, 2) := by decide +kernel
theorem dX4_lots_98 : decode cX4_lots 98 = .ok (.iload 4, 2) := by decide +kernel
theorem dX4_lots_100 : decode cX4_lots 100 = .ok (.invokestatic 272, 3) := by decide +kernel
theorem dX4_lots_103 : decode cX4_lots 103 = .ok (.istore 4, 2) := by decide +kernel
theorem dX4_lots_105 : decode cX4_lots 105 = .ok (.iload 4, 2) := by decide +kernel
theorem dX4_lots_107 : decode cX4_lots 107 = .ok (.invokestatic 275, 3) := by decide +kernel
theorem dX4_lots_110 : decode cX4_lots 110 = .ok (.istore 10, 2) := by decide +kernel
theorem dX4_lots_112 : decode cX4_lots 112 = .ok (.aload_n 0, 1) := by decide +kernel
theorem dX4_lots_113 : decode cX4_lots 113 = .ok (.getfield 16, 3) := by decide +kernel
theorem dX4_lots_116 : decode cX4_lots 116 = .ok (.getfield 90, 3) := by decide +kernel
theorem dX4_lots_119 : decode cX4_lots 119 = .ok (.iload 8, 2) := by decide +kernel
theorem dX4_lots_121 : decode cX4_lots 121 = .ok (.iload 9, 2) := by decide +kernel
theorem dX4_lots_123 : decode cX4_lots 123 = .ok (.iload 10, 2) := by decide +kernel
theorem dX4_lots_125 : decode cX4_lots 125 = .ok (.invokestatic 278, 3) := by decide +kernel
theorem dX4_lots_128 : decode cX4_lots 128 = .ok (.iload 9, 2) := by decide +kernel
theorem dX4_lots_130 : decode cX4_lots 130 = .ok (.iload 10, 2) := by decide +kernel
theorem dX4_lots_132 : decode cX4_lots 132 = .ok (.invokestatic 251, 3) := by decide +kernel
theorem dX4_lots_135 : decode cX4_lots 135 = .ok (.invokestatic 281, 3) := by decide +kernel
theorem dX4_lots_138 : decode cX4_lots 138 = .ok (.iastore, 1) := by decide +kernel
theorem dX4_lots_139 : decode cX4_lots 139 = .ok (.iinc 8 1, 3) := by decide +kernel
theorem dX4_lots_142 : decode cX4_lots 142 = .ok (.goto (-70), 3) := by decide +kernel
theorem dX4_lots_145 : decode cX4_lots 145 = .ok (.iload 5, 2) := by decide +kernel
theorem dX4_lots_147 : decode cX4_lots 147 = .ok (.aload_n 0, 1) := by decide +kernel
theorem dX4_lots_148 : decode cX4_lots 148 = .ok (.aload_n 0, 1) := by decide +kernel
theorem dX4_lots_149 : decode cX4_lots 149 = .ok (.getfield 16, 3) := by decide +kernel
theorem dX4_lots_152 : decode cX4_lots 152 = .ok (.invokevirtual 198, 3) := by decide +kernel
theorem dX4_lots_155 : decode cX4_lots 155 = .ok (.iadd, 1) := by decide +kernel
theorem dX4_lots_156 : decode cX4_lots 156 = .ok (.istore 5, 2) := by decide +kernel
theorem dX4_lots_158 : decode cX4_lots 158 = .ok (.aload_n 0, 1) := by decide +kernel
theorem dX4_lots_159 : decode cX4_lots 159 = .ok (.getfield 25, 3) := by decide +kernel
theorem dX4_lots_162 : decode cX4_lots 162 = .ok (.invokevirtual 269, 3) := by decide +kernel
theorem dX4_lots_165 : decode cX4_lots 165 = .ok (.ifCond .eq 6, 3) := by decide +kernel
theorem dX4_lots_168 : decode cX4_lots 168 = .ok (.iinc 6 1, 3) := by decide +kernel
theorem dX4_lots_171 : decode cX4_lots 171 = .ok (.iinc 7 1, 3) := by decide +kernel
theorem dX4_lots_174 : decode cX4_lots 174 = .ok (.goto (-111), 3) := by decide +kernel
theorem dX4_lots_177 : decode cX4_lots 177 = .ok (.iload_n 3, 1) := by decide +kernel
theorem dX4_lots_178 : decode cX4_lots 178 = .ok (.ifCond .ne 8, 3) := by decide +kernel
theorem dX4_lots_181 : decode cX4_lots 181 = .ok (.iload 5, 2) := by decide +kernel
theorem dX4_lots_183 : decode cX4_lots 183 = .ok (.goto 5, 3) := by decide +kernel
theorem dX4_lots_186 : decode cX4_lots 186 = .ok (.iload 6, 2) := by decide +kernel
theorem dX4_lots_188 : decode cX4_lots 188 = .ok (.ireturn, 1) := by decide +kernel
theorem dX4_nextSeed_0 : decode cX4_nextSeed 0 = .ok (.iload_n 0, 1) := by decide +kernel
theorem dX4_nextSeed_1 : decode cX4_nextSeed 1 = .ok (.ldc_w 284, 3) := by decide +kernel
theorem dX4_nextSeed_4 : decode cX4_nextSeed 4 = .ok (.imul, 1) := by decide +kernel
theorem dX4_nextSeed_5 : decode cX4_nextSeed 5 = .ok (.sipush 12345, 3) := by decide +kernel
theorem dX4_nextSeed_8 : decode cX4_nextSeed 8 = .ok (.iadd, 1) := by decide +kernel
theorem dX4_nextSeed_9 : decode cX4_nextSeed 9 = .ok (.ireturn, 1) := by decide +kernel
theorem dX4_drawnHour_0 : decode cX4_drawnHour 0 = .ok (.iload_n 0, 1) := by decide +kernel
theorem dX4_drawnHour_1 : decode cX4_drawnHour 1 = .ok (.ldc_w 285, 3) := by decide +kernel
theorem dX4_drawnHour_4 : decode cX4_drawnHour 4 = .ok (.iand, 1) := by decide +kernel
theorem dX4_drawnHour_5 : decode cX4_drawnHour 5 = .ok (.ldc_w 286, 3) := by decide +kernel
theorem dX4_drawnHour_8 : decode cX4_drawnHour 8 = .ok (.idiv, 1) := by decide +kernel
theorem dX4_drawnHour_9 : decode cX4_drawnHour 9 = .ok (.bipush 24, 2) := by decide +kernel
theorem dX4_drawnHour_11 : decode cX4_drawnHour 11 = .ok (.irem, 1) := by decide +kernel
theorem dX4_drawnHour_12 : decode cX4_drawnHour 12 = .ok (.ireturn, 1) := by decide +kernel
theorem dX4_hoursFrom_0 : decode cX4_hoursFrom 0 = .ok (.iconst 1, 1) := by decide +kernel
theorem dX4_hoursFrom_1 : decode cX4_hoursFrom 1 = .ok (.iload_n 1, 1) := by decide +kernel
theorem dX4_hoursFrom_2 : decode cX4_hoursFrom 2 = .ok (.iconst 1, 1) := by decide +kernel
theorem dX4_hoursFrom_3 : decode cX4_hoursFrom 3 = .ok (.iadd, 1) := by decide +kernel
theorem dX4_hoursFrom_4 : decode cX4_hoursFrom 4 = .ok (.ishl, 1) := by decide +kernel
theorem dX4_hoursFrom_5 : decode cX4_hoursFrom 5 = .ok (.iconst 1, 1) := by decide +kernel
theorem dX4_hoursFrom_6 : decode cX4_hoursFrom 6 = .ok (.iload_n 0, 1) := by decide +kernel
theorem dX4_hoursFrom_7 : decode cX4_hoursFrom 7 = .ok (.ishl, 1) := by decide +kernel
theorem dX4_hoursFrom_8 : decode cX4_hoursFrom 8 = .ok (.isub, 1) := by decide +kernel
theorem dX4_hoursFrom_9 : decode cX4_hoursFrom 9 = .ok (.ireturn, 1) := by decide +kernel
theorem dX4_image_0 : decode cX4_image 0 = .ok (.aload_n 0, 1) := by decide +kernel
theorem dX4_image_1 : decode cX4_image 1 = .ok (.getfield 19, 3) := by decide +kernel
theorem dX4_image_4 : decode cX4_image 4 = .ok (.aload_n 0, 1) := by decide +kernel
theorem dX4_image_5 : decode cX4_image 5 = .ok (.getfield 12, 3) := by decide +kernel
theorem dX4_image_8 : decode cX4_image 8 = .ok (.invokevirtual 65, 3) := by decide +kernel
theorem dX4_image_11 : decode cX4_image 11 = .ok (.aload_n 0, 1) := by decide +kernel
theorem dX4_image_12 : decode cX4_image 12 = .ok (.iconst 1, 1) := by decide +kernel
theorem dX4_image_13 : decode cX4_image 13 = .ok (.putfield 287, 3) := by decide +kernel
theorem dX4_image_16 : decode cX4_image 16 = .ok (.aload_n 0, 1) := by decide +kernel
theorem dX4_image_17 : decode cX4_image 17 = .ok (.getfield 19, 3) := by decide +kernel
theorem dX4_image_20 : decode cX4_image 20 = .ok (.getfield 114, 3) := by decide +kernel
theorem dX4_image_23 : decode cX4_image 23 = .ok (.ireturn, 1) := by decide +kernel
theorem dX4_restore_0 : decode cX4_restore 0 = .ok (.aload_n 0, 1) := by decide +kernel
theorem dX4_restore_1 : decode cX4_restore 1 = .ok (.getfield 287, 3) := by decide +kernel
theorem dX4_restore_4 : decode cX4_restore 4 = .ok (.ifCond .ne 10, 3) := by decide +kernel
theorem dX4_restore_7 : decode cX4_restore 7 = .ok (.aload_n 0, 1) := by decide +kernel
theorem dX4_restore_8 : decode cX4_restore 8 = .ok (.bipush (-3), 2) := by decide +kernel
theorem dX4_restore_10 : decode cX4_restore 10 = .ok (.invokevirtual 50, 3) := by decide +kernel
theorem dX4_restore_13 : decode cX4_restore 13 = .ok (.ireturn, 1) := by decide +kernel
theorem dX4_restore_14 : decode cX4_restore 14 = .ok (.aload_n 0, 1) := by decide +kernel
theorem dX4_restore_15 : decode cX4_restore 15 = .ok (.getfield 12, 3) := by decide +kernel
theorem dX4_restore_18 : decode cX4_restore 18 = .ok (.aload_n 0, 1) := by decide +kernel
theorem dX4_restore_19 : decode cX4_restore 19 = .ok (.getfield 19, 3) := by decide +kernel
theorem dX4_restore_22 : decode cX4_restore 22 = .ok (.invokevirtual 65, 3) := by decide +kernel
theorem dX4_restore_25 : decode cX4_restore 25 = .ok (.aload_n 0, 1) := by decide +kernel
theorem dX4_restore_26 : decode cX4_restore 26 = .ok (.getfield 32, 3) := by decide +kernel
theorem dX4_restore_29 : decode cX4_restore 29 = .ok (.invokevirtual 76, 3) := by decide +kernel
theorem dX4_restore_32 : decode cX4_restore 32 = .ok (.aload_n 0, 1) := by decide +kernel
theorem dX4_restore_33 : decode cX4_restore 33 = .ok (.getfield 12, 3) := by decide +kernel
theorem dX4_restore_36 : decode cX4_restore 36 = .ok (.getfield 114, 3) := by decide +kernel
theorem dX4_restore_39 : decode cX4_restore 39 = .ok (.ireturn, 1) := by decide +kernel
theorem dX4_count_0 : decode cX4_count 0 = .ok (.iload_n 1, 1) := by decide +kernel
theorem dX4_count_1 : decode cX4_count 1 = .ok (.tableswitch 111 0 7 #[47, 55, 63, 74, 82, 90, 98, 103], 47) := by decide +kernel
theorem dX4_count_48 : decode cX4_count 48 = .ok (.aload_n 0, 1) := by decide +kernel
theorem dX4_count_49 : decode cX4_count 49 = .ok (.getfield 12, 3) := by decide +kernel
theorem dX4_count_52 : decode cX4_count 52 = .ok (.getfield 114, 3) := by decide +kernel
theorem dX4_count_55 : decode cX4_count 55 = .ok (.ireturn, 1) := by decide +kernel
theorem dX4_count_56 : decode cX4_count 56 = .ok (.aload_n 0, 1) := by decide +kernel
theorem dX4_count_57 : decode cX4_count 57 = .ok (.getfield 12, 3) := by decide +kernel
theorem dX4_count_60 : decode cX4_count 60 = .ok (.getfield 121, 3) := by decide +kernel
theorem dX4_count_63 : decode cX4_count 63 = .ok (.ireturn, 1) := by decide +kernel
theorem dX4_count_64 : decode cX4_count 64 = .ok (.aload_n 0, 1) := by decide +kernel
theorem dX4_count_65 : decode cX4_count 65 = .ok (.getfield 12, 3) := by decide +kernel
theorem dX4_count_68 : decode cX4_count 68 = .ok (.getfield 205, 3) := by decide +kernel
theorem dX4_count_71 : decode cX4_count 71 = .ok (.invokestatic 178, 3) := by decide +kernel
theorem dX4_count_74 : decode cX4_count 74 = .ok (.ireturn, 1) := by decide +kernel
theorem dX4_count_75 : decode cX4_count 75 = .ok (.aload_n 0, 1) := by decide +kernel
theorem dX4_count_76 : decode cX4_count 76 = .ok (.getfield 12, 3) := by decide +kernel
theorem dX4_count_79 : decode cX4_count 79 = .ok (.invokevirtual 291, 3) := by decide +kernel
theorem dX4_count_82 : decode cX4_count 82 = .ok (.ireturn, 1) := by decide +kernel
theorem dX4_count_83 : decode cX4_count 83 = .ok (.aload_n 0, 1) := by decide +kernel
theorem dX4_count_84 : decode cX4_count 84 = .ok (.getfield 12, 3) := by decide +kernel
theorem dX4_count_87 : decode cX4_count 87 = .ok (.invokevirtual 155, 3) := by decide +kernel
theorem dX4_count_90 : decode cX4_count 90 = .ok (.ireturn, 1) := by decide +kernel
theorem dX4_count_91 : decode cX4_count 91 = .ok (.aload_n 0, 1) := by decide +kernel
theorem dX4_count_92 : decode cX4_count 92 = .ok (.getfield 39, 3) := by decide +kernel
theorem dX4_count_95 : decode cX4_count 95 = .ok (.getfield 54, 3) := by decide +kernel
theorem dX4_count_98 : decode cX4_count 98 = .ok (.ireturn, 1) := by decide +kernel
theorem dX4_count_99 : decode cX4_count 99 = .ok (.aload_n 0, 1) := by decide +kernel
theorem dX4_count_100 : decode cX4_count 100 = .ok (.getfield 221, 3) := by decide +kernel
theorem dX4_count_103 : decode cX4_count 103 = .ok (.ireturn, 1) := by decide +kernel
theorem dX4_count_104 : decode cX4_count 104 = .ok (.aload_n 0, 1) := by decide +kernel
theorem dX4_count_105 : decode cX4_count 105 = .ok (.getfield 32, 3) := by decide +kernel
theorem dX4_count_108 : decode cX4_count 108 = .ok (.getfield 164, 3) := by decide +kernel
theorem dX4_count_111 : decode cX4_count 111 = .ok (.ireturn, 1) := by decide +kernel
theorem dX4_count_112 : decode cX4_count 112 = .ok (.iload_n 1, 1) := by decide +kernel
theorem dX4_count_113 : decode cX4_count 113 = .ok (.bipush 11, 2) := by decide +kernel
theorem dX4_count_115 : decode cX4_count 115 = .ok (.if_icmp .lt 21, 3) := by decide +kernel
theorem dX4_count_118 : decode cX4_count 118 = .ok (.iload_n 1, 1) := by decide +kernel
theorem dX4_count_119 : decode cX4_count 119 = .ok (.bipush 16, 2) := by decide +kernel
theorem dX4_count_121 : decode cX4_count 121 = .ok (.if_icmp .gt 15, 3) := by decide +kernel
theorem dX4_count_124 : decode cX4_count 124 = .ok (.aload_n 0, 1) := by decide +kernel
theorem dX4_count_125 : decode cX4_count 125 = .ok (.getfield 47, 3) := by decide +kernel
theorem dX4_count_128 : decode cX4_count 128 = .ok (.iload_n 1, 1) := by decide +kernel
theorem dX4_count_129 : decode cX4_count 129 = .ok (.bipush 10, 2) := by decide +kernel
theorem dX4_count_131 : decode cX4_count 131 = .ok (.isub, 1) := by decide +kernel
theorem dX4_count_132 : decode cX4_count 132 = .ok (.iaload, 1) := by decide +kernel
theorem dX4_count_133 : decode cX4_count 133 = .ok (.goto 5, 3) := by decide +kernel
theorem dX4_count_136 : decode cX4_count 136 = .ok (.bipush (-9), 2) := by decide +kernel
theorem dX4_count_138 : decode cX4_count 138 = .ok (.ireturn, 1) := by decide +kernel
theorem dX4_refuse_0 : decode cX4_refuse 0 = .ok (.iload_n 1, 1) := by decide +kernel
theorem dX4_refuse_1 : decode cX4_refuse 1 = .ok (.ifCond .ge 24, 3) := by decide +kernel
theorem dX4_refuse_4 : decode cX4_refuse 4 = .ok (.iload_n 1, 1) := by decide +kernel
theorem dX4_refuse_5 : decode cX4_refuse 5 = .ok (.ineg, 1) := by decide +kernel
theorem dX4_refuse_6 : decode cX4_refuse 6 = .ok (.aload_n 0, 1) := by decide +kernel
theorem dX4_refuse_7 : decode cX4_refuse 7 = .ok (.getfield 47, 3) := by decide +kernel
theorem dX4_refuse_10 : decode cX4_refuse 10 = .ok (.arraylength, 1) := by decide +kernel
theorem dX4_refuse_11 : decode cX4_refuse 11 = .ok (.if_icmp .ge 14, 3) := by decide +kernel
theorem dX4_refuse_14 : decode cX4_refuse 14 = .ok (.aload_n 0, 1) := by decide +kernel
theorem dX4_refuse_15 : decode cX4_refuse 15 = .ok (.getfield 47, 3) := by decide +kernel
theorem dX4_refuse_18 : decode cX4_refuse 18 = .ok (.iload_n 1, 1) := by decide +kernel
theorem dX4_refuse_19 : decode cX4_refuse 19 = .ok (.ineg, 1) := by decide +kernel
theorem dX4_refuse_20 : decode cX4_refuse 20 = .ok (.dup2, 1) := by decide +kernel
theorem dX4_refuse_21 : decode cX4_refuse 21 = .ok (.iaload, 1) := by decide +kernel
theorem dX4_refuse_22 : decode cX4_refuse 22 = .ok (.iconst 1, 1) := by decide +kernel
theorem dX4_refuse_23 : decode cX4_refuse 23 = .ok (.iadd, 1) := by decide +kernel
theorem dX4_refuse_24 : decode cX4_refuse 24 = .ok (.iastore, 1) := by decide +kernel
theorem dX4_refuse_25 : decode cX4_refuse 25 = .ok (.iload_n 1, 1) := by decide +kernel
theorem dX4_refuse_26 : decode cX4_refuse 26 = .ok (.ireturn, 1) := by decide +kernel
theorem dX4_refuseLong_0 : decode cX4_refuseLong 0 = .ok (.ldc2_w 294, 3) := by decide +kernel
theorem dX4_refuseLong_3 : decode cX4_refuseLong 3 = .ok (.aload_n 0, 1) := by decide +kernel
theorem dX4_refuseLong_4 : decode cX4_refuseLong 4 = .ok (.iload_n 1, 1) := by decide +kernel
theorem dX4_refuseLong_5 : decode cX4_refuseLong 5 = .ok (.invokevirtual 50, 3) := by decide +kernel
theorem dX4_refuseLong_8 : decode cX4_refuseLong 8 = .ok (.i2l, 1) := by decide +kernel
theorem dX4_refuseLong_9 : decode cX4_refuseLong 9 = .ok (.lsub, 1) := by decide +kernel
theorem dX4_refuseLong_10 : decode cX4_refuseLong 10 = .ok (.lreturn, 1) := by decide +kernel
theorem dX4_noPerson_0 : decode cX4_noPerson 0 = .ok (.iload_n 1, 1) := by decide +kernel
theorem dX4_noPerson_1 : decode cX4_noPerson 1 = .ok (.ifCond .lt 14, 3) := by decide +kernel
theorem dX4_noPerson_4 : decode cX4_noPerson 4 = .ok (.iload_n 1, 1) := by decide +kernel
theorem dX4_noPerson_5 : decode cX4_noPerson 5 = .ok (.aload_n 0, 1) := by decide +kernel
theorem dX4_noPerson_6 : decode cX4_noPerson 6 = .ok (.getfield 12, 3) := by decide +kernel
theorem dX4_noPerson_9 : decode cX4_noPerson 9 = .ok (.getfield 114, 3) := by decide +kernel
theorem dX4_noPerson_12 : decode cX4_noPerson 12 = .ok (.if_icmp .lt 7, 3) := by decide +kernel
theorem dX4_noPerson_15 : decode cX4_noPerson 15 = .ok (.iconst 1, 1) := by decide +kernel
theorem dX4_noPerson_16 : decode cX4_noPerson 16 = .ok (.goto 4, 3) := by decide +kernel
theorem dX4_noPerson_19 : decode cX4_noPerson 19 = .ok (.iconst 0, 1) := by decide +kernel
theorem dX4_noPerson_20 : decode cX4_noPerson 20 = .ok (.ireturn, 1) := by decide +kernel
theorem dX4_noDead_0 : decode cX4_noDead 0 = .ok (.iload_n 1, 1) := by decide +kernel
theorem dX4_noDead_1 : decode cX4_noDead 1 = .ok (.ifCond .lt 14, 3) := by decide +kernel
theorem dX4_noDead_4 : decode cX4_noDead 4 = .ok (.iload_n 1, 1) := by decide +kernel
theorem dX4_noDead_5 : decode cX4_noDead 5 = .ok (.aload_n 0, 1) := by decide +kernel
theorem dX4_noDead_6 : decode cX4_noDead 6 = .ok (.getfield 12, 3) := by decide +kernel
theorem dX4_noDead_9 : decode cX4_noDead 9 = .ok (.getfield 121, 3) := by decide +kernel
theorem dX4_noDead_12 : decode cX4_noDead 12 = .ok (.if_icmp .lt 7, 3) := by decide +kernel
theorem dX4_noDead_15 : decode cX4_noDead 15 = .ok (.iconst 1, 1) := by decide +kernel
theorem dX4_noDead_16 : decode cX4_noDead 16 = .ok (.goto 4, 3) := by decide +kernel
theorem dX4_noDead_19 : decode cX4_noDead 19 = .ok (.iconst 0, 1) := by decide +kernel
theorem dX4_noDead_20 : decode cX4_noDead 20 = .ok (.ireturn, 1) := by decide +kernel
theorem dX4_noHour_0 : decode cX4_noHour 0 = .ok (.iload_n 0, 1) := by decide +kernel
theorem dX4_noHour_1 : decode cX4_noHour 1 = .ok (.ifCond .lt 9, 3) := by decide +kernel
theorem dX4_noHour_4 : decode cX4_noHour 4 = .ok (.iload_n 0, 1) := by decide +kernel
theorem dX4_noHour_5 : decode cX4_noHour 5 = .ok (.bipush 24, 2) := by decide +kernel
theorem dX4_noHour_7 : decode cX4_noHour 7 = .ok (.if_icmp .lt 7, 3) := by decide +kernel
theorem dX4_noHour_10 : decode cX4_noHour 10 = .ok (.iconst 1, 1) := by decide +kernel
theorem dX4_noHour_11 : decode cX4_noHour 11 = .ok (.goto 4, 3) := by decide +kernel
theorem dX4_noHour_14 : decode cX4_noHour 14 = .ok (.iconst 0, 1) := by decide +kernel
theorem dX4_noHour_15 : decode cX4_noHour 15 = .ok (.ireturn, 1) := by decide +kernel
theorem dX4_noFact_0 : decode cX4_noFact 0 = .ok (.iload_n 0, 1) := by decide +kernel
theorem dX4_noFact_1 : decode cX4_noFact 1 = .ok (.ifCond .lt 9, 3) := by decide +kernel
theorem dX4_noFact_4 : decode cX4_noFact 4 = .ok (.iload_n 0, 1) := by decide +kernel
theorem dX4_noFact_5 : decode cX4_noFact 5 = .ok (.bipush 10, 2) := by decide +kernel
theorem dX4_noFact_7 : decode cX4_noFact 7 = .ok (.if_icmp .lt 7, 3) := by decide +kernel
theorem dX4_noFact_10 : decode cX4_noFact 10 = .ok (.iconst 1, 1) := by decide +kernel
theorem dX4_noFact_11 : decode cX4_noFact 11 = .ok (.goto 4, 3) := by decide +kernel
theorem dX4_noFact_14 : decode cX4_noFact 14 = .ok (.iconst 0, 1) := by decide +kernel
theorem dX4_noFact_15 : decode cX4_noFact 15 = .ok (.ireturn, 1) := by decide +kernel
theorem dX4_noWhat_0 : decode cX4_noWhat 0 = .ok (.iload_n 0, 1) := by decide +kernel
theorem dX4_noWhat_1 : decode cX4_noWhat 1 = .ok (.ifCond .lt 8, 3) := by decide +kernel
theorem dX4_noWhat_4 : decode cX4_noWhat 4 = .ok (.iload_n 0, 1) := by decide +kernel
theorem dX4_noWhat_5 : decode cX4_noWhat 5 = .ok (.iload_n 1, 1) := by decide +kernel
theorem dX4_noWhat_6 : decode cX4_noWhat 6 = .ok (.if_icmp .lt 7, 3) := by decide +kernel
theorem dX4_noWhat_9 : decode cX4_noWhat 9 = .ok (.iconst 1, 1) := by decide +kernel
theorem dX4_noWhat_10 : decode cX4_noWhat 10 = .ok (.goto 4, 3) := by decide +kernel
theorem dX4_noWhat_13 : decode cX4_noWhat 13 = .ok (.iconst 0, 1) := by decide +kernel
theorem dX4_noWhat_14 : decode cX4_noWhat 14 = .ok (.ireturn, 1) := by decide +kernel
theorem dX4_fewer_0 : decode cX4_fewer 0 = .ok (.iload_n 1, 1) := by decide +kernel
theorem dX4_fewer_1 : decode cX4_fewer 1 = .ok (.ifCond .lt 14, 3) := by decide +kernel
theorem dX4_fewer_4 : decode cX4_fewer 4 = .ok (.iload_n 0, 1) := by decide +kernel
theorem dX4_fewer_5 : decode cX4_fewer 5 = .ok (.invokestatic 178, 3) := by decide +kernel
theorem dX4_fewer_8 : decode cX4_fewer 8 = .ok (.iload_n 1, 1) := by decide +kernel
theorem dX4_fewer_9 : decode cX4_fewer 9 = .ok (.invokestatic 178, 3) := by decide +kernel
theorem dX4_fewer_12 : decode cX4_fewer 12 = .ok (.if_icmp .ge 7, 3) := by decide +kernel
theorem dX4_fewer_15 : decode cX4_fewer 15 = .ok (.iconst 1, 1) := by decide +kernel
theorem dX4_fewer_16 : decode cX4_fewer 16 = .ok (.goto 4, 3) := by decide +kernel
theorem dX4_fewer_19 : decode cX4_fewer 19 = .ok (.iconst 0, 1) := by decide +kernel
theorem dX4_fewer_20 : decode cX4_fewer 20 = .ok (.ireturn, 1) := by decide +kernel
theorem dX4_allOf_0 : decode cX4_allOf 0 = .ok (.aload_n 0, 1) := by decide +kernel
theorem dX4_allOf_1 : decode cX4_allOf 1 = .ok (.getfield 25, 3) := by decide +kernel
theorem dX4_allOf_4 : decode cX4_allOf 4 = .ok (.aload_n 1, 1) := by decide +kernel
theorem dX4_allOf_5 : decode cX4_allOf 5 = .ok (.invokevirtual 158, 3) := by decide +kernel
theorem dX4_allOf_8 : decode cX4_allOf 8 = .ok (.aload_n 0, 1) := by decide +kernel
theorem dX4_allOf_9 : decode cX4_allOf 9 = .ok (.getfield 25, 3) := by decide +kernel
theorem dX4_allOf_12 : decode cX4_allOf 12 = .ok (.bipush 24, 2) := by decide +kernel
theorem dX4_allOf_14 : decode cX4_allOf 14 = .ok (.invokevirtual 260, 3) := by decide +kernel
theorem dX4_allOf_17 : decode cX4_allOf 17 = .ok (.ireturn, 1) := by decide +kernel
theorem dJ6_bitCount_0f7a4_0 : decode cJ6_bitCount_0f7a4 0 = .ok (.iload_n 0, 1) := by decide +kernel
theorem dJ6_bitCount_0f7a4_1 : decode cJ6_bitCount_0f7a4 1 = .ok (.iload_n 0, 1) := by decide +kernel
theorem dJ6_bitCount_0f7a4_2 : decode cJ6_bitCount_0f7a4 2 = .ok (.iconst 1, 1) := by decide +kernel
theorem dJ6_bitCount_0f7a4_3 : decode cJ6_bitCount_0f7a4 3 = .ok (.iushr, 1) := by decide +kernel
theorem dJ6_bitCount_0f7a4_4 : decode cJ6_bitCount_0f7a4 4 = .ok (.ldc_w 265, 3) := by decide +kernel
theorem dJ6_bitCount_0f7a4_7 : decode cJ6_bitCount_0f7a4 7 = .ok (.iand, 1) := by decide +kernel
theorem dJ6_bitCount_0f7a4_8 : decode cJ6_bitCount_0f7a4 8 = .ok (.isub, 1) := by decide +kernel
theorem dJ6_bitCount_0f7a4_9 : decode cJ6_bitCount_0f7a4 9 = .ok (.istore_n 0, 1) := by decide +kernel
theorem dJ6_bitCount_0f7a4_10 : decode cJ6_bitCount_0f7a4 10 = .ok (.iload_n 0, 1) := by decide +kernel
theorem dJ6_bitCount_0f7a4_11 : decode cJ6_bitCount_0f7a4 11 = .ok (.ldc_w 266, 3) := by decide +kernel
theorem dJ6_bitCount_0f7a4_14 : decode cJ6_bitCount_0f7a4 14 = .ok (.iand, 1) := by decide +kernel
theorem dJ6_bitCount_0f7a4_15 : decode cJ6_bitCount_0f7a4 15 = .ok (.iload_n 0, 1) := by decide +kernel
theorem dJ6_bitCount_0f7a4_16 : decode cJ6_bitCount_0f7a4 16 = .ok (.iconst 2, 1) := by decide +kernel
theorem dJ6_bitCount_0f7a4_17 : decode cJ6_bitCount_0f7a4 17 = .ok (.iushr, 1) := by decide +kernel
theorem dJ6_bitCount_0f7a4_18 : decode cJ6_bitCount_0f7a4 18 = .ok (.ldc_w 266, 3) := by decide +kernel
theorem dJ6_bitCount_0f7a4_21 : decode cJ6_bitCount_0f7a4 21 = .ok (.iand, 1) := by decide +kernel
theorem dJ6_bitCount_0f7a4_22 : decode cJ6_bitCount_0f7a4 22 = .ok (.iadd, 1) := by decide +kernel
theorem dJ6_bitCount_0f7a4_23 : decode cJ6_bitCount_0f7a4 23 = .ok (.istore_n 0, 1) := by decide +kernel
theorem dJ6_bitCount_0f7a4_24 : decode cJ6_bitCount_0f7a4 24 = .ok (.iload_n 0, 1) := by decide +kernel
theorem dJ6_bitCount_0f7a4_25 : decode cJ6_bitCount_0f7a4 25 = .ok (.iload_n 0, 1) := by decide +kernel
theorem dJ6_bitCount_0f7a4_26 : decode cJ6_bitCount_0f7a4 26 = .ok (.iconst 4, 1) := by decide +kernel
theorem dJ6_bitCount_0f7a4_27 : decode cJ6_bitCount_0f7a4 27 = .ok (.iushr, 1) := by decide +kernel
theorem dJ6_bitCount_0f7a4_28 : decode cJ6_bitCount_0f7a4 28 = .ok (.iadd, 1) := by decide +kernel
theorem dJ6_bitCount_0f7a4_29 : decode cJ6_bitCount_0f7a4 29 = .ok (.ldc_w 267, 3) := by decide +kernel
theorem dJ6_bitCount_0f7a4_32 : decode cJ6_bitCount_0f7a4 32 = .ok (.iand, 1) := by decide +kernel
theorem dJ6_bitCount_0f7a4_33 : decode cJ6_bitCount_0f7a4 33 = .ok (.istore_n 0, 1) := by decide +kernel
theorem dJ6_bitCount_0f7a4_34 : decode cJ6_bitCount_0f7a4 34 = .ok (.iload_n 0, 1) := by decide +kernel
theorem dJ6_bitCount_0f7a4_35 : decode cJ6_bitCount_0f7a4 35 = .ok (.iload_n 0, 1) := by decide +kernel
theorem dJ6_bitCount_0f7a4_36 : decode cJ6_bitCount_0f7a4 36 = .ok (.bipush 8, 2) := by decide +kernel
theorem dJ6_bitCount_0f7a4_38 : decode cJ6_bitCount_0f7a4 38 = .ok (.iushr, 1) := by decide +kernel
theorem dJ6_bitCount_0f7a4_39 : decode cJ6_bitCount_0f7a4 39 = .ok (.iadd, 1) := by decide +kernel
theorem dJ6_bitCount_0f7a4_40 : decode cJ6_bitCount_0f7a4 40 = .ok (.istore_n 0, 1) := by decide +kernel
theorem dJ6_bitCount_0f7a4_41 : decode cJ6_bitCount_0f7a4 41 = .ok (.iload_n 0, 1) := by decide +kernel
theorem dJ6_bitCount_0f7a4_42 : decode cJ6_bitCount_0f7a4 42 = .ok (.iload_n 0, 1) := by decide +kernel
theorem dJ6_bitCount_0f7a4_43 : decode cJ6_bitCount_0f7a4 43 = .ok (.bipush 16, 2) := by decide +kernel
theorem dJ6_bitCount_0f7a4_45 : decode cJ6_bitCount_0f7a4 45 = .ok (.iushr, 1) := by decide +kernel
theorem dJ6_bitCount_0f7a4_46 : decode cJ6_bitCount_0f7a4 46 = .ok (.iadd, 1) := by decide +kernel
theorem dJ6_bitCount_0f7a4_47 : decode cJ6_bitCount_0f7a4 47 = .ok (.istore_n 0, 1) := by decide +kernel
theorem dJ6_bitCount_0f7a4_48 : decode cJ6_bitCount_0f7a4 48 = .ok (.iload_n 0, 1) := by decide +kernel
theorem dJ6_bitCount_0f7a4_49 : decode cJ6_bitCount_0f7a4 49 = .ok (.bipush 63, 2) := by decide +kernel
theorem dJ6_bitCount_0f7a4_51 : decode cJ6_bitCount_0f7a4 51 = .ok (.iand, 1) := by decide +kernel
theorem dJ6_bitCount_0f7a4_52 : decode cJ6_bitCount_0f7a4 52 = .ok (.ireturn, 1) := by decide +kernel
theorem dJ9_max_7cf53_0 : decode cJ9_max_7cf53 0 = .ok (.iload_n 0, 1) := by decide +kernel
theorem dJ9_max_7cf53_1 : decode cJ9_max_7cf53 1 = .ok (.iload_n 1, 1) := by decide +kernel
theorem dJ9_max_7cf53_2 : decode cJ9_max_7cf53 2 = .ok (.if_icmp .lt 7, 3) := by decide +kernel
theorem dJ9_max_7cf53_5 : decode cJ9_max_7cf53 5 = .ok (.iload_n 0, 1) := by decide +kernel
theorem dJ9_max_7cf53_6 : decode cJ9_max_7cf53 6 = .ok (.goto 4, 3) := by decide +kernel
theorem dJ9_max_7cf53_9 : decode cJ9_max_7cf53 9 = .ok (.iload_n 1, 1) := by decide +kernel
theorem dJ9_max_7cf53_10 : decode cJ9_max_7cf53 10 = .ok (.ireturn, 1) := by decide +kernel
theorem dJ9_min_7cf53_0 : decode cJ9_min_7cf53 0 = .ok (.iload_n 0, 1) := by decide +kernel
theorem dJ9_min_7cf53_1 : decode cJ9_min_7cf53 1 = .ok (.iload_n 1, 1) := by decide +kernel
theorem dJ9_min_7cf53_2 : decode cJ9_min_7cf53 2 = .ok (.if_icmp .gt 7, 3) := by decide +kernel
theorem dJ9_min_7cf53_5 : decode cJ9_min_7cf53 5 = .ok (.iload_n 0, 1) := by decide +kernel
theorem dJ9_min_7cf53_6 : decode cJ9_min_7cf53 6 = .ok (.goto 4, 3) := by decide +kernel
theorem dJ9_min_7cf53_9 : decode cJ9_min_7cf53 9 = .ok (.iload_n 1, 1) := by decide +kernel
theorem dJ9_min_7cf53_10 : decode cJ9_min_7cf53 10 = .ok (.ireturn, 1) := by decide +kernel
