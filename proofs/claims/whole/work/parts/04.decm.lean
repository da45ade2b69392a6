theorem dX5_init_0 : decode cX5_init 0 = .ok (.aload_n 0, 1) := by decide +kernel
theorem dX5_init_1 : decode cX5_init 1 = .ok (.invokespecial 1, 3) := by decide +kernel
theorem dX5_init_4 : decode cX5_init 4 = .ok (.aload_n 0, 1) := by decide +kernel
theorem dX5_init_5 : decode cX5_init 5 = .ok (.bipush 7, 2) := by decide +kernel
theorem dX5_init_7 : decode cX5_init 7 = .ok (.newarray .int, 2) := by decide +kernel
theorem dX5_init_9 : decode cX5_init 9 = .ok (.putfield 7, 3) := by decide +kernel
theorem dX5_init_12 : decode cX5_init 12 = .ok (.aload_n 0, 1) := by decide +kernel
theorem dX5_init_13 : decode cX5_init 13 = .ok (.bipush 7, 2) := by decide +kernel
theorem dX5_init_15 : decode cX5_init 15 = .ok (.newarray .int, 2) := by decide +kernel
theorem dX5_init_17 : decode cX5_init 17 = .ok (.putfield 13, 3) := by decide +kernel
theorem dX5_init_20 : decode cX5_init 20 = .ok (.aload_n 0, 1) := by decide +kernel
theorem dX5_init_21 : decode cX5_init 21 = .ok (.bipush 7, 2) := by decide +kernel
theorem dX5_init_23 : decode cX5_init 23 = .ok (.newarray .int, 2) := by decide +kernel
theorem dX5_init_25 : decode cX5_init 25 = .ok (.putfield 16, 3) := by decide +kernel
theorem dX5_init_28 : decode cX5_init 28 = .ok (.aload_n 0, 1) := by decide +kernel
theorem dX5_init_29 : decode cX5_init 29 = .ok (.bipush 7, 2) := by decide +kernel
theorem dX5_init_31 : decode cX5_init 31 = .ok (.newarray .int, 2) := by decide +kernel
theorem dX5_init_33 : decode cX5_init 33 = .ok (.putfield 19, 3) := by decide +kernel
theorem dX5_init_36 : decode cX5_init 36 = .ok (.aload_n 0, 1) := by decide +kernel
theorem dX5_init_37 : decode cX5_init 37 = .ok (.bipush 6, 2) := by decide +kernel
theorem dX5_init_39 : decode cX5_init 39 = .ok (.newarray .int, 2) := by decide +kernel
theorem dX5_init_41 : decode cX5_init 41 = .ok (.putfield 22, 3) := by decide +kernel
theorem dX5_init_44 : decode cX5_init 44 = .ok (.aload_n 0, 1) := by decide +kernel
theorem dX5_init_45 : decode cX5_init 45 = .ok (.bipush 6, 2) := by decide +kernel
theorem dX5_init_47 : decode cX5_init 47 = .ok (.newarray .int, 2) := by decide +kernel
theorem dX5_init_49 : decode cX5_init 49 = .ok (.putfield 25, 3) := by decide +kernel
theorem dX5_init_52 : decode cX5_init 52 = .ok (.aload_n 0, 1) := by decide +kernel
theorem dX5_init_53 : decode cX5_init 53 = .ok (.bipush 6, 2) := by decide +kernel
theorem dX5_init_55 : decode cX5_init 55 = .ok (.newarray .int, 2) := by decide +kernel
theorem dX5_init_57 : decode cX5_init 57 = .ok (.putfield 28, 3) := by decide +kernel
theorem dX5_init_60 : decode cX5_init 60 = .ok (.aload_n 0, 1) := by decide +kernel
theorem dX5_init_61 : decode cX5_init 61 = .ok (.bipush 7, 2) := by decide +kernel
theorem dX5_init_63 : decode cX5_init 63 = .ok (.newarray .int, 2) := by decide +kernel
theorem dX5_init_65 : decode cX5_init 65 = .ok (.putfield 31, 3) := by decide +kernel
theorem dX5_init_68 : decode cX5_init 68 = .ok (.aload_n 0, 1) := by decide +kernel
theorem dX5_init_69 : decode cX5_init 69 = .ok (.bipush 7, 2) := by decide +kernel
theorem dX5_init_71 : decode cX5_init 71 = .ok (.newarray .int, 2) := by decide +kernel
theorem dX5_init_73 : decode cX5_init 73 = .ok (.putfield 34, 3) := by decide +kernel
theorem dX5_init_76 : decode cX5_init 76 = .ok (.aload_n 0, 1) := by decide +kernel
theorem dX5_init_77 : decode cX5_init 77 = .ok (.sipush 175, 3) := by decide +kernel
theorem dX5_init_80 : decode cX5_init 80 = .ok (.newarray .int, 2) := by decide +kernel
theorem dX5_init_82 : decode cX5_init 82 = .ok (.putfield 37, 3) := by decide +kernel
theorem dX5_init_85 : decode cX5_init 85 = .ok (.aload_n 0, 1) := by decide +kernel
theorem dX5_init_86 : decode cX5_init 86 = .ok (.sipush 144, 3) := by decide +kernel
theorem dX5_init_89 : decode cX5_init 89 = .ok (.newarray .int, 2) := by decide +kernel
theorem dX5_init_91 : decode cX5_init 91 = .ok (.putfield 40, 3) := by decide +kernel
theorem dX5_init_94 : decode cX5_init 94 = .ok (.aload_n 0, 1) := by decide +kernel
theorem dX5_init_95 : decode cX5_init 95 = .ok (.bipush 7, 2) := by decide +kernel
theorem dX5_init_97 : decode cX5_init 97 = .ok (.newarray .int, 2) := by decide +kernel
theorem dX5_init_99 : decode cX5_init 99 = .ok (.putfield 43, 3) := by decide +kernel
theorem dX5_init_102 : decode cX5_init 102 = .ok (.aload_n 0, 1) := by decide +kernel
theorem dX5_init_103 : decode cX5_init 103 = .ok (.bipush 96, 2) := by decide +kernel
theorem dX5_init_105 : decode cX5_init 105 = .ok (.newarray .int, 2) := by decide +kernel
theorem dX5_init_107 : decode cX5_init 107 = .ok (.putfield 46, 3) := by decide +kernel
theorem dX5_init_110 : decode cX5_init 110 = .ok (.aload_n 0, 1) := by decide +kernel
theorem dX5_init_111 : decode cX5_init 111 = .ok (.bipush 49, 2) := by decide +kernel
theorem dX5_init_113 : decode cX5_init 113 = .ok (.newarray .int, 2) := by decide +kernel
theorem dX5_init_115 : decode cX5_init 115 = .ok (.putfield 49, 3) := by decide +kernel
theorem dX5_init_118 : decode cX5_init 118 = .ok (.aload_n 0, 1) := by decide +kernel
theorem dX5_init_119 : decode cX5_init 119 = .ok (.bipush 49, 2) := by decide +kernel
theorem dX5_init_121 : decode cX5_init 121 = .ok (.newarray .int, 2) := by decide +kernel
theorem dX5_init_123 : decode cX5_init 123 = .ok (.putfield 52, 3) := by decide +kernel
theorem dX5_init_126 : decode cX5_init 126 = .ok (.aload_n 0, 1) := by decide +kernel
theorem dX5_init_127 : decode cX5_init 127 = .ok (.sipush 147, 3) := by decide +kernel
theorem dX5_init_130 : decode cX5_init 130 = .ok (.newarray .int, 2) := by decide +kernel
theorem dX5_init_132 : decode cX5_init 132 = .ok (.putfield 55, 3) := by decide +kernel
theorem dX5_init_135 : decode cX5_init 135 = .ok (.aload_n 0, 1) := by decide +kernel
theorem dX5_init_136 : decode cX5_init 136 = .ok (.bipush 48, 2) := by decide +kernel
theorem dX5_init_138 : decode cX5_init 138 = .ok (.newarray .int, 2) := by decide +kernel
theorem dX5_init_140 : decode cX5_init 140 = .ok (.putfield 58, 3) := by decide +kernel
theorem dX5_init_143 : decode cX5_init 143 = .ok (.aload_n 0, 1) := by decide +kernel
theorem dX5_init_144 : decode cX5_init 144 = .ok (.bipush 48, 2) := by decide +kernel
theorem dX5_init_146 : decode cX5_init 146 = .ok (.newarray .int, 2) := by decide +kernel
theorem dX5_init_148 : decode cX5_init 148 = .ok (.putfield 61, 3) := by decide +kernel
theorem dX5_init_151 : decode cX5_init 151 = .ok (.aload_n 0, 1) := by decide +kernel
theorem dX5_init_152 : decode cX5_init 152 = .ok (.sipush 384, 3) := by decide +kernel
theorem dX5_init_155 : decode cX5_init 155 = .ok (.newarray .int, 2) := by decide +kernel
theorem dX5_init_157 : decode cX5_init 157 = .ok (.putfield 64, 3) := by decide +kernel
theorem dX5_init_160 : decode cX5_init 160 = .ok (.aload_n 0, 1) := by decide +kernel
theorem dX5_init_161 : decode cX5_init 161 = .ok (.bipush 48, 2) := by decide +kernel
theorem dX5_init_163 : decode cX5_init 163 = .ok (.newarray .int, 2) := by decide +kernel
theorem dX5_init_165 : decode cX5_init 165 = .ok (.putfield 67, 3) := by decide +kernel
theorem dX5_init_168 : decode cX5_init 168 = .ok (.aload_n 0, 1) := by decide +kernel
theorem dX5_init_169 : decode cX5_init 169 = .ok (.bipush 24, 2) := by decide +kernel
theorem dX5_init_171 : decode cX5_init 171 = .ok (.newarray .int, 2) := by decide +kernel
theorem dX5_init_173 : decode cX5_init 173 = .ok (.putfield 70, 3) := by decide +kernel
theorem dX5_init_176 : decode cX5_init 176 = .ok (.aload_n 0, 1) := by decide +kernel
theorem dX5_init_177 : decode cX5_init 177 = .ok (.iconst 0, 1) := by decide +kernel
theorem dX5_init_178 : decode cX5_init 178 = .ok (.putfield 73, 3) := by decide +kernel
theorem dX5_init_181 : decode cX5_init 181 = .ok (.return_, 1) := by decide +kernel
theorem dX5_in_0 : decode cX5_in 0 = .ok (.lload_n 0, 1) := by decide +kernel
theorem dX5_in_1 : decode cX5_in 1 = .ok (.lload_n 2, 1) := by decide +kernel
theorem dX5_in_2 : decode cX5_in 2 = .ok (.lcmp, 1) := by decide +kernel
theorem dX5_in_3 : decode cX5_in 3 = .ok (.ifCond .lt 14, 3) := by decide +kernel
theorem dX5_in_6 : decode cX5_in 6 = .ok (.lload_n 0, 1) := by decide +kernel
theorem dX5_in_7 : decode cX5_in 7 = .ok (.lload 4, 2) := by decide +kernel
theorem dX5_in_9 : decode cX5_in 9 = .ok (.lcmp, 1) := by decide +kernel
theorem dX5_in_10 : decode cX5_in 10 = .ok (.ifCond .gt 7, 3) := by decide +kernel
theorem dX5_in_13 : decode cX5_in 13 = .ok (.iconst 1, 1) := by decide +kernel
theorem dX5_in_14 : decode cX5_in 14 = .ok (.goto 4, 3) := by decide +kernel
theorem dX5_in_17 : decode cX5_in 17 = .ok (.iconst 0, 1) := by decide +kernel
theorem dX5_in_18 : decode cX5_in 18 = .ok (.ireturn, 1) := by decide +kernel
theorem dX5_refuse_0 : decode cX5_refuse 0 = .ok (.aload_n 0, 1) := by decide +kernel
theorem dX5_refuse_1 : decode cX5_refuse 1 = .ok (.getfield 31, 3) := by decide +kernel
theorem dX5_refuse_4 : decode cX5_refuse 4 = .ok (.iload_n 1, 1) := by decide +kernel
theorem dX5_refuse_5 : decode cX5_refuse 5 = .ok (.ineg, 1) := by decide +kernel
theorem dX5_refuse_6 : decode cX5_refuse 6 = .ok (.dup2, 1) := by decide +kernel
theorem dX5_refuse_7 : decode cX5_refuse 7 = .ok (.iaload, 1) := by decide +kernel
theorem dX5_refuse_8 : decode cX5_refuse 8 = .ok (.iconst 1, 1) := by decide +kernel
theorem dX5_refuse_9 : decode cX5_refuse 9 = .ok (.iadd, 1) := by decide +kernel
theorem dX5_refuse_10 : decode cX5_refuse 10 = .ok (.iastore, 1) := by decide +kernel
theorem dX5_refuse_11 : decode cX5_refuse 11 = .ok (.iload_n 1, 1) := by decide +kernel
theorem dX5_refuse_12 : decode cX5_refuse 12 = .ok (.ireturn, 1) := by decide +kernel
theorem dX5_isOne_0 : decode cX5_isOne 0 = .ok (.iload_n 1, 1) := by decide +kernel
theorem dX5_isOne_1 : decode cX5_isOne 1 = .ok (.i2l, 1) := by decide +kernel
theorem dX5_isOne_2 : decode cX5_isOne 2 = .ok (.lconst 0, 1) := by decide +kernel
theorem dX5_isOne_3 : decode cX5_isOne 3 = .ok (.aload_n 0, 1) := by decide +kernel
theorem dX5_isOne_4 : decode cX5_isOne 4 = .ok (.getfield 77, 3) := by decide +kernel
theorem dX5_isOne_7 : decode cX5_isOne 7 = .ok (.iconst 1, 1) := by decide +kernel
theorem dX5_isOne_8 : decode cX5_isOne 8 = .ok (.isub, 1) := by decide +kernel
theorem dX5_isOne_9 : decode cX5_isOne 9 = .ok (.i2l, 1) := by decide +kernel
theorem dX5_isOne_10 : decode cX5_isOne 10 = .ok (.invokestatic 80, 3) := by decide +kernel
theorem dX5_isOne_13 : decode cX5_isOne 13 = .ok (.ireturn, 1) := by decide +kernel
theorem dX5_isDead_0 : decode cX5_isDead 0 = .ok (.iload_n 1, 1) := by decide +kernel
theorem dX5_isDead_1 : decode cX5_isDead 1 = .ok (.i2l, 1) := by decide +kernel
theorem dX5_isDead_2 : decode cX5_isDead 2 = .ok (.lconst 0, 1) := by decide +kernel
theorem dX5_isDead_3 : decode cX5_isDead 3 = .ok (.aload_n 0, 1) := by decide +kernel
theorem dX5_isDead_4 : decode cX5_isDead 4 = .ok (.getfield 84, 3) := by decide +kernel
theorem dX5_isDead_7 : decode cX5_isDead 7 = .ok (.iconst 1, 1) := by decide +kernel
theorem dX5_isDead_8 : decode cX5_isDead 8 = .ok (.isub, 1) := by decide +kernel
theorem dX5_isDead_9 : decode cX5_isDead 9 = .ok (.i2l, 1) := by decide +kernel
theorem dX5_isDead_10 : decode cX5_isDead 10 = .ok (.invokestatic 80, 3) := by decide +kernel
theorem dX5_isDead_13 : decode cX5_isDead 13 = .ok (.ireturn, 1) := by decide +kernel
theorem dX5_isFact_0 : decode cX5_isFact 0 = .ok (.iload_n 0, 1) := by decide +kernel
theorem dX5_isFact_1 : decode cX5_isFact 1 = .ok (.i2l, 1) := by decide +kernel
theorem dX5_isFact_2 : decode cX5_isFact 2 = .ok (.lconst 0, 1) := by decide +kernel
theorem dX5_isFact_3 : decode cX5_isFact 3 = .ok (.ldc2_w 87, 3) := by decide +kernel
theorem dX5_isFact_6 : decode cX5_isFact 6 = .ok (.invokestatic 80, 3) := by decide +kernel
theorem dX5_isFact_9 : decode cX5_isFact 9 = .ok (.ireturn, 1) := by decide +kernel
theorem dX5_isHour_0 : decode cX5_isHour 0 = .ok (.iload_n 0, 1) := by decide +kernel
theorem dX5_isHour_1 : decode cX5_isHour 1 = .ok (.i2l, 1) := by decide +kernel
theorem dX5_isHour_2 : decode cX5_isHour 2 = .ok (.lconst 0, 1) := by decide +kernel
theorem dX5_isHour_3 : decode cX5_isHour 3 = .ok (.ldc2_w 89, 3) := by decide +kernel
theorem dX5_isHour_6 : decode cX5_isHour 6 = .ok (.invokestatic 80, 3) := by decide +kernel
theorem dX5_isHour_9 : decode cX5_isHour 9 = .ok (.ireturn, 1) := by decide +kernel
theorem dX5_wrongNumber_0 : decode cX5_wrongNumber 0 = .ok (.iload_n 0, 1) := by decide +kernel
theorem dX5_wrongNumber_1 : decode cX5_wrongNumber 1 = .ok (.iload_n 1, 1) := by decide +kernel
theorem dX5_wrongNumber_2 : decode cX5_wrongNumber 2 = .ok (.if_icmp .ge 8, 3) := by decide +kernel
theorem dX5_wrongNumber_5 : decode cX5_wrongNumber 5 = .ok (.bipush (-4), 2) := by decide +kernel
theorem dX5_wrongNumber_7 : decode cX5_wrongNumber 7 = .ok (.goto 14, 3) := by decide +kernel
theorem dX5_wrongNumber_10 : decode cX5_wrongNumber 10 = .ok (.iload_n 0, 1) := by decide +kernel
theorem dX5_wrongNumber_11 : decode cX5_wrongNumber 11 = .ok (.iload_n 2, 1) := by decide +kernel
theorem dX5_wrongNumber_12 : decode cX5_wrongNumber 12 = .ok (.if_icmp .le 8, 3) := by decide +kernel
theorem dX5_wrongNumber_15 : decode cX5_wrongNumber 15 = .ok (.bipush (-6), 2) := by decide +kernel
theorem dX5_wrongNumber_17 : decode cX5_wrongNumber 17 = .ok (.goto 4, 3) := by decide +kernel
theorem dX5_wrongNumber_20 : decode cX5_wrongNumber 20 = .ok (.iconst 0, 1) := by decide +kernel
theorem dX5_wrongNumber_21 : decode cX5_wrongNumber 21 = .ok (.ireturn, 1) := by decide +kernel
theorem dX5_wrongBit_0 : decode cX5_wrongBit 0 = .ok (.iload_n 0, 1) := by decide +kernel
theorem dX5_wrongBit_1 : decode cX5_wrongBit 1 = .ok (.ifCond .ne 19, 3) := by decide +kernel
theorem dX5_wrongBit_4 : decode cX5_wrongBit 4 = .ok (.iload_n 1, 1) := by decide +kernel
theorem dX5_wrongBit_5 : decode cX5_wrongBit 5 = .ok (.i2l, 1) := by decide +kernel
theorem dX5_wrongBit_6 : decode cX5_wrongBit 6 = .ok (.lconst 0, 1) := by decide +kernel
theorem dX5_wrongBit_7 : decode cX5_wrongBit 7 = .ok (.iload_n 2, 1) := by decide +kernel
theorem dX5_wrongBit_8 : decode cX5_wrongBit 8 = .ok (.i2l, 1) := by decide +kernel
theorem dX5_wrongBit_9 : decode cX5_wrongBit 9 = .ok (.invokestatic 80, 3) := by decide +kernel
theorem dX5_wrongBit_12 : decode cX5_wrongBit 12 = .ok (.ifCond .ne 8, 3) := by decide +kernel
theorem dX5_wrongBit_15 : decode cX5_wrongBit 15 = .ok (.bipush (-2), 2) := by decide +kernel
theorem dX5_wrongBit_17 : decode cX5_wrongBit 17 = .ok (.goto 4, 3) := by decide +kernel
theorem dX5_wrongBit_20 : decode cX5_wrongBit 20 = .ok (.iload_n 0, 1) := by decide +kernel
theorem dX5_wrongBit_21 : decode cX5_wrongBit 21 = .ok (.ireturn, 1) := by decide +kernel
theorem dX5_hasBit_0 : decode cX5_hasBit 0 = .ok (.iload_n 0, 1) := by decide +kernel
theorem dX5_hasBit_1 : decode cX5_hasBit 1 = .ok (.iload_n 1, 1) := by decide +kernel
theorem dX5_hasBit_2 : decode cX5_hasBit 2 = .ok (.ishr, 1) := by decide +kernel
theorem dX5_hasBit_3 : decode cX5_hasBit 3 = .ok (.iconst 1, 1) := by decide +kernel
theorem dX5_hasBit_4 : decode cX5_hasBit 4 = .ok (.iand, 1) := by decide +kernel
theorem dX5_hasBit_5 : decode cX5_hasBit 5 = .ok (.iconst 1, 1) := by decide +kernel
theorem dX5_hasBit_6 : decode cX5_hasBit 6 = .ok (.if_icmp .ne 7, 3) := by decide +kernel
theorem dX5_hasBit_9 : decode cX5_hasBit 9 = .ok (.iconst 1, 1) := by decide +kernel
theorem dX5_hasBit_10 : decode cX5_hasBit 10 = .ok (.goto 4, 3) := by decide +kernel
theorem dX5_hasBit_13 : decode cX5_hasBit 13 = .ok (.iconst 0, 1) := by decide +kernel
theorem dX5_hasBit_14 : decode cX5_hasBit 14 = .ok (.ireturn, 1) := by decide +kernel
theorem dX5_onesOf_0 : decode cX5_onesOf 0 = .ok (.iconst 0, 1) := by decide +kernel
theorem dX5_onesOf_1 : decode cX5_onesOf 1 = .ok (.istore_n 1, 1) := by decide +kernel
theorem dX5_onesOf_2 : decode cX5_onesOf 2 = .ok (.iload_n 0, 1) := by decide +kernel
theorem dX5_onesOf_3 : decode cX5_onesOf 3 = .ok (.istore_n 2, 1) := by decide +kernel
theorem dX5_onesOf_4 : decode cX5_onesOf 4 = .ok (.iload_n 2, 1) := by decide +kernel
theorem dX5_onesOf_5 : decode cX5_onesOf 5 = .ok (.ifCond .eq 15, 3) := by decide +kernel
theorem dX5_onesOf_8 : decode cX5_onesOf 8 = .ok (.iinc 1 1, 3) := by decide +kernel
theorem dX5_onesOf_11 : decode cX5_onesOf 11 = .ok (.iload_n 2, 1) := by decide +kernel
theorem dX5_onesOf_12 : decode cX5_onesOf 12 = .ok (.iload_n 2, 1) := by decide +kernel
theorem dX5_onesOf_13 : decode cX5_onesOf 13 = .ok (.iconst 1, 1) := by decide +kernel
theorem dX5_onesOf_14 : decode cX5_onesOf 14 = .ok (.isub, 1) := by decide +kernel
theorem dX5_onesOf_15 : decode cX5_onesOf 15 = .ok (.iand, 1) := by decide +kernel
theorem dX5_onesOf_16 : decode cX5_onesOf 16 = .ok (.istore_n 2, 1) := by decide +kernel
theorem dX5_onesOf_17 : decode cX5_onesOf 17 = .ok (.goto (-13), 3) := by decide +kernel
theorem dX5_onesOf_20 : decode cX5_onesOf 20 = .ok (.iload_n 1, 1) := by decide +kernel
theorem dX5_onesOf_21 : decode cX5_onesOf 21 = .ok (.ireturn, 1) := by decide +kernel
theorem dX5_before_0 : decode cX5_before 0 = .ok (.iload_n 1, 1) := by decide +kernel
theorem dX5_before_1 : decode cX5_before 1 = .ok (.aload_n 0, 1) := by decide +kernel
theorem dX5_before_2 : decode cX5_before 2 = .ok (.getfield 77, 3) := by decide +kernel
theorem dX5_before_5 : decode cX5_before 5 = .ok (.iadd, 1) := by decide +kernel
theorem dX5_before_6 : decode cX5_before 6 = .ok (.iconst 1, 1) := by decide +kernel
theorem dX5_before_7 : decode cX5_before 7 = .ok (.isub, 1) := by decide +kernel
theorem dX5_before_8 : decode cX5_before 8 = .ok (.aload_n 0, 1) := by decide +kernel
theorem dX5_before_9 : decode cX5_before 9 = .ok (.getfield 77, 3) := by decide +kernel
theorem dX5_before_12 : decode cX5_before 12 = .ok (.irem, 1) := by decide +kernel
theorem dX5_before_13 : decode cX5_before 13 = .ok (.ireturn, 1) := by decide +kernel
theorem dX5_behind_0 : decode cX5_behind 0 = .ok (.iload_n 1, 1) := by decide +kernel
theorem dX5_behind_1 : decode cX5_behind 1 = .ok (.iconst 1, 1) := by decide +kernel
theorem dX5_behind_2 : decode cX5_behind 2 = .ok (.iadd, 1) := by decide +kernel
theorem dX5_behind_3 : decode cX5_behind 3 = .ok (.aload_n 0, 1) := by decide +kernel
theorem dX5_behind_4 : decode cX5_behind 4 = .ok (.getfield 77, 3) := by decide +kernel
theorem dX5_behind_7 : decode cX5_behind 7 = .ok (.irem, 1) := by decide +kernel
theorem dX5_behind_8 : decode cX5_behind 8 = .ok (.ireturn, 1) := by decide +kernel
theorem dX5_lacksBeside_0 : decode cX5_lacksBeside 0 = .ok (.aload_n 0, 1) := by decide +kernel
theorem dX5_lacksBeside_1 : decode cX5_lacksBeside 1 = .ok (.getfield 77, 3) := by decide +kernel
theorem dX5_lacksBeside_4 : decode cX5_lacksBeside 4 = .ok (.iconst 1, 1) := by decide +kernel
theorem dX5_lacksBeside_5 : decode cX5_lacksBeside 5 = .ok (.if_icmp .le 41, 3) := by decide +kernel
theorem dX5_lacksBeside_8 : decode cX5_lacksBeside 8 = .ok (.aload_n 0, 1) := by decide +kernel
theorem dX5_lacksBeside_9 : decode cX5_lacksBeside 9 = .ok (.getfield 34, 3) := by decide +kernel
theorem dX5_lacksBeside_12 : decode cX5_lacksBeside 12 = .ok (.aload_n 0, 1) := by decide +kernel
theorem dX5_lacksBeside_13 : decode cX5_lacksBeside 13 = .ok (.iload_n 1, 1) := by decide +kernel
theorem dX5_lacksBeside_14 : decode cX5_lacksBeside 14 = .ok (.invokevirtual 91, 3) := by decide +kernel
theorem dX5_lacksBeside_17 : decode cX5_lacksBeside 17 = .ok (.iaload, 1) := by decide +kernel
theorem dX5_lacksBeside_18 : decode cX5_lacksBeside 18 = .ok (.iload_n 2, 1) := by decide +kernel
theorem dX5_lacksBeside_19 : decode cX5_lacksBeside 19 = .ok (.invokestatic 95, 3) := by decide +kernel
theorem dX5_lacksBeside_22 : decode cX5_lacksBeside 22 = .ok (.ifCond .eq 20, 3) := by decide +kernel
theorem dX5_lacksBeside_25 : decode cX5_lacksBeside 25 = .ok (.aload_n 0, 1) := by decide +kernel
theorem dX5_lacksBeside_26 : decode cX5_lacksBeside 26 = .ok (.getfield 34, 3) := by decide +kernel
theorem dX5_lacksBeside_29 : decode cX5_lacksBeside 29 = .ok (.aload_n 0, 1) := by decide +kernel
theorem dX5_lacksBeside_30 : decode cX5_lacksBeside 30 = .ok (.iload_n 1, 1) := by decide +kernel
theorem dX5_lacksBeside_31 : decode cX5_lacksBeside 31 = .ok (.invokevirtual 99, 3) := by decide +kernel
theorem dX5_lacksBeside_34 : decode cX5_lacksBeside 34 = .ok (.iaload, 1) := by decide +kernel
theorem dX5_lacksBeside_35 : decode cX5_lacksBeside 35 = .ok (.iload_n 2, 1) := by decide +kernel
theorem dX5_lacksBeside_36 : decode cX5_lacksBeside 36 = .ok (.invokestatic 95, 3) := by decide +kernel
theorem dX5_lacksBeside_39 : decode cX5_lacksBeside 39 = .ok (.ifCond .ne 7, 3) := by decide +kernel
theorem dX5_lacksBeside_42 : decode cX5_lacksBeside 42 = .ok (.iconst 1, 1) := by decide +kernel
theorem dX5_lacksBeside_43 : decode cX5_lacksBeside 43 = .ok (.goto 4, 3) := by decide +kernel
theorem dX5_lacksBeside_46 : decode cX5_lacksBeside 46 = .ok (.iconst 0, 1) := by decide +kernel
theorem dX5_lacksBeside_47 : decode cX5_lacksBeside 47 = .ok (.ireturn, 1) := by decide +kernel
theorem dX5_may_0 : decode cX5_may 0 = .ok (.aload_n 0, 1) := by decide +kernel
theorem dX5_may_1 : decode cX5_may 1 = .ok (.getfield 22, 3) := by decide +kernel
theorem dX5_may_4 : decode cX5_may 4 = .ok (.iload_n 1, 1) := by decide +kernel
theorem dX5_may_5 : decode cX5_may 5 = .ok (.iaload, 1) := by decide +kernel
theorem dX5_may_6 : decode cX5_may 6 = .ok (.istore 4, 2) := by decide +kernel
theorem dX5_may_8 : decode cX5_may 8 = .ok (.aload_n 0, 1) := by decide +kernel
theorem dX5_may_9 : decode cX5_may 9 = .ok (.getfield 13, 3) := by decide +kernel
theorem dX5_may_12 : decode cX5_may 12 = .ok (.iload_n 2, 1) := by decide +kernel
theorem dX5_may_13 : decode cX5_may 13 = .ok (.iaload, 1) := by decide +kernel
theorem dX5_may_14 : decode cX5_may 14 = .ok (.iload_n 3, 1) := by decide +kernel
theorem dX5_may_15 : decode cX5_may 15 = .ok (.invokestatic 95, 3) := by decide +kernel
theorem dX5_may_18 : decode cX5_may 18 = .ok (.ifCond .eq 35, 3) := by decide +kernel
theorem dX5_may_21 : decode cX5_may 21 = .ok (.aload_n 0, 1) := by decide +kernel
theorem dX5_may_22 : decode cX5_may 22 = .ok (.getfield 16, 3) := by decide +kernel
theorem dX5_may_25 : decode cX5_may 25 = .ok (.iload_n 2, 1) := by decide +kernel
theorem dX5_may_26 : decode cX5_may 26 = .ok (.iaload, 1) := by decide +kernel
theorem dX5_may_27 : decode cX5_may 27 = .ok (.ifCond .ne 26, 3) := by decide +kernel
theorem dX5_may_30 : decode cX5_may 30 = .ok (.iload 4, 2) := by decide +kernel
theorem dX5_may_32 : decode cX5_may 32 = .ok (.iconst 5, 1) := by decide +kernel
theorem dX5_may_33 : decode cX5_may 33 = .ok (.if_icmp .eq 16, 3) := by decide +kernel
theorem dX5_may_36 : decode cX5_may 36 = .ok (.aload_n 0, 1) := by decide +kernel
theorem dX5_may_37 : decode cX5_may 37 = .ok (.getfield 7, 3) := by decide +kernel
theorem dX5_may_40 : decode cX5_may 40 = .ok (.iload_n 2, 1) := by decide +kernel
theorem dX5_may_41 : decode cX5_may 41 = .ok (.iaload, 1) := by decide +kernel
theorem dX5_may_42 : decode cX5_may 42 = .ok (.iload_n 1, 1) := by decide +kernel
theorem dX5_may_43 : decode cX5_may 43 = .ok (.invokestatic 95, 3) := by decide +kernel
theorem dX5_may_46 : decode cX5_may 46 = .ok (.ifCond .eq 7, 3) := by decide +kernel
theorem dX5_may_49 : decode cX5_may 49 = .ok (.iconst 1, 1) := by decide +kernel
theorem dX5_may_50 : decode cX5_may 50 = .ok (.goto 4, 3) := by decide +kernel
theorem dX5_may_53 : decode cX5_may 53 = .ok (.iconst 0, 1) := by decide +kernel
theorem dX5_may_54 : decode cX5_may 54 = .ok (.istore 5, 2) := by decide +kernel
theorem dX5_may_56 : decode cX5_may 56 = .ok (.iload_n 3, 1) := by decide +kernel
theorem dX5_may_57 : decode cX5_may 57 = .ok (.aload_n 0, 1) := by decide +kernel
theorem dX5_may_58 : decode cX5_may 58 = .ok (.getfield 25, 3) := by decide +kernel
theorem dX5_may_61 : decode cX5_may 61 = .ok (.iload_n 1, 1) := by decide +kernel
theorem dX5_may_62 : decode cX5_may 62 = .ok (.iaload, 1) := by decide +kernel
theorem dX5_may_63 : decode cX5_may 63 = .ok (.iadd, 1) := by decide +kernel
theorem dX5_may_64 : decode cX5_may 64 = .ok (.iconst 2, 1) := by decide +kernel
theorem dX5_may_65 : decode cX5_may 65 = .ok (.irem, 1) := by decide +kernel
theorem dX5_may_66 : decode cX5_may 66 = .ok (.ifCond .ne 7, 3) := by decide +kernel
theorem dX5_may_69 : decode cX5_may 69 = .ok (.iconst 1, 1) := by decide +kernel
theorem dX5_may_70 : decode cX5_may 70 = .ok (.goto 4, 3) := by decide +kernel
theorem dX5_may_73 : decode cX5_may 73 = .ok (.iconst 0, 1) := by decide +kernel
theorem dX5_may_74 : decode cX5_may 74 = .ok (.istore 6, 2) := by decide +kernel
theorem dX5_may_76 : decode cX5_may 76 = .ok (.iload 4, 2) := by decide +kernel
theorem dX5_may_78 : decode cX5_may 78 = .ok (.tableswitch 155 1 4 #[30, 55, 89, 115], 30) := by decide +kernel
theorem dX5_may_108 : decode cX5_may 108 = .ok (.iload 5, 2) := by decide +kernel
theorem dX5_may_110 : decode cX5_may 110 = .ok (.ifCond .eq 21, 3) := by decide +kernel
theorem dX5_may_113 : decode cX5_may 113 = .ok (.aload_n 0, 1) := by decide +kernel
theorem dX5_may_114 : decode cX5_may 114 = .ok (.getfield 43, 3) := by decide +kernel
theorem dX5_may_117 : decode cX5_may 117 = .ok (.iload_n 2, 1) := by decide +kernel
theorem dX5_may_118 : decode cX5_may 118 = .ok (.iaload, 1) := by decide +kernel
theorem dX5_may_119 : decode cX5_may 119 = .ok (.ifCond .ne 12, 3) := by decide +kernel
theorem dX5_may_122 : decode cX5_may 122 = .ok (.iload 6, 2) := by decide +kernel
theorem dX5_may_124 : decode cX5_may 124 = .ok (.ifCond .eq 7, 3) := by decide +kernel
theorem dX5_may_127 : decode cX5_may 127 = .ok (.iconst 1, 1) := by decide +kernel
theorem dX5_may_128 : decode cX5_may 128 = .ok (.goto 4, 3) := by decide +kernel
theorem dX5_may_131 : decode cX5_may 131 = .ok (.iconst 0, 1) := by decide +kernel
theorem dX5_may_132 : decode cX5_may 132 = .ok (.ireturn, 1) := by decide +kernel
theorem dX5_may_133 : decode cX5_may 133 = .ok (.iload 5, 2) := by decide +kernel
theorem dX5_may_135 : decode cX5_may 135 = .ok (.ifCond .eq 30, 3) := by decide +kernel
theorem dX5_may_138 : decode cX5_may 138 = .ok (.aload_n 0, 1) := by decide +kernel
theorem dX5_may_139 : decode cX5_may 139 = .ok (.getfield 43, 3) := by decide +kernel
theorem dX5_may_142 : decode cX5_may 142 = .ok (.iload_n 2, 1) := by decide +kernel
theorem dX5_may_143 : decode cX5_may 143 = .ok (.iaload, 1) := by decide +kernel
theorem dX5_may_144 : decode cX5_may 144 = .ok (.ifCond .ne 21, 3) := by decide +kernel
theorem dX5_may_147 : decode cX5_may 147 = .ok (.aload_n 0, 1) := by decide +kernel
theorem dX5_may_148 : decode cX5_may 148 = .ok (.iload_n 2, 1) := by decide +kernel
theorem dX5_may_149 : decode cX5_may 149 = .ok (.aload_n 0, 1) := by decide +kernel
theorem dX5_may_150 : decode cX5_may 150 = .ok (.getfield 28, 3) := by decide +kernel
theorem dX5_may_153 : decode cX5_may 153 = .ok (.iload_n 1, 1) := by decide +kernel
theorem dX5_may_154 : decode cX5_may 154 = .ok (.iaload, 1) := by decide +kernel
theorem dX5_may_155 : decode cX5_may 155 = .ok (.invokevirtual 102, 3) := by decide +kernel
theorem dX5_may_158 : decode cX5_may 158 = .ok (.ifCond .eq 7, 3) := by decide +kernel
theorem dX5_may_161 : decode cX5_may 161 = .ok (.iconst 1, 1) := by decide +kernel
theorem dX5_may_162 : decode cX5_may 162 = .ok (.goto 4, 3) := by decide +kernel
theorem dX5_may_165 : decode cX5_may 165 = .ok (.iconst 0, 1) := by decide +kernel
theorem dX5_may_166 : decode cX5_may 166 = .ok (.ireturn, 1) := by decide +kernel
theorem dX5_may_167 : decode cX5_may 167 = .ok (.iload 5, 2) := by decide +kernel
theorem dX5_may_169 : decode cX5_may 169 = .ok (.ifCond .eq 22, 3) := by decide +kernel
theorem dX5_may_172 : decode cX5_may 172 = .ok (.aload_n 0, 1) := by decide +kernel
theorem dX5_may_173 : decode cX5_may 173 = .ok (.getfield 43, 3) := by decide +kernel
theorem dX5_may_176 : decode cX5_may 176 = .ok (.iload_n 2, 1) := by decide +kernel
theorem dX5_may_177 : decode cX5_may 177 = .ok (.iaload, 1) := by decide +kernel
theorem dX5_may_178 : decode cX5_may 178 = .ok (.iconst 1, 1) := by decide +kernel
theorem dX5_may_179 : decode cX5_may 179 = .ok (.if_icmp .gt 12, 3) := by decide +kernel
theorem dX5_may_182 : decode cX5_may 182 = .ok (.iload 6, 2) := by decide +kernel
theorem dX5_may_184 : decode cX5_may 184 = .ok (.ifCond .eq 7, 3) := by decide +kernel
theorem dX5_may_187 : decode cX5_may 187 = .ok (.iconst 1, 1) := by decide +kernel
theorem dX5_may_188 : decode cX5_may 188 = .ok (.goto 4, 3) := by decide +kernel
theorem dX5_may_191 : decode cX5_may 191 = .ok (.iconst 0, 1) := by decide +kernel
theorem dX5_may_192 : decode cX5_may 192 = .ok (.ireturn, 1) := by decide +kernel
theorem dX5_may_193 : decode cX5_may 193 = .ok (.iload 5, 2) := by decide +kernel
theorem dX5_may_195 : decode cX5_may 195 = .ok (.ifCond .eq 36, 3) := by decide +kernel
theorem dX5_may_198 : decode cX5_may 198 = .ok (.aload_n 0, 1) := by decide +kernel
theorem dX5_may_199 : decode cX5_may 199 = .ok (.getfield 43, 3) := by decide +kernel
theorem dX5_may_202 : decode cX5_may 202 = .ok (.iload_n 2, 1) := by decide +kernel
theorem dX5_may_203 : decode cX5_may 203 = .ok (.iaload, 1) := by decide +kernel
theorem dX5_may_204 : decode cX5_may 204 = .ok (.ifCond .ne 27, 3) := by decide +kernel
theorem dX5_may_207 : decode cX5_may 207 = .ok (.aload_n 0, 1) := by decide +kernel
theorem dX5_may_208 : decode cX5_may 208 = .ok (.iload_n 2, 1) := by decide +kernel
theorem dX5_may_209 : decode cX5_may 209 = .ok (.aload_n 0, 1) := by decide +kernel
theorem dX5_may_210 : decode cX5_may 210 = .ok (.getfield 28, 3) := by decide +kernel
theorem dX5_may_213 : decode cX5_may 213 = .ok (.iload_n 1, 1) := by decide +kernel
theorem dX5_may_214 : decode cX5_may 214 = .ok (.iaload, 1) := by decide +kernel
theorem dX5_may_215 : decode cX5_may 215 = .ok (.invokevirtual 102, 3) := by decide +kernel
theorem dX5_may_218 : decode cX5_may 218 = .ok (.ifCond .eq 13, 3) := by decide +kernel
theorem dX5_may_221 : decode cX5_may 221 = .ok (.iload_n 3, 1) := by decide +kernel
theorem dX5_may_222 : decode cX5_may 222 = .ok (.bipush 12, 2) := by decide +kernel
theorem dX5_may_224 : decode cX5_may 224 = .ok (.if_icmp .lt 7, 3) := by decide +kernel
theorem dX5_may_227 : decode cX5_may 227 = .ok (.iconst 1, 1) := by decide +kernel
theorem dX5_may_228 : decode cX5_may 228 = .ok (.goto 4, 3) := by decide +kernel
theorem dX5_may_231 : decode cX5_may 231 = .ok (.iconst 0, 1) := by decide +kernel
theorem dX5_may_232 : decode cX5_may 232 = .ok (.ireturn, 1) := by decide +kernel
theorem dX5_may_233 : decode cX5_may 233 = .ok (.iload 5, 2) := by decide +kernel
theorem dX5_may_235 : decode cX5_may 235 = .ok (.ifCond .eq 16, 3) := by decide +kernel
theorem dX5_may_238 : decode cX5_may 238 = .ok (.aload_n 0, 1) := by decide +kernel
theorem dX5_may_239 : decode cX5_may 239 = .ok (.getfield 43, 3) := by decide +kernel
theorem dX5_may_242 : decode cX5_may 242 = .ok (.iload_n 2, 1) := by decide +kernel
theorem dX5_may_243 : decode cX5_may 243 = .ok (.iaload, 1) := by decide +kernel
theorem dX5_may_244 : decode cX5_may 244 = .ok (.ifCond .ne 7, 3) := by decide +kernel
theorem dX5_may_247 : decode cX5_may 247 = .ok (.iconst 1, 1) := by decide +kernel
theorem dX5_may_248 : decode cX5_may 248 = .ok (.goto 4, 3) := by decide +kernel
theorem dX5_may_251 : decode cX5_may 251 = .ok (.iconst 0, 1) := by decide +kernel
theorem dX5_may_252 : decode cX5_may 252 = .ok (.ireturn, 1) := by decide +kernel
theorem dX5_speaksThrough_0 : decode cX5_speaksThrough 0 = .ok (.iconst 0, 1) := by decide +kernel
theorem dX5_speaksThrough_1 : decode cX5_speaksThrough 1 = .ok (.istore_n 3, 1) := by decide +kernel
theorem dX5_speaksThrough_2 : decode cX5_speaksThrough 2 = .ok (.iload_n 3, 1) := by decide +kernel
theorem dX5_speaksThrough_3 : decode cX5_speaksThrough 3 = .ok (.aload_n 0, 1) := by decide +kernel
theorem dX5_speaksThrough_4 : decode cX5_speaksThrough 4 = .ok (.getfield 77, 3) := by decide +kernel
theorem dX5_speaksThrough_7 : decode cX5_speaksThrough 7 = .ok (.if_icmp .ge 38, 3) := by decide +kernel
theorem dX5_speaksThrough_10 : decode cX5_speaksThrough 10 = .ok (.aload_n 0, 1) := by decide +kernel
theorem dX5_speaksThrough_11 : decode cX5_speaksThrough 11 = .ok (.getfield 25, 3) := by decide +kernel
theorem dX5_speaksThrough_14 : decode cX5_speaksThrough 14 = .ok (.iload_n 1, 1) := by decide +kernel
theorem dX5_speaksThrough_15 : decode cX5_speaksThrough 15 = .ok (.iaload, 1) := by decide +kernel
theorem dX5_speaksThrough_16 : decode cX5_speaksThrough 16 = .ok (.iload_n 3, 1) := by decide +kernel
theorem dX5_speaksThrough_17 : decode cX5_speaksThrough 17 = .ok (.iadd, 1) := by decide +kernel
theorem dX5_speaksThrough_18 : decode cX5_speaksThrough 18 = .ok (.aload_n 0, 1) := by decide +kernel
theorem dX5_speaksThrough_19 : decode cX5_speaksThrough 19 = .ok (.getfield 77, 3) := by decide +kernel
theorem dX5_speaksThrough_22 : decode cX5_speaksThrough 22 = .ok (.irem, 1) := by decide +kernel
theorem dX5_speaksThrough_23 : decode cX5_speaksThrough 23 = .ok (.istore 4, 2) := by decide +kernel
theorem dX5_speaksThrough_25 : decode cX5_speaksThrough 25 = .ok (.aload_n 0, 1) := by decide +kernel
theorem dX5_speaksThrough_26 : decode cX5_speaksThrough 26 = .ok (.iload_n 1, 1) := by decide +kernel
theorem dX5_speaksThrough_27 : decode cX5_speaksThrough 27 = .ok (.iload 4, 2) := by decide +kernel
theorem dX5_speaksThrough_29 : decode cX5_speaksThrough 29 = .ok (.iload_n 2, 1) := by decide +kernel
theorem dX5_speaksThrough_30 : decode cX5_speaksThrough 30 = .ok (.invokevirtual 105, 3) := by decide +kernel
theorem dX5_speaksThrough_33 : decode cX5_speaksThrough 33 = .ok (.ifCond .eq 6, 3) := by decide +kernel
theorem dX5_speaksThrough_36 : decode cX5_speaksThrough 36 = .ok (.iload 4, 2) := by decide +kernel
theorem dX5_speaksThrough_38 : decode cX5_speaksThrough 38 = .ok (.ireturn, 1) := by decide +kernel
theorem dX5_speaksThrough_39 : decode cX5_speaksThrough 39 = .ok (.iinc 3 1, 3) := by decide +kernel
theorem dX5_speaksThrough_42 : decode cX5_speaksThrough 42 = .ok (.goto (-40), 3) := by decide +kernel
theorem dX5_speaksThrough_45 : decode cX5_speaksThrough 45 = .ok (.bipush (-9), 2) := by decide +kernel
theorem dX5_speaksThrough_47 : decode cX5_speaksThrough 47 = .ok (.ireturn, 1) := by decide +kernel
theorem dX5_hourOn_0 : decode cX5_hourOn 0 = .ok (.iconst 0, 1) := by decide +kernel
theorem dX5_hourOn_1 : decode cX5_hourOn 1 = .ok (.istore_n 2, 1) := by decide +kernel
theorem dX5_hourOn_2 : decode cX5_hourOn 2 = .ok (.iload_n 2, 1) := by decide +kernel
theorem dX5_hourOn_3 : decode cX5_hourOn 3 = .ok (.bipush 7, 2) := by decide +kernel
theorem dX5_hourOn_5 : decode cX5_hourOn 5 = .ok (.if_icmp .ge 16, 3) := by decide +kernel
theorem dX5_hourOn_8 : decode cX5_hourOn 8 = .ok (.aload_n 0, 1) := by decide +kernel
theorem dX5_hourOn_9 : decode cX5_hourOn 9 = .ok (.getfield 43, 3) := by decide +kernel
theorem dX5_hourOn_12 : decode cX5_hourOn 12 = .ok (.iload_n 2, 1) := by decide +kernel
theorem dX5_hourOn_13 : decode cX5_hourOn 13 = .ok (.iconst 0, 1) := by decide +kernel
theorem dX5_hourOn_14 : decode cX5_hourOn 14 = .ok (.iastore, 1) := by decide +kernel
theorem dX5_hourOn_15 : decode cX5_hourOn 15 = .ok (.iinc 2 1, 3) := by decide +kernel
theorem dX5_hourOn_18 : decode cX5_hourOn 18 = .ok (.goto (-16), 3) := by decide +kernel
theorem dX5_hourOn_21 : decode cX5_hourOn 21 = .ok (.iconst 0, 1) := by decide +kernel
theorem dX5_hourOn_22 : decode cX5_hourOn 22 = .ok (.istore_n 2, 1) := by decide +kernel
theorem dX5_hourOn_23 : decode cX5_hourOn 23 = .ok (.iload_n 2, 1) := by decide +kernel
theorem dX5_hourOn_24 : decode cX5_hourOn 24 = .ok (.aload_n 0, 1) := by decide +kernel
theorem dX5_hourOn_25 : decode cX5_hourOn 25 = .ok (.getfield 84, 3) := by decide +kernel
theorem dX5_hourOn_28 : decode cX5_hourOn 28 = .ok (.if_icmp .ge 58, 3) := by decide +kernel
theorem dX5_hourOn_31 : decode cX5_hourOn 31 = .ok (.aload_n 0, 1) := by decide +kernel
theorem dX5_hourOn_32 : decode cX5_hourOn 32 = .ok (.getfield 109, 3) := by decide +kernel
theorem dX5_hourOn_35 : decode cX5_hourOn 35 = .ok (.iload_n 2, 1) := by decide +kernel
theorem dX5_hourOn_36 : decode cX5_hourOn 36 = .ok (.invokestatic 95, 3) := by decide +kernel
theorem dX5_hourOn_39 : decode cX5_hourOn 39 = .ok (.ifCond .eq 8, 3) := by decide +kernel
theorem dX5_hourOn_42 : decode cX5_hourOn 42 = .ok (.bipush (-9), 2) := by decide +kernel
theorem dX5_hourOn_44 : decode cX5_hourOn 44 = .ok (.goto 9, 3) := by decide +kernel
theorem dX5_hourOn_47 : decode cX5_hourOn 47 = .ok (.aload_n 0, 1) := by decide +kernel
theorem dX5_hourOn_48 : decode cX5_hourOn 48 = .ok (.iload_n 2, 1) := by decide +kernel
theorem dX5_hourOn_49 : decode cX5_hourOn 49 = .ok (.iload_n 1, 1) := by decide +kernel
theorem dX5_hourOn_50 : decode cX5_hourOn 50 = .ok (.invokevirtual 112, 3) := by decide +kernel
theorem dX5_hourOn_53 : decode cX5_hourOn 53 = .ok (.istore_n 3, 1) := by decide +kernel
theorem dX5_hourOn_54 : decode cX5_hourOn 54 = .ok (.aload_n 0, 1) := by decide +kernel
theorem dX5_hourOn_55 : decode cX5_hourOn 55 = .ok (.getfield 40, 3) := by decide +kernel
theorem dX5_hourOn_58 : decode cX5_hourOn 58 = .ok (.bipush 6, 2) := by decide +kernel
theorem dX5_hourOn_60 : decode cX5_hourOn 60 = .ok (.iload_n 1, 1) := by decide +kernel
theorem dX5_hourOn_61 : decode cX5_hourOn 61 = .ok (.imul, 1) := by decide +kernel
theorem dX5_hourOn_62 : decode cX5_hourOn 62 = .ok (.iload_n 2, 1) := by decide +kernel
theorem dX5_hourOn_63 : decode cX5_hourOn 63 = .ok (.iadd, 1) := by decide +kernel
theorem dX5_hourOn_64 : decode cX5_hourOn 64 = .ok (.iload_n 3, 1) := by decide +kernel
theorem dX5_hourOn_65 : decode cX5_hourOn 65 = .ok (.iastore, 1) := by decide +kernel
theorem dX5_hourOn_66 : decode cX5_hourOn 66 = .ok (.iload_n 3, 1) := by decide +kernel
theorem dX5_hourOn_67 : decode cX5_hourOn 67 = .ok (.ifCond .lt 13, 3) := by decide +kernel
theorem dX5_hourOn_70 : decode cX5_hourOn 70 = .ok (.aload_n 0, 1) := by decide +kernel
theorem dX5_hourOn_71 : decode cX5_hourOn 71 = .ok (.getfield 43, 3) := by decide +kernel
theorem dX5_hourOn_74 : decode cX5_hourOn 74 = .ok (.iload_n 3, 1) := by decide +kernel
theorem dX5_hourOn_75 : decode cX5_hourOn 75 = .ok (.dup2, 1) := by decide +kernel
theorem dX5_hourOn_76 : decode cX5_hourOn 76 = .ok (.iaload, 1) := by decide +kernel
theorem dX5_hourOn_77 : decode cX5_hourOn 77 = .ok (.iconst 1, 1) := by decide +kernel
theorem dX5_hourOn_78 : decode cX5_hourOn 78 = .ok (.iadd, 1) := by decide +kernel
theorem dX5_hourOn_79 : decode cX5_hourOn 79 = .ok (.iastore, 1) := by decide +kernel
theorem dX5_hourOn_80 : decode cX5_hourOn 80 = .ok (.iinc 2 1, 3) := by decide +kernel
theorem dX5_hourOn_83 : decode cX5_hourOn 83 = .ok (.goto (-60), 3) := by decide +kernel
theorem dX5_hourOn_86 : decode cX5_hourOn 86 = .ok (.iconst 0, 1) := by decide +kernel
theorem dX5_hourOn_87 : decode cX5_hourOn 87 = .ok (.istore_n 2, 1) := by decide +kernel
theorem dX5_hourOn_88 : decode cX5_hourOn 88 = .ok (.iload_n 2, 1) := by decide +kernel
theorem dX5_hourOn_89 : decode cX5_hourOn 89 = .ok (.aload_n 0, 1) := by decide +kernel
theorem dX5_hourOn_90 : decode cX5_hourOn 90 = .ok (.getfield 84, 3) := by decide +kernel
theorem dX5_hourOn_93 : decode cX5_hourOn 93 = .ok (.if_icmp .ge 75, 3) := by decide +kernel
theorem dX5_hourOn_96 : decode cX5_hourOn 96 = .ok (.aload_n 0, 1) := by decide +kernel
theorem dX5_hourOn_97 : decode cX5_hourOn 97 = .ok (.getfield 40, 3) := by decide +kernel
theorem dX5_hourOn_100 : decode cX5_hourOn 100 = .ok (.bipush 6, 2) := by decide +kernel
theorem dX5_hourOn_102 : decode cX5_hourOn 102 = .ok (.iload_n 1, 1) := by decide +kernel
theorem dX5_hourOn_103 : decode cX5_hourOn 103 = .ok (.imul, 1) := by decide +kernel
theorem dX5_hourOn_104 : decode cX5_hourOn 104 = .ok (.iload_n 2, 1) := by decide +kernel
theorem dX5_hourOn_105 : decode cX5_hourOn 105 = .ok (.iadd, 1) := by decide +kernel
theorem dX5_hourOn_106 : decode cX5_hourOn 106 = .ok (.iaload, 1) := by decide +kernel
theorem dX5_hourOn_107 : decode cX5_hourOn 107 = .ok (.istore_n 3, 1) := by decide +kernel
theorem dX5_hourOn_108 : decode cX5_hourOn 108 = .ok (.iload_n 3, 1) := by decide +kernel
theorem dX5_hourOn_109 : decode cX5_hourOn 109 = .ok (.ifCond .lt 53, 3) := by decide +kernel
theorem dX5_hourOn_112 : decode cX5_hourOn 112 = .ok (.aload_n 0, 1) := by decide +kernel
theorem dX5_hourOn_113 : decode cX5_hourOn 113 = .ok (.getfield 77, 3) := by decide +kernel
theorem dX5_hourOn_116 : decode cX5_hourOn 116 = .ok (.iconst 1, 1) := by decide +kernel
theorem dX5_hourOn_117 : decode cX5_hourOn 117 = .ok (.if_icmp .le 45, 3) := by decide +kernel
theorem dX5_hourOn_120 : decode cX5_hourOn 120 = .ok (.aload_n 0, 1) := by decide +kernel
theorem dX5_hourOn_121 : decode cX5_hourOn 121 = .ok (.getfield 34, 3) := by decide +kernel
theorem dX5_hourOn_124 : decode cX5_hourOn 124 = .ok (.aload_n 0, 1) := by decide +kernel
theorem dX5_hourOn_125 : decode cX5_hourOn 125 = .ok (.iload_n 3, 1) := by decide +kernel
theorem dX5_hourOn_126 : decode cX5_hourOn 126 = .ok (.invokevirtual 91, 3) := by decide +kernel
theorem dX5_hourOn_129 : decode cX5_hourOn 129 = .ok (.dup2, 1) := by decide +kernel
theorem dX5_hourOn_130 : decode cX5_hourOn 130 = .ok (.iaload, 1) := by decide +kernel
theorem dX5_hourOn_131 : decode cX5_hourOn 131 = .ok (.iconst 1, 1) := by decide +kernel
theorem dX5_hourOn_132 : decode cX5_hourOn 132 = .ok (.aload_n 0, 1) := by decide +kernel
theorem dX5_hourOn_133 : decode cX5_hourOn 133 = .ok (.getfield 28, 3) := by decide +kernel
theorem dX5_hourOn_136 : decode cX5_hourOn 136 = .ok (.iload_n 2, 1) := by decide +kernel
theorem dX5_hourOn_137 : decode cX5_hourOn 137 = .ok (.iaload, 1) := by decide +kernel
theorem dX5_hourOn_138 : decode cX5_hourOn 138 = .ok (.ishl, 1) := by decide +kernel
theorem dX5_hourOn_139 : decode cX5_hourOn 139 = .ok (.ior, 1) := by decide +kernel
theorem dX5_hourOn_140 : decode cX5_hourOn 140 = .ok (.iastore, 1) := by decide +kernel
theorem dX5_hourOn_141 : decode cX5_hourOn 141 = .ok (.aload_n 0, 1) := by decide +kernel
theorem dX5_hourOn_142 : decode cX5_hourOn 142 = .ok (.getfield 34, 3) := by decide +kernel
theorem dX5_hourOn_145 : decode cX5_hourOn 145 = .ok (.aload_n 0, 1) := by decide +kernel
theorem dX5_hourOn_146 : decode cX5_hourOn 146 = .ok (.iload_n 3, 1) := by decide +kernel
theorem dX5_hourOn_147 : decode cX5_hourOn 147 = .ok (.invokevirtual 99, 3) := by decide +kernel
theorem dX5_hourOn_150 : decode cX5_hourOn 150 = .ok (.dup2, 1) := by decide +kernel
theorem dX5_hourOn_151 : decode cX5_hourOn 151 = .ok (.iaload, 1) := by decide +kernel
theorem dX5_hourOn_152 : decode cX5_hourOn 152 = .ok (.iconst 1, 1) := by decide +kernel
theorem dX5_hourOn_153 : decode cX5_hourOn 153 = .ok (.aload_n 0, 1) := by decide +kernel
theorem dX5_hourOn_154 : decode cX5_hourOn 154 = .ok (.getfield 28, 3) := by decide +kernel
theorem dX5_hourOn_157 : decode cX5_hourOn 157 = .ok (.iload_n 2, 1) := by decide +kernel
theorem dX5_hourOn_158 : decode cX5_hourOn 158 = .ok (.iaload, 1) := by decide +kernel
theorem dX5_hourOn_159 : decode cX5_hourOn 159 = .ok (.ishl, 1) := by decide +kernel
theorem dX5_hourOn_160 : decode cX5_hourOn 160 = .ok (.ior, 1) := by decide +kernel
theorem dX5_hourOn_161 : decode cX5_hourOn 161 = .ok (.iastore, 1) := by decide +kernel
theorem dX5_hourOn_162 : decode cX5_hourOn 162 = .ok (.iinc 2 1, 3) := by decide +kernel
theorem dX5_hourOn_165 : decode cX5_hourOn 165 = .ok (.goto (-77), 3) := by decide +kernel
theorem dX5_hourOn_168 : decode cX5_hourOn 168 = .ok (.return_, 1) := by decide +kernel
theorem dX5_day_0 : decode cX5_day 0 = .ok (.iconst 0, 1) := by decide +kernel
theorem dX5_day_1 : decode cX5_day 1 = .ok (.istore_n 1, 1) := by decide +kernel
theorem dX5_day_2 : decode cX5_day 2 = .ok (.iload_n 1, 1) := by decide +kernel
theorem dX5_day_3 : decode cX5_day 3 = .ok (.bipush 7, 2) := by decide +kernel
theorem dX5_day_5 : decode cX5_day 5 = .ok (.if_icmp .ge 45, 3) := by decide +kernel
theorem dX5_day_8 : decode cX5_day 8 = .ok (.aload_n 0, 1) := by decide +kernel
theorem dX5_day_9 : decode cX5_day 9 = .ok (.getfield 34, 3) := by decide +kernel
theorem dX5_day_12 : decode cX5_day 12 = .ok (.iload_n 1, 1) := by decide +kernel
theorem dX5_day_13 : decode cX5_day 13 = .ok (.iload_n 1, 1) := by decide +kernel
theorem dX5_day_14 : decode cX5_day 14 = .ok (.aload_n 0, 1) := by decide +kernel
theorem dX5_day_15 : decode cX5_day 15 = .ok (.getfield 77, 3) := by decide +kernel
theorem dX5_day_18 : decode cX5_day 18 = .ok (.if_icmp .ge 12, 3) := by decide +kernel
theorem dX5_day_21 : decode cX5_day 21 = .ok (.aload_n 0, 1) := by decide +kernel
theorem dX5_day_22 : decode cX5_day 22 = .ok (.getfield 19, 3) := by decide +kernel
theorem dX5_day_25 : decode cX5_day 25 = .ok (.iload_n 1, 1) := by decide +kernel
theorem dX5_day_26 : decode cX5_day 26 = .ok (.iaload, 1) := by decide +kernel
theorem dX5_day_27 : decode cX5_day 27 = .ok (.goto 4, 3) := by decide +kernel
theorem dX5_day_30 : decode cX5_day 30 = .ok (.iconst 0, 1) := by decide +kernel
theorem dX5_day_31 : decode cX5_day 31 = .ok (.iastore, 1) := by decide +kernel
theorem dX5_day_32 : decode cX5_day 32 = .ok (.aload_n 0, 1) := by decide +kernel
theorem dX5_day_33 : decode cX5_day 33 = .ok (.getfield 37, 3) := by decide +kernel
theorem dX5_day_36 : decode cX5_day 36 = .ok (.iload_n 1, 1) := by decide +kernel
theorem dX5_day_37 : decode cX5_day 37 = .ok (.aload_n 0, 1) := by decide +kernel
theorem dX5_day_38 : decode cX5_day 38 = .ok (.getfield 34, 3) := by decide +kernel
theorem dX5_day_41 : decode cX5_day 41 = .ok (.iload_n 1, 1) := by decide +kernel
theorem dX5_day_42 : decode cX5_day 42 = .ok (.iaload, 1) := by decide +kernel
theorem dX5_day_43 : decode cX5_day 43 = .ok (.iastore, 1) := by decide +kernel
theorem dX5_day_44 : decode cX5_day 44 = .ok (.iinc 1 1, 3) := by decide +kernel
theorem dX5_day_47 : decode cX5_day 47 = .ok (.goto (-45), 3) := by decide +kernel
theorem dX5_day_50 : decode cX5_day 50 = .ok (.iconst 0, 1) := by decide +kernel
theorem dX5_day_51 : decode cX5_day 51 = .ok (.istore_n 1, 1) := by decide +kernel
theorem dX5_day_52 : decode cX5_day 52 = .ok (.iload_n 1, 1) := by decide +kernel
theorem dX5_day_53 : decode cX5_day 53 = .ok (.bipush 24, 2) := by decide +kernel
theorem dX5_day_55 : decode cX5_day 55 = .ok (.if_icmp .ge 48, 3) := by decide +kernel
theorem dX5_day_58 : decode cX5_day 58 = .ok (.aload_n 0, 1) := by decide +kernel
theorem dX5_day_59 : decode cX5_day 59 = .ok (.iload_n 1, 1) := by decide +kernel
theorem dX5_day_60 : decode cX5_day 60 = .ok (.invokevirtual 116, 3) := by decide +kernel
theorem dX5_day_63 : decode cX5_day 63 = .ok (.iconst 0, 1) := by decide +kernel
theorem dX5_day_64 : decode cX5_day 64 = .ok (.istore_n 2, 1) := by decide +kernel
theorem dX5_day_65 : decode cX5_day 65 = .ok (.iload_n 2, 1) := by decide +kernel
theorem dX5_day_66 : decode cX5_day 66 = .ok (.bipush 7, 2) := by decide +kernel
theorem dX5_day_68 : decode cX5_day 68 = .ok (.if_icmp .ge 29, 3) := by decide +kernel
theorem dX5_day_71 : decode cX5_day 71 = .ok (.aload_n 0, 1) := by decide +kernel
theorem dX5_day_72 : decode cX5_day 72 = .ok (.getfield 37, 3) := by decide +kernel
theorem dX5_day_75 : decode cX5_day 75 = .ok (.bipush 7, 2) := by decide +kernel
theorem dX5_day_77 : decode cX5_day 77 = .ok (.iload_n 1, 1) := by decide +kernel
theorem dX5_day_78 : decode cX5_day 78 = .ok (.imul, 1) := by decide +kernel
theorem dX5_day_79 : decode cX5_day 79 = .ok (.bipush 7, 2) := by decide +kernel
theorem dX5_day_81 : decode cX5_day 81 = .ok (.iadd, 1) := by decide +kernel
theorem dX5_day_82 : decode cX5_day 82 = .ok (.iload_n 2, 1) := by decide +kernel
theorem dX5_day_83 : decode cX5_day 83 = .ok (.iadd, 1) := by decide +kernel
theorem dX5_day_84 : decode cX5_day 84 = .ok (.aload_n 0, 1) := by decide +kernel
theorem dX5_day_85 : decode cX5_day 85 = .ok (.getfield 34, 3) := by decide +kernel
theorem dX5_day_88 : decode cX5_day 88 = .ok (.iload_n 2, 1) := by decide +kernel
theorem dX5_day_89 : decode cX5_day 89 = .ok (.iaload, 1) := by decide +kernel
theorem dX5_day_90 : decode cX5_day 90 = .ok (.iastore, 1) := by decide +kernel
theorem dX5_day_91 : decode cX5_day 91 = .ok (.iinc 2 1, 3) := by decide +kernel
theorem dX5_day_94 : decode cX5_day 94 = .ok (.goto (-29), 3) := by decide +kernel
theorem dX5_day_97 : decode cX5_day 97 = .ok (.iinc 1 1, 3) := by decide +kernel
theorem dX5_day_100 : decode cX5_day 100 = .ok (.goto (-48), 3) := by decide +kernel
theorem dX5_day_103 : decode cX5_day 103 = .ok (.return_, 1) := by decide +kernel
theorem dX5_knownBehind_0 : decode cX5_knownBehind 0 = .ok (.iconst 0, 1) := by decide +kernel
theorem dX5_knownBehind_1 : decode cX5_knownBehind 1 = .ok (.istore_n 2, 1) := by decide +kernel
theorem dX5_knownBehind_2 : decode cX5_knownBehind 2 = .ok (.iconst 0, 1) := by decide +kernel
theorem dX5_knownBehind_3 : decode cX5_knownBehind 3 = .ok (.istore_n 3, 1) := by decide +kernel
theorem dX5_knownBehind_4 : decode cX5_knownBehind 4 = .ok (.iload_n 3, 1) := by decide +kernel
theorem dX5_knownBehind_5 : decode cX5_knownBehind 5 = .ok (.aload_n 0, 1) := by decide +kernel
theorem dX5_knownBehind_6 : decode cX5_knownBehind 6 = .ok (.getfield 77, 3) := by decide +kernel
theorem dX5_knownBehind_9 : decode cX5_knownBehind 9 = .ok (.if_icmp .ge 26, 3) := by decide +kernel
theorem dX5_knownBehind_12 : decode cX5_knownBehind 12 = .ok (.iload_n 2, 1) := by decide +kernel
theorem dX5_knownBehind_13 : decode cX5_knownBehind 13 = .ok (.aload_n 0, 1) := by decide +kernel
theorem dX5_knownBehind_14 : decode cX5_knownBehind 14 = .ok (.getfield 37, 3) := by decide +kernel
theorem dX5_knownBehind_17 : decode cX5_knownBehind 17 = .ok (.bipush 7, 2) := by decide +kernel
theorem dX5_knownBehind_19 : decode cX5_knownBehind 19 = .ok (.iload_n 1, 1) := by decide +kernel
theorem dX5_knownBehind_20 : decode cX5_knownBehind 20 = .ok (.imul, 1) := by decide +kernel
theorem dX5_knownBehind_21 : decode cX5_knownBehind 21 = .ok (.iload_n 3, 1) := by decide +kernel
theorem dX5_knownBehind_22 : decode cX5_knownBehind 22 = .ok (.iadd, 1) := by decide +kernel
theorem dX5_knownBehind_23 : decode cX5_knownBehind 23 = .ok (.iaload, 1) := by decide +kernel
theorem dX5_knownBehind_24 : decode cX5_knownBehind 24 = .ok (.invokestatic 120, 3) := by decide +kernel
theorem dX5_knownBehind_27 : decode cX5_knownBehind 27 = .ok (.iadd, 1) := by decide +kernel
theorem dX5_knownBehind_28 : decode cX5_knownBehind 28 = .ok (.istore_n 2, 1) := by decide +kernel
theorem dX5_knownBehind_29 : decode cX5_knownBehind 29 = .ok (.iinc 3 1, 3) := by decide +kernel
theorem dX5_knownBehind_32 : decode cX5_knownBehind 32 = .ok (.goto (-28), 3) := by decide +kernel
theorem dX5_knownBehind_35 : decode cX5_knownBehind 35 = .ok (.iload_n 2, 1) := by decide +kernel
theorem dX5_knownBehind_36 : decode cX5_knownBehind 36 = .ok (.ireturn, 1) := by decide +kernel
theorem dX5_allNow_0 : decode cX5_allNow 0 = .ok (.aload_n 0, 1) := by decide +kernel
theorem dX5_allNow_1 : decode cX5_allNow 1 = .ok (.invokevirtual 123, 3) := by decide +kernel
theorem dX5_allNow_4 : decode cX5_allNow 4 = .ok (.aload_n 0, 1) := by decide +kernel
theorem dX5_allNow_5 : decode cX5_allNow 5 = .ok (.bipush 24, 2) := by decide +kernel
theorem dX5_allNow_7 : decode cX5_allNow 7 = .ok (.invokevirtual 126, 3) := by decide +kernel
theorem dX5_allNow_10 : decode cX5_allNow 10 = .ok (.ireturn, 1) := by decide +kernel
theorem dX5_feed_0 : decode cX5_feed 0 = .ok (.aload_n 0, 1) := by decide +kernel
theorem dX5_feed_1 : decode cX5_feed 1 = .ok (.iconst 0, 1) := by decide +kernel
theorem dX5_feed_2 : decode cX5_feed 2 = .ok (.putfield 73, 3) := by decide +kernel
theorem dX5_feed_5 : decode cX5_feed 5 = .ok (.iload_n 1, 1) := by decide +kernel
theorem dX5_feed_6 : decode cX5_feed 6 = .ok (.ifCond .ge 10, 3) := by decide +kernel
theorem dX5_feed_9 : decode cX5_feed 9 = .ok (.aload_n 0, 1) := by decide +kernel
theorem dX5_feed_10 : decode cX5_feed 10 = .ok (.bipush (-4), 2) := by decide +kernel
theorem dX5_feed_12 : decode cX5_feed 12 = .ok (.invokevirtual 129, 3) := by decide +kernel
theorem dX5_feed_15 : decode cX5_feed 15 = .ok (.ireturn, 1) := by decide +kernel
theorem dX5_feed_16 : decode cX5_feed 16 = .ok (.iload_n 1, 1) := by decide +kernel
theorem dX5_feed_17 : decode cX5_feed 17 = .ok (.sipush 255, 3) := by decide +kernel
theorem dX5_feed_20 : decode cX5_feed 20 = .ok (.if_icmp .gt 12, 3) := by decide +kernel
theorem dX5_feed_23 : decode cX5_feed 23 = .ok (.aload_n 0, 1) := by decide +kernel
theorem dX5_feed_24 : decode cX5_feed 24 = .ok (.getfield 132, 3) := by decide +kernel
theorem dX5_feed_27 : decode cX5_feed 27 = .ok (.bipush 96, 2) := by decide +kernel
theorem dX5_feed_29 : decode cX5_feed 29 = .ok (.if_icmp .ne 10, 3) := by decide +kernel
theorem dX5_feed_32 : decode cX5_feed 32 = .ok (.aload_n 0, 1) := by decide +kernel
theorem dX5_feed_33 : decode cX5_feed 33 = .ok (.bipush (-6), 2) := by decide +kernel
theorem dX5_feed_35 : decode cX5_feed 35 = .ok (.invokevirtual 129, 3) := by decide +kernel
theorem dX5_feed_38 : decode cX5_feed 38 = .ok (.ireturn, 1) := by decide +kernel
theorem dX5_feed_39 : decode cX5_feed 39 = .ok (.aload_n 0, 1) := by decide +kernel
theorem dX5_feed_40 : decode cX5_feed 40 = .ok (.getfield 46, 3) := by decide +kernel
theorem dX5_feed_43 : decode cX5_feed 43 = .ok (.aload_n 0, 1) := by decide +kernel
theorem dX5_feed_44 : decode cX5_feed 44 = .ok (.getfield 132, 3) := by decide +kernel
theorem dX5_feed_47 : decode cX5_feed 47 = .ok (.iload_n 1, 1) := by decide +kernel
theorem dX5_feed_48 : decode cX5_feed 48 = .ok (.iastore, 1) := by decide +kernel
theorem dX5_feed_49 : decode cX5_feed 49 = .ok (.aload_n 0, 1) := by decide +kernel
theorem dX5_feed_50 : decode cX5_feed 50 = .ok (.dup, 1) := by decide +kernel
theorem dX5_feed_51 : decode cX5_feed 51 = .ok (.getfield 132, 3) := by decide +kernel
theorem dX5_feed_54 : decode cX5_feed 54 = .ok (.iconst 1, 1) := by decide +kernel
theorem dX5_feed_55 : decode cX5_feed 55 = .ok (.iadd, 1) := by decide +kernel
theorem dX5_feed_56 : decode cX5_feed 56 = .ok (.putfield 132, 3) := by decide +kernel
theorem dX5_feed_59 : decode cX5_feed 59 = .ok (.aload_n 0, 1) := by decide +kernel
theorem dX5_feed_60 : decode cX5_feed 60 = .ok (.getfield 132, 3) := by decide +kernel
theorem dX5_feed_63 : decode cX5_feed 63 = .ok (.ireturn, 1) := by decide +kernel
theorem dX5_here_0 : decode cX5_here 0 = .ok (.aload_n 0, 1) := by decide +kernel
theorem dX5_here_1 : decode cX5_here 1 = .ok (.getfield 135, 3) := by decide +kernel
theorem dX5_here_4 : decode cX5_here 4 = .ok (.aload_n 0, 1) := by decide +kernel
theorem dX5_here_5 : decode cX5_here 5 = .ok (.getfield 132, 3) := by decide +kernel
theorem dX5_here_8 : decode cX5_here 8 = .ok (.if_icmp .ge 15, 3) := by decide +kernel
theorem dX5_here_11 : decode cX5_here 11 = .ok (.aload_n 0, 1) := by decide +kernel
theorem dX5_here_12 : decode cX5_here 12 = .ok (.getfield 46, 3) := by decide +kernel
theorem dX5_here_15 : decode cX5_here 15 = .ok (.aload_n 0, 1) := by decide +kernel
theorem dX5_here_16 : decode cX5_here 16 = .ok (.getfield 135, 3) := by decide +kernel
theorem dX5_here_19 : decode cX5_here 19 = .ok (.iaload, 1) := by decide +kernel
theorem dX5_here_20 : decode cX5_here 20 = .ok (.goto 4, 3) := by decide +kernel
theorem dX5_here_23 : decode cX5_here 23 = .ok (.iconst (-1), 1) := by decide +kernel
theorem dX5_here_24 : decode cX5_here 24 = .ok (.ireturn, 1) := by decide +kernel
theorem dX5_readDigits_0 : decode cX5_readDigits 0 = .ok (.iconst 0, 1) := by decide +kernel
theorem dX5_readDigits_1 : decode cX5_readDigits 1 = .ok (.istore_n 2, 1) := by decide +kernel
theorem dX5_readDigits_2 : decode cX5_readDigits 2 = .ok (.iconst 0, 1) := by decide +kernel
theorem dX5_readDigits_3 : decode cX5_readDigits 3 = .ok (.istore_n 3, 1) := by decide +kernel
theorem dX5_readDigits_4 : decode cX5_readDigits 4 = .ok (.iload_n 3, 1) := by decide +kernel
theorem dX5_readDigits_5 : decode cX5_readDigits 5 = .ok (.iload_n 1, 1) := by decide +kernel
theorem dX5_readDigits_6 : decode cX5_readDigits 6 = .ok (.if_icmp .ge 92, 3) := by decide +kernel
theorem dX5_readDigits_9 : decode cX5_readDigits 9 = .ok (.aload_n 0, 1) := by decide +kernel
theorem dX5_readDigits_10 : decode cX5_readDigits 10 = .ok (.aload_n 0, 1) := by decide +kernel
theorem dX5_readDigits_11 : decode cX5_readDigits 11 = .ok (.getfield 138, 3) := by decide +kernel
theorem dX5_readDigits_14 : decode cX5_readDigits 14 = .ok (.ifCond .ne 20, 3) := by decide +kernel
theorem dX5_readDigits_17 : decode cX5_readDigits 17 = .ok (.aload_n 0, 1) := by decide +kernel
theorem dX5_readDigits_18 : decode cX5_readDigits 18 = .ok (.invokevirtual 142, 3) := by decide +kernel
theorem dX5_readDigits_21 : decode cX5_readDigits 21 = .ok (.i2l, 1) := by decide +kernel
theorem dX5_readDigits_22 : decode cX5_readDigits 22 = .ok (.ldc2_w 146, 3) := by decide +kernel
theorem dX5_readDigits_25 : decode cX5_readDigits 25 = .ok (.ldc2_w 148, 3) := by decide +kernel
theorem dX5_readDigits_28 : decode cX5_readDigits 28 = .ok (.invokestatic 80, 3) := by decide +kernel
theorem dX5_readDigits_31 : decode cX5_readDigits 31 = .ok (.ifCond .ne 7, 3) := by decide +kernel
theorem dX5_readDigits_34 : decode cX5_readDigits 34 = .ok (.iconst 1, 1) := by decide +kernel
theorem dX5_readDigits_35 : decode cX5_readDigits 35 = .ok (.goto 4, 3) := by decide +kernel
theorem dX5_readDigits_38 : decode cX5_readDigits 38 = .ok (.iconst 0, 1) := by decide +kernel
theorem dX5_readDigits_39 : decode cX5_readDigits 39 = .ok (.putfield 138, 3) := by decide +kernel
theorem dX5_readDigits_42 : decode cX5_readDigits 42 = .ok (.aload_n 0, 1) := by decide +kernel
theorem dX5_readDigits_43 : decode cX5_readDigits 43 = .ok (.getfield 138, 3) := by decide +kernel
theorem dX5_readDigits_46 : decode cX5_readDigits 46 = .ok (.ifCond .eq 7, 3) := by decide +kernel
theorem dX5_readDigits_49 : decode cX5_readDigits 49 = .ok (.iconst 0, 1) := by decide +kernel
theorem dX5_readDigits_50 : decode cX5_readDigits 50 = .ok (.goto 20, 3) := by decide +kernel
theorem dX5_readDigits_53 : decode cX5_readDigits 53 = .ok (.bipush 10, 2) := by decide +kernel
theorem dX5_readDigits_55 : decode cX5_readDigits 55 = .ok (.iload_n 2, 1) := by decide +kernel
theorem dX5_readDigits_56 : decode cX5_readDigits 56 = .ok (.imul, 1) := by decide +kernel
theorem dX5_readDigits_57 : decode cX5_readDigits 57 = .ok (.aload_n 0, 1) := by decide +kernel
theorem dX5_readDigits_58 : decode cX5_readDigits 58 = .ok (.getfield 46, 3) := by decide +kernel
theorem dX5_readDigits_61 : decode cX5_readDigits 61 = .ok (.aload_n 0, 1) := by decide +kernel
theorem dX5_readDigits_62 : decode cX5_readDigits 62 = .ok (.getfield 135, 3) := by decide +kernel
theorem dX5_readDigits_65 : decode cX5_readDigits 65 = .ok (.iaload, 1) := by decide +kernel
theorem dX5_readDigits_66 : decode cX5_readDigits 66 = .ok (.iadd, 1) := by decide +kernel
theorem dX5_readDigits_67 : decode cX5_readDigits 67 = .ok (.bipush 48, 2) := by decide +kernel
theorem dX5_readDigits_69 : decode cX5_readDigits 69 = .ok (.isub, 1) := by decide +kernel
theorem dX5_readDigits_70 : decode cX5_readDigits 70 = .ok (.istore_n 2, 1) := by decide +kernel
theorem dX5_readDigits_71 : decode cX5_readDigits 71 = .ok (.aload_n 0, 1) := by decide +kernel
theorem dX5_readDigits_72 : decode cX5_readDigits 72 = .ok (.dup, 1) := by decide +kernel
theorem dX5_readDigits_73 : decode cX5_readDigits 73 = .ok (.getfield 135, 3) := by decide +kernel
theorem dX5_readDigits_76 : decode cX5_readDigits 76 = .ok (.aload_n 0, 1) := by decide +kernel
theorem dX5_readDigits_77 : decode cX5_readDigits 77 = .ok (.getfield 138, 3) := by decide +kernel
theorem dX5_readDigits_80 : decode cX5_readDigits 80 = .ok (.ifCond .eq 7, 3) := by decide +kernel
theorem dX5_readDigits_83 : decode cX5_readDigits 83 = .ok (.iconst 0, 1) := by decide +kernel
theorem dX5_readDigits_84 : decode cX5_readDigits 84 = .ok (.goto 4, 3) := by decide +kernel
theorem dX5_readDigits_87 : decode cX5_readDigits 87 = .ok (.iconst 1, 1) := by decide +kernel
theorem dX5_readDigits_88 : decode cX5_readDigits 88 = .ok (.iadd, 1) := by decide +kernel
theorem dX5_readDigits_89 : decode cX5_readDigits 89 = .ok (.putfield 135, 3) := by decide +kernel
theorem dX5_readDigits_92 : decode cX5_readDigits 92 = .ok (.iinc 3 1, 3) := by decide +kernel
theorem dX5_readDigits_95 : decode cX5_readDigits 95 = .ok (.goto (-91), 3) := by decide +kernel
theorem dX5_readDigits_98 : decode cX5_readDigits 98 = .ok (.iload_n 2, 1) := by decide +kernel
theorem dX5_readDigits_99 : decode cX5_readDigits 99 = .ok (.ireturn, 1) := by decide +kernel
theorem dX5_isLetter_0 : decode cX5_isLetter 0 = .ok (.iload_n 0, 1) := by decide +kernel
theorem dX5_isLetter_1 : decode cX5_isLetter 1 = .ok (.bipush 112, 2) := by decide +kernel
theorem dX5_isLetter_3 : decode cX5_isLetter 3 = .ok (.if_icmp .eq 33, 3) := by decide +kernel
theorem dX5_isLetter_6 : decode cX5_isLetter 6 = .ok (.iload_n 0, 1) := by decide +kernel
theorem dX5_isLetter_7 : decode cX5_isLetter 7 = .ok (.bipush 100, 2) := by decide +kernel
theorem dX5_isLetter_9 : decode cX5_isLetter 9 = .ok (.if_icmp .eq 27, 3) := by decide +kernel
theorem dX5_isLetter_12 : decode cX5_isLetter 12 = .ok (.iload_n 0, 1) := by decide +kernel
theorem dX5_isLetter_13 : decode cX5_isLetter 13 = .ok (.bipush 111, 2) := by decide +kernel
theorem dX5_isLetter_15 : decode cX5_isLetter 15 = .ok (.if_icmp .eq 21, 3) := by decide +kernel
theorem dX5_isLetter_18 : decode cX5_isLetter 18 = .ok (.iload_n 0, 1) := by decide +kernel
theorem dX5_isLetter_19 : decode cX5_isLetter 19 = .ok (.bipush 99, 2) := by decide +kernel
theorem dX5_isLetter_21 : decode cX5_isLetter 21 = .ok (.if_icmp .eq 15, 3) := by decide +kernel
theorem dX5_isLetter_24 : decode cX5_isLetter 24 = .ok (.iload_n 0, 1) := by decide +kernel
theorem dX5_isLetter_25 : decode cX5_isLetter 25 = .ok (.bipush 115, 2) := by decide +kernel
theorem dX5_isLetter_27 : decode cX5_isLetter 27 = .ok (.if_icmp .eq 9, 3) := by decide +kernel
theorem dX5_isLetter_30 : decode cX5_isLetter 30 = .ok (.iload_n 0, 1) := by decide +kernel
theorem dX5_isLetter_31 : decode cX5_isLetter 31 = .ok (.bipush 107, 2) := by decide +kernel
theorem dX5_isLetter_33 : decode cX5_isLetter 33 = .ok (.if_icmp .ne 7, 3) := by decide +kernel
theorem dX5_isLetter_36 : decode cX5_isLetter 36 = .ok (.iconst 1, 1) := by decide +kernel
theorem dX5_isLetter_37 : decode cX5_isLetter 37 = .ok (.goto 4, 3) := by decide +kernel
theorem dX5_isLetter_40 : decode cX5_isLetter 40 = .ok (.iconst 0, 1) := by decide +kernel
theorem dX5_isLetter_41 : decode cX5_isLetter 41 = .ok (.ireturn, 1) := by decide +kernel
theorem dX5_readNumbers_0 : decode cX5_readNumbers 0 = .ok (.iload_n 1, 1) := by decide +kernel
theorem dX5_readNumbers_1 : decode cX5_readNumbers 1 = .ok (.lookupswitch 159 #[(99, 105), (100, 65), (111, 105), (112, 51), (115, 145)], 51) := by decide +kernel
theorem dX5_readNumbers_52 : decode cX5_readNumbers 52 = .ok (.aload_n 0, 1) := by decide +kernel
theorem dX5_readNumbers_53 : decode cX5_readNumbers 53 = .ok (.getfield 55, 3) := by decide +kernel
theorem dX5_readNumbers_56 : decode cX5_readNumbers 56 = .ok (.iload_n 2, 1) := by decide +kernel
theorem dX5_readNumbers_57 : decode cX5_readNumbers 57 = .ok (.aload_n 0, 1) := by decide +kernel
theorem dX5_readNumbers_58 : decode cX5_readNumbers 58 = .ok (.iconst 2, 1) := by decide +kernel
theorem dX5_readNumbers_59 : decode cX5_readNumbers 59 = .ok (.invokevirtual 150, 3) := by decide +kernel
theorem dX5_readNumbers_62 : decode cX5_readNumbers 62 = .ok (.iastore, 1) := by decide +kernel
theorem dX5_readNumbers_63 : decode cX5_readNumbers 63 = .ok (.goto 121, 3) := by decide +kernel
theorem dX5_readNumbers_66 : decode cX5_readNumbers 66 = .ok (.aload_n 0, 1) := by decide +kernel
theorem dX5_readNumbers_67 : decode cX5_readNumbers 67 = .ok (.getfield 55, 3) := by decide +kernel
theorem dX5_readNumbers_70 : decode cX5_readNumbers 70 = .ok (.iload_n 2, 1) := by decide +kernel
theorem dX5_readNumbers_71 : decode cX5_readNumbers 71 = .ok (.aload_n 0, 1) := by decide +kernel
theorem dX5_readNumbers_72 : decode cX5_readNumbers 72 = .ok (.iconst 1, 1) := by decide +kernel
theorem dX5_readNumbers_73 : decode cX5_readNumbers 73 = .ok (.invokevirtual 150, 3) := by decide +kernel
theorem dX5_readNumbers_76 : decode cX5_readNumbers 76 = .ok (.iastore, 1) := by decide +kernel
theorem dX5_readNumbers_77 : decode cX5_readNumbers 77 = .ok (.aload_n 0, 1) := by decide +kernel
theorem dX5_readNumbers_78 : decode cX5_readNumbers 78 = .ok (.getfield 55, 3) := by decide +kernel
theorem dX5_readNumbers_81 : decode cX5_readNumbers 81 = .ok (.iload_n 2, 1) := by decide +kernel
theorem dX5_readNumbers_82 : decode cX5_readNumbers 82 = .ok (.iconst 1, 1) := by decide +kernel
theorem dX5_readNumbers_83 : decode cX5_readNumbers 83 = .ok (.iadd, 1) := by decide +kernel
theorem dX5_readNumbers_84 : decode cX5_readNumbers 84 = .ok (.aload_n 0, 1) := by decide +kernel
theorem dX5_readNumbers_85 : decode cX5_readNumbers 85 = .ok (.iconst 1, 1) := by decide +kernel
theorem dX5_readNumbers_86 : decode cX5_readNumbers 86 = .ok (.invokevirtual 150, 3) := by decide +kernel
theorem dX5_readNumbers_89 : decode cX5_readNumbers 89 = .ok (.iastore, 1) := by decide +kernel
theorem dX5_readNumbers_90 : decode cX5_readNumbers 90 = .ok (.aload_n 0, 1) := by decide +kernel
theorem dX5_readNumbers_91 : decode cX5_readNumbers 91 = .ok (.getfield 55, 3) := by decide +kernel
theorem dX5_readNumbers_94 : decode cX5_readNumbers 94 = .ok (.iload_n 2, 1) := by decide +kernel
theorem dX5_readNumbers_95 : decode cX5_readNumbers 95 = .ok (.iconst 2, 1) := by decide +kernel
theorem dX5_readNumbers_96 : decode cX5_readNumbers 96 = .ok (.iadd, 1) := by decide +kernel
theorem dX5_readNumbers_97 : decode cX5_readNumbers 97 = .ok (.aload_n 0, 1) := by decide +kernel
theorem dX5_readNumbers_98 : decode cX5_readNumbers 98 = .ok (.iconst 1, 1) := by decide +kernel
theorem dX5_readNumbers_99 : decode cX5_readNumbers 99 = .ok (.invokevirtual 150, 3) := by decide +kernel
theorem dX5_readNumbers_102 : decode cX5_readNumbers 102 = .ok (.iastore, 1) := by decide +kernel
theorem dX5_readNumbers_103 : decode cX5_readNumbers 103 = .ok (.goto 81, 3) := by decide +kernel
theorem dX5_readNumbers_106 : decode cX5_readNumbers 106 = .ok (.aload_n 0, 1) := by decide +kernel
theorem dX5_readNumbers_107 : decode cX5_readNumbers 107 = .ok (.getfield 55, 3) := by decide +kernel
theorem dX5_readNumbers_110 : decode cX5_readNumbers 110 = .ok (.iload_n 2, 1) := by decide +kernel
theorem dX5_readNumbers_111 : decode cX5_readNumbers 111 = .ok (.aload_n 0, 1) := by decide +kernel
theorem dX5_readNumbers_112 : decode cX5_readNumbers 112 = .ok (.iconst 1, 1) := by decide +kernel
theorem dX5_readNumbers_113 : decode cX5_readNumbers 113 = .ok (.invokevirtual 150, 3) := by decide +kernel
theorem dX5_readNumbers_116 : decode cX5_readNumbers 116 = .ok (.iastore, 1) := by decide +kernel
theorem dX5_readNumbers_117 : decode cX5_readNumbers 117 = .ok (.aload_n 0, 1) := by decide +kernel
theorem dX5_readNumbers_118 : decode cX5_readNumbers 118 = .ok (.getfield 55, 3) := by decide +kernel
theorem dX5_readNumbers_121 : decode cX5_readNumbers 121 = .ok (.iload_n 2, 1) := by decide +kernel
theorem dX5_readNumbers_122 : decode cX5_readNumbers 122 = .ok (.iconst 1, 1) := by decide +kernel
theorem dX5_readNumbers_123 : decode cX5_readNumbers 123 = .ok (.iadd, 1) := by decide +kernel
theorem dX5_readNumbers_124 : decode cX5_readNumbers 124 = .ok (.aload_n 0, 1) := by decide +kernel
theorem dX5_readNumbers_125 : decode cX5_readNumbers 125 = .ok (.iconst 2, 1) := by decide +kernel
theorem dX5_readNumbers_126 : decode cX5_readNumbers 126 = .ok (.invokevirtual 150, 3) := by decide +kernel
theorem dX5_readNumbers_129 : decode cX5_readNumbers 129 = .ok (.iastore, 1) := by decide +kernel
theorem dX5_readNumbers_130 : decode cX5_readNumbers 130 = .ok (.aload_n 0, 1) := by decide +kernel
theorem dX5_readNumbers_131 : decode cX5_readNumbers 131 = .ok (.getfield 55, 3) := by decide +kernel
theorem dX5_readNumbers_134 : decode cX5_readNumbers 134 = .ok (.iload_n 2, 1) := by decide +kernel
theorem dX5_readNumbers_135 : decode cX5_readNumbers 135 = .ok (.iconst 2, 1) := by decide +kernel
theorem dX5_readNumbers_136 : decode cX5_readNumbers 136 = .ok (.iadd, 1) := by decide +kernel
theorem dX5_readNumbers_137 : decode cX5_readNumbers 137 = .ok (.aload_n 0, 1) := by decide +kernel
theorem dX5_readNumbers_138 : decode cX5_readNumbers 138 = .ok (.iconst 2, 1) := by decide +kernel
theorem dX5_readNumbers_139 : decode cX5_readNumbers 139 = .ok (.invokevirtual 150, 3) := by decide +kernel
theorem dX5_readNumbers_142 : decode cX5_readNumbers 142 = .ok (.iastore, 1) := by decide +kernel
theorem dX5_readNumbers_143 : decode cX5_readNumbers 143 = .ok (.goto 41, 3) := by decide +kernel
theorem dX5_readNumbers_146 : decode cX5_readNumbers 146 = .ok (.aload_n 0, 1) := by decide +kernel
theorem dX5_readNumbers_147 : decode cX5_readNumbers 147 = .ok (.getfield 55, 3) := by decide +kernel
theorem dX5_readNumbers_150 : decode cX5_readNumbers 150 = .ok (.iload_n 2, 1) := by decide +kernel
theorem dX5_readNumbers_151 : decode cX5_readNumbers 151 = .ok (.aload_n 0, 1) := by decide +kernel
theorem dX5_readNumbers_152 : decode cX5_readNumbers 152 = .ok (.iconst 1, 1) := by decide +kernel
theorem dX5_readNumbers_153 : decode cX5_readNumbers 153 = .ok (.invokevirtual 150, 3) := by decide +kernel
theorem dX5_readNumbers_156 : decode cX5_readNumbers 156 = .ok (.iastore, 1) := by decide +kernel
theorem dX5_readNumbers_157 : decode cX5_readNumbers 157 = .ok (.goto 27, 3) := by decide +kernel
theorem dX5_readNumbers_160 : decode cX5_readNumbers 160 = .ok (.aload_n 0, 1) := by decide +kernel
theorem dX5_readNumbers_161 : decode cX5_readNumbers 161 = .ok (.getfield 55, 3) := by decide +kernel
theorem dX5_readNumbers_164 : decode cX5_readNumbers 164 = .ok (.iload_n 2, 1) := by decide +kernel
theorem dX5_readNumbers_165 : decode cX5_readNumbers 165 = .ok (.aload_n 0, 1) := by decide +kernel
theorem dX5_readNumbers_166 : decode cX5_readNumbers 166 = .ok (.iconst 1, 1) := by decide +kernel
theorem dX5_readNumbers_167 : decode cX5_readNumbers 167 = .ok (.invokevirtual 150, 3) := by decide +kernel
theorem dX5_readNumbers_170 : decode cX5_readNumbers 170 = .ok (.iastore, 1) := by decide +kernel
theorem dX5_readNumbers_171 : decode cX5_readNumbers 171 = .ok (.aload_n 0, 1) := by decide +kernel
theorem dX5_readNumbers_172 : decode cX5_readNumbers 172 = .ok (.getfield 55, 3) := by decide +kernel
theorem dX5_readNumbers_175 : decode cX5_readNumbers 175 = .ok (.iload_n 2, 1) := by decide +kernel
theorem dX5_readNumbers_176 : decode cX5_readNumbers 176 = .ok (.iconst 1, 1) := by decide +kernel
theorem dX5_readNumbers_177 : decode cX5_readNumbers 177 = .ok (.iadd, 1) := by decide +kernel
theorem dX5_readNumbers_178 : decode cX5_readNumbers 178 = .ok (.aload_n 0, 1) := by decide +kernel
theorem dX5_readNumbers_179 : decode cX5_readNumbers 179 = .ok (.iconst 1, 1) := by decide +kernel
theorem dX5_readNumbers_180 : decode cX5_readNumbers 180 = .ok (.invokevirtual 150, 3) := by decide +kernel
theorem dX5_readNumbers_183 : decode cX5_readNumbers 183 = .ok (.iastore, 1) := by decide +kernel
theorem dX5_readNumbers_184 : decode cX5_readNumbers 184 = .ok (.return_, 1) := by decide +kernel
theorem dX5_readStatement_0 : decode cX5_readStatement 0 = .ok (.aload_n 0, 1) := by decide +kernel
theorem dX5_readStatement_1 : decode cX5_readStatement 1 = .ok (.getfield 153, 3) := by decide +kernel
theorem dX5_readStatement_4 : decode cX5_readStatement 4 = .ok (.istore_n 1, 1) := by decide +kernel
theorem dX5_readStatement_5 : decode cX5_readStatement 5 = .ok (.aload_n 0, 1) := by decide +kernel
theorem dX5_readStatement_6 : decode cX5_readStatement 6 = .ok (.invokevirtual 142, 3) := by decide +kernel
theorem dX5_readStatement_9 : decode cX5_readStatement 9 = .ok (.istore_n 2, 1) := by decide +kernel
theorem dX5_readStatement_10 : decode cX5_readStatement 10 = .ok (.aload_n 0, 1) := by decide +kernel
theorem dX5_readStatement_11 : decode cX5_readStatement 11 = .ok (.getfield 49, 3) := by decide +kernel
theorem dX5_readStatement_14 : decode cX5_readStatement 14 = .ok (.iload_n 1, 1) := by decide +kernel
theorem dX5_readStatement_15 : decode cX5_readStatement 15 = .ok (.aload_n 0, 1) := by decide +kernel
theorem dX5_readStatement_16 : decode cX5_readStatement 16 = .ok (.getfield 135, 3) := by decide +kernel
theorem dX5_readStatement_19 : decode cX5_readStatement 19 = .ok (.iastore, 1) := by decide +kernel
theorem dX5_readStatement_20 : decode cX5_readStatement 20 = .ok (.aload_n 0, 1) := by decide +kernel
theorem dX5_readStatement_21 : decode cX5_readStatement 21 = .ok (.getfield 52, 3) := by decide +kernel
theorem dX5_readStatement_24 : decode cX5_readStatement 24 = .ok (.iload_n 1, 1) := by decide +kernel
theorem dX5_readStatement_25 : decode cX5_readStatement 25 = .ok (.iload_n 2, 1) := by decide +kernel
theorem dX5_readStatement_26 : decode cX5_readStatement 26 = .ok (.iastore, 1) := by decide +kernel
theorem dX5_readStatement_27 : decode cX5_readStatement 27 = .ok (.aload_n 0, 1) := by decide +kernel
theorem dX5_readStatement_28 : decode cX5_readStatement 28 = .ok (.aload_n 0, 1) := by decide +kernel
theorem dX5_readStatement_29 : decode cX5_readStatement 29 = .ok (.getfield 138, 3) := by decide +kernel
theorem dX5_readStatement_32 : decode cX5_readStatement 32 = .ok (.ifCond .ne 10, 3) := by decide +kernel
theorem dX5_readStatement_35 : decode cX5_readStatement 35 = .ok (.iload_n 2, 1) := by decide +kernel
theorem dX5_readStatement_36 : decode cX5_readStatement 36 = .ok (.invokestatic 156, 3) := by decide +kernel
theorem dX5_readStatement_39 : decode cX5_readStatement 39 = .ok (.ifCond .ne 7, 3) := by decide +kernel
theorem dX5_readStatement_42 : decode cX5_readStatement 42 = .ok (.iconst 1, 1) := by decide +kernel
theorem dX5_readStatement_43 : decode cX5_readStatement 43 = .ok (.goto 4, 3) := by decide +kernel
theorem dX5_readStatement_46 : decode cX5_readStatement 46 = .ok (.iconst 0, 1) := by decide +kernel
theorem dX5_readStatement_47 : decode cX5_readStatement 47 = .ok (.putfield 138, 3) := by decide +kernel
theorem dX5_readStatement_50 : decode cX5_readStatement 50 = .ok (.aload_n 0, 1) := by decide +kernel
theorem dX5_readStatement_51 : decode cX5_readStatement 51 = .ok (.dup, 1) := by decide +kernel
theorem dX5_readStatement_52 : decode cX5_readStatement 52 = .ok (.getfield 135, 3) := by decide +kernel
theorem dX5_readStatement_55 : decode cX5_readStatement 55 = .ok (.aload_n 0, 1) := by decide +kernel
theorem dX5_readStatement_56 : decode cX5_readStatement 56 = .ok (.getfield 138, 3) := by decide +kernel
theorem dX5_readStatement_59 : decode cX5_readStatement 59 = .ok (.ifCond .eq 7, 3) := by decide +kernel
theorem dX5_readStatement_62 : decode cX5_readStatement 62 = .ok (.iconst 0, 1) := by decide +kernel
theorem dX5_readStatement_63 : decode cX5_readStatement 63 = .ok (.goto 4, 3) := by decide +kernel
theorem dX5_readStatement_66 : decode cX5_readStatement 66 = .ok (.iconst 1, 1) := by decide +kernel
theorem dX5_readStatement_67 : decode cX5_readStatement 67 = .ok (.iadd, 1) := by decide +kernel
theorem dX5_readStatement_68 : decode cX5_readStatement 68 = .ok (.putfield 135, 3) := by decide +kernel
theorem dX5_readStatement_71 : decode cX5_readStatement 71 = .ok (.aload_n 0, 1) := by decide +kernel
theorem dX5_readStatement_72 : decode cX5_readStatement 72 = .ok (.getfield 138, 3) := by decide +kernel
theorem dX5_readStatement_75 : decode cX5_readStatement 75 = .ok (.ifCond .ne 11, 3) := by decide +kernel
theorem dX5_readStatement_78 : decode cX5_readStatement 78 = .ok (.aload_n 0, 1) := by decide +kernel
theorem dX5_readStatement_79 : decode cX5_readStatement 79 = .ok (.iload_n 2, 1) := by decide +kernel
theorem dX5_readStatement_80 : decode cX5_readStatement 80 = .ok (.iconst 3, 1) := by decide +kernel
theorem dX5_readStatement_81 : decode cX5_readStatement 81 = .ok (.iload_n 1, 1) := by decide +kernel
theorem dX5_readStatement_82 : decode cX5_readStatement 82 = .ok (.imul, 1) := by decide +kernel
theorem dX5_readStatement_83 : decode cX5_readStatement 83 = .ok (.invokevirtual 160, 3) := by decide +kernel
theorem dX5_readStatement_86 : decode cX5_readStatement 86 = .ok (.aload_n 0, 1) := by decide +kernel
theorem dX5_readStatement_87 : decode cX5_readStatement 87 = .ok (.aload_n 0, 1) := by decide +kernel
theorem dX5_readStatement_88 : decode cX5_readStatement 88 = .ok (.getfield 138, 3) := by decide +kernel
theorem dX5_readStatement_91 : decode cX5_readStatement 91 = .ok (.ifCond .ne 12, 3) := by decide +kernel
theorem dX5_readStatement_94 : decode cX5_readStatement 94 = .ok (.aload_n 0, 1) := by decide +kernel
theorem dX5_readStatement_95 : decode cX5_readStatement 95 = .ok (.invokevirtual 142, 3) := by decide +kernel
theorem dX5_readStatement_98 : decode cX5_readStatement 98 = .ok (.bipush 59, 2) := by decide +kernel
theorem dX5_readStatement_100 : decode cX5_readStatement 100 = .ok (.if_icmp .eq 7, 3) := by decide +kernel
theorem dX5_readStatement_103 : decode cX5_readStatement 103 = .ok (.iconst 1, 1) := by decide +kernel
theorem dX5_readStatement_104 : decode cX5_readStatement 104 = .ok (.goto 4, 3) := by decide +kernel
theorem dX5_readStatement_107 : decode cX5_readStatement 107 = .ok (.iconst 0, 1) := by decide +kernel
theorem dX5_readStatement_108 : decode cX5_readStatement 108 = .ok (.putfield 138, 3) := by decide +kernel
theorem dX5_readStatement_111 : decode cX5_readStatement 111 = .ok (.aload_n 0, 1) := by decide +kernel
theorem dX5_readStatement_112 : decode cX5_readStatement 112 = .ok (.dup, 1) := by decide +kernel
theorem dX5_readStatement_113 : decode cX5_readStatement 113 = .ok (.getfield 135, 3) := by decide +kernel
theorem dX5_readStatement_116 : decode cX5_readStatement 116 = .ok (.aload_n 0, 1) := by decide +kernel
theorem dX5_readStatement_117 : decode cX5_readStatement 117 = .ok (.getfield 138, 3) := by decide +kernel
theorem dX5_readStatement_120 : decode cX5_readStatement 120 = .ok (.ifCond .eq 7, 3) := by decide +kernel
theorem dX5_readStatement_123 : decode cX5_readStatement 123 = .ok (.iconst 0, 1) := by decide +kernel
theorem dX5_readStatement_124 : decode cX5_readStatement 124 = .ok (.goto 4, 3) := by decide +kernel
theorem dX5_readStatement_127 : decode cX5_readStatement 127 = .ok (.iconst 1, 1) := by decide +kernel
theorem dX5_readStatement_128 : decode cX5_readStatement 128 = .ok (.iadd, 1) := by decide +kernel
theorem dX5_readStatement_129 : decode cX5_readStatement 129 = .ok (.putfield 135, 3) := by decide +kernel
theorem dX5_readStatement_132 : decode cX5_readStatement 132 = .ok (.aload_n 0, 1) := by decide +kernel
theorem dX5_readStatement_133 : decode cX5_readStatement 133 = .ok (.dup, 1) := by decide +kernel
theorem dX5_readStatement_134 : decode cX5_readStatement 134 = .ok (.getfield 153, 3) := by decide +kernel
theorem dX5_readStatement_137 : decode cX5_readStatement 137 = .ok (.iconst 1, 1) := by decide +kernel
theorem dX5_readStatement_138 : decode cX5_readStatement 138 = .ok (.iadd, 1) := by decide +kernel
theorem dX5_readStatement_139 : decode cX5_readStatement 139 = .ok (.putfield 153, 3) := by decide +kernel
theorem dX5_readStatement_142 : decode cX5_readStatement 142 = .ok (.return_, 1) := by decide +kernel
theorem dX5_oneComes_0 : decode cX5_oneComes 0 = .ok (.aload_n 0, 1) := by decide +kernel
theorem dX5_oneComes_1 : decode cX5_oneComes 1 = .ok (.getfield 7, 3) := by decide +kernel
theorem dX5_oneComes_4 : decode cX5_oneComes 4 = .ok (.aload_n 0, 1) := by decide +kernel
theorem dX5_oneComes_5 : decode cX5_oneComes 5 = .ok (.getfield 77, 3) := by decide +kernel
theorem dX5_oneComes_8 : decode cX5_oneComes 8 = .ok (.iload_n 1, 1) := by decide +kernel
theorem dX5_oneComes_9 : decode cX5_oneComes 9 = .ok (.iastore, 1) := by decide +kernel
theorem dX5_oneComes_10 : decode cX5_oneComes 10 = .ok (.aload_n 0, 1) := by decide +kernel
theorem dX5_oneComes_11 : decode cX5_oneComes 11 = .ok (.getfield 13, 3) := by decide +kernel
theorem dX5_oneComes_14 : decode cX5_oneComes 14 = .ok (.aload_n 0, 1) := by decide +kernel
theorem dX5_oneComes_15 : decode cX5_oneComes 15 = .ok (.getfield 77, 3) := by decide +kernel
theorem dX5_oneComes_18 : decode cX5_oneComes 18 = .ok (.iconst 0, 1) := by decide +kernel
theorem dX5_oneComes_19 : decode cX5_oneComes 19 = .ok (.iastore, 1) := by decide +kernel
theorem dX5_oneComes_20 : decode cX5_oneComes 20 = .ok (.aload_n 0, 1) := by decide +kernel
theorem dX5_oneComes_21 : decode cX5_oneComes 21 = .ok (.getfield 16, 3) := by decide +kernel
theorem dX5_oneComes_24 : decode cX5_oneComes 24 = .ok (.aload_n 0, 1) := by decide +kernel
theorem dX5_oneComes_25 : decode cX5_oneComes 25 = .ok (.getfield 77, 3) := by decide +kernel
theorem dX5_oneComes_28 : decode cX5_oneComes 28 = .ok (.iconst 0, 1) := by decide +kernel
theorem dX5_oneComes_29 : decode cX5_oneComes 29 = .ok (.iastore, 1) := by decide +kernel
theorem dX5_oneComes_30 : decode cX5_oneComes 30 = .ok (.aload_n 0, 1) := by decide +kernel
theorem dX5_oneComes_31 : decode cX5_oneComes 31 = .ok (.getfield 19, 3) := by decide +kernel
theorem dX5_oneComes_34 : decode cX5_oneComes 34 = .ok (.aload_n 0, 1) := by decide +kernel
theorem dX5_oneComes_35 : decode cX5_oneComes 35 = .ok (.getfield 77, 3) := by decide +kernel
theorem dX5_oneComes_38 : decode cX5_oneComes 38 = .ok (.iconst 0, 1) := by decide +kernel
theorem dX5_oneComes_39 : decode cX5_oneComes 39 = .ok (.iastore, 1) := by decide +kernel
theorem dX5_oneComes_40 : decode cX5_oneComes 40 = .ok (.aload_n 0, 1) := by decide +kernel
theorem dX5_oneComes_41 : decode cX5_oneComes 41 = .ok (.dup, 1) := by decide +kernel
theorem dX5_oneComes_42 : decode cX5_oneComes 42 = .ok (.getfield 77, 3) := by decide +kernel
theorem dX5_oneComes_45 : decode cX5_oneComes 45 = .ok (.iconst 1, 1) := by decide +kernel
theorem dX5_oneComes_46 : decode cX5_oneComes 46 = .ok (.iadd, 1) := by decide +kernel
theorem dX5_oneComes_47 : decode cX5_oneComes 47 = .ok (.putfield 77, 3) := by decide +kernel
theorem dX5_oneComes_50 : decode cX5_oneComes 50 = .ok (.return_, 1) := by decide +kernel
theorem dX5_oneDies_0 : decode cX5_oneDies 0 = .ok (.aload_n 0, 1) := by decide +kernel
theorem dX5_oneDies_1 : decode cX5_oneDies 1 = .ok (.getfield 22, 3) := by decide +kernel
theorem dX5_oneDies_4 : decode cX5_oneDies 4 = .ok (.aload_n 0, 1) := by decide +kernel
theorem dX5_oneDies_5 : decode cX5_oneDies 5 = .ok (.getfield 84, 3) := by decide +kernel
theorem dX5_oneDies_8 : decode cX5_oneDies 8 = .ok (.iload_n 1, 1) := by decide +kernel
theorem dX5_oneDies_9 : decode cX5_oneDies 9 = .ok (.iastore, 1) := by decide +kernel
theorem dX5_oneDies_10 : decode cX5_oneDies 10 = .ok (.aload_n 0, 1) := by decide +kernel
theorem dX5_oneDies_11 : decode cX5_oneDies 11 = .ok (.getfield 25, 3) := by decide +kernel
theorem dX5_oneDies_14 : decode cX5_oneDies 14 = .ok (.aload_n 0, 1) := by decide +kernel
theorem dX5_oneDies_15 : decode cX5_oneDies 15 = .ok (.getfield 84, 3) := by decide +kernel
theorem dX5_oneDies_18 : decode cX5_oneDies 18 = .ok (.iload_n 2, 1) := by decide +kernel
theorem dX5_oneDies_19 : decode cX5_oneDies 19 = .ok (.iastore, 1) := by decide +kernel
theorem dX5_oneDies_20 : decode cX5_oneDies 20 = .ok (.aload_n 0, 1) := by decide +kernel
theorem dX5_oneDies_21 : decode cX5_oneDies 21 = .ok (.getfield 28, 3) := by decide +kernel
theorem dX5_oneDies_24 : decode cX5_oneDies 24 = .ok (.aload_n 0, 1) := by decide +kernel
theorem dX5_oneDies_25 : decode cX5_oneDies 25 = .ok (.getfield 84, 3) := by decide +kernel
theorem dX5_oneDies_28 : decode cX5_oneDies 28 = .ok (.iload_n 3, 1) := by decide +kernel
theorem dX5_oneDies_29 : decode cX5_oneDies 29 = .ok (.iastore, 1) := by decide +kernel
theorem dX5_oneDies_30 : decode cX5_oneDies 30 = .ok (.aload_n 0, 1) := by decide +kernel
theorem dX5_oneDies_31 : decode cX5_oneDies 31 = .ok (.dup, 1) := by decide +kernel
theorem dX5_oneDies_32 : decode cX5_oneDies 32 = .ok (.getfield 84, 3) := by decide +kernel
theorem dX5_oneDies_35 : decode cX5_oneDies 35 = .ok (.iconst 1, 1) := by decide +kernel
theorem dX5_oneDies_36 : decode cX5_oneDies 36 = .ok (.iadd, 1) := by decide +kernel
theorem dX5_oneDies_37 : decode cX5_oneDies 37 = .ok (.putfield 84, 3) := by decide +kernel
theorem dX5_oneDies_40 : decode cX5_oneDies 40 = .ok (.return_, 1) := by decide +kernel
theorem dX5_hoursCome_0 : decode cX5_hoursCome 0 = .ok (.aload_n 0, 1) := by decide +kernel
theorem dX5_hoursCome_1 : decode cX5_hoursCome 1 = .ok (.iload_n 1, 1) := by decide +kernel
theorem dX5_hoursCome_2 : decode cX5_hoursCome 2 = .ok (.invokevirtual 164, 3) := by decide +kernel
theorem dX5_hoursCome_5 : decode cX5_hoursCome 5 = .ok (.ifCond .eq 18, 3) := by decide +kernel
theorem dX5_hoursCome_8 : decode cX5_hoursCome 8 = .ok (.iload_n 2, 1) := by decide +kernel
theorem dX5_hoursCome_9 : decode cX5_hoursCome 9 = .ok (.iload_n 3, 1) := by decide +kernel
theorem dX5_hoursCome_10 : decode cX5_hoursCome 10 = .ok (.if_icmp .gt 13, 3) := by decide +kernel
theorem dX5_hoursCome_13 : decode cX5_hoursCome 13 = .ok (.iload_n 3, 1) := by decide +kernel
theorem dX5_hoursCome_14 : decode cX5_hoursCome 14 = .ok (.bipush 24, 2) := by decide +kernel
theorem dX5_hoursCome_16 : decode cX5_hoursCome 16 = .ok (.if_icmp .ge 7, 3) := by decide +kernel
theorem dX5_hoursCome_19 : decode cX5_hoursCome 19 = .ok (.iconst 1, 1) := by decide +kernel
theorem dX5_hoursCome_20 : decode cX5_hoursCome 20 = .ok (.goto 4, 3) := by decide +kernel
theorem dX5_hoursCome_23 : decode cX5_hoursCome 23 = .ok (.iconst 0, 1) := by decide +kernel
theorem dX5_hoursCome_24 : decode cX5_hoursCome 24 = .ok (.istore 5, 2) := by decide +kernel
theorem dX5_hoursCome_26 : decode cX5_hoursCome 26 = .ok (.iload_n 2, 1) := by decide +kernel
theorem dX5_hoursCome_27 : decode cX5_hoursCome 27 = .ok (.istore 6, 2) := by decide +kernel
theorem dX5_hoursCome_29 : decode cX5_hoursCome 29 = .ok (.iload 6, 2) := by decide +kernel
theorem dX5_hoursCome_31 : decode cX5_hoursCome 31 = .ok (.iload_n 3, 1) := by decide +kernel
theorem dX5_hoursCome_32 : decode cX5_hoursCome 32 = .ok (.if_icmp .gt 52, 3) := by decide +kernel
theorem dX5_hoursCome_35 : decode cX5_hoursCome 35 = .ok (.iload 5, 2) := by decide +kernel
theorem dX5_hoursCome_37 : decode cX5_hoursCome 37 = .ok (.ifCond .eq 47, 3) := by decide +kernel
theorem dX5_hoursCome_40 : decode cX5_hoursCome 40 = .ok (.aload_n 0, 1) := by decide +kernel
theorem dX5_hoursCome_41 : decode cX5_hoursCome 41 = .ok (.getfield 13, 3) := by decide +kernel
theorem dX5_hoursCome_44 : decode cX5_hoursCome 44 = .ok (.iload_n 1, 1) := by decide +kernel
theorem dX5_hoursCome_45 : decode cX5_hoursCome 45 = .ok (.iload 4, 2) := by decide +kernel
theorem dX5_hoursCome_47 : decode cX5_hoursCome 47 = .ok (.ifCond .eq 17, 3) := by decide +kernel
theorem dX5_hoursCome_50 : decode cX5_hoursCome 50 = .ok (.aload_n 0, 1) := by decide +kernel
theorem dX5_hoursCome_51 : decode cX5_hoursCome 51 = .ok (.getfield 13, 3) := by decide +kernel
theorem dX5_hoursCome_54 : decode cX5_hoursCome 54 = .ok (.iload_n 1, 1) := by decide +kernel
theorem dX5_hoursCome_55 : decode cX5_hoursCome 55 = .ok (.iaload, 1) := by decide +kernel
theorem dX5_hoursCome_56 : decode cX5_hoursCome 56 = .ok (.iconst 1, 1) := by decide +kernel
theorem dX5_hoursCome_57 : decode cX5_hoursCome 57 = .ok (.iload 6, 2) := by decide +kernel
theorem dX5_hoursCome_59 : decode cX5_hoursCome 59 = .ok (.ishl, 1) := by decide +kernel
theorem dX5_hoursCome_60 : decode cX5_hoursCome 60 = .ok (.ior, 1) := by decide +kernel
theorem dX5_hoursCome_61 : decode cX5_hoursCome 61 = .ok (.goto 16, 3) := by decide +kernel
theorem dX5_hoursCome_64 : decode cX5_hoursCome 64 = .ok (.aload_n 0, 1) := by decide +kernel
theorem dX5_hoursCome_65 : decode cX5_hoursCome 65 = .ok (.getfield 13, 3) := by decide +kernel
theorem dX5_hoursCome_68 : decode cX5_hoursCome 68 = .ok (.iload_n 1, 1) := by decide +kernel
theorem dX5_hoursCome_69 : decode cX5_hoursCome 69 = .ok (.iaload, 1) := by decide +kernel
theorem dX5_hoursCome_70 : decode cX5_hoursCome 70 = .ok (.iconst 1, 1) := by decide +kernel
theorem dX5_hoursCome_71 : decode cX5_hoursCome 71 = .ok (.iload 6, 2) := by decide +kernel
theorem dX5_hoursCome_73 : decode cX5_hoursCome 73 = .ok (.ishl, 1) := by decide +kernel
theorem dX5_hoursCome_74 : decode cX5_hoursCome 74 = .ok (.iconst (-1), 1) := by decide +kernel
theorem dX5_hoursCome_75 : decode cX5_hoursCome 75 = .ok (.ixor, 1) := by decide +kernel
theorem dX5_hoursCome_76 : decode cX5_hoursCome 76 = .ok (.iand, 1) := by decide +kernel
theorem dX5_hoursCome_77 : decode cX5_hoursCome 77 = .ok (.iastore, 1) := by decide +kernel
theorem dX5_hoursCome_78 : decode cX5_hoursCome 78 = .ok (.iinc 6 1, 3) := by decide +kernel
theorem dX5_hoursCome_81 : decode cX5_hoursCome 81 = .ok (.goto (-52), 3) := by decide +kernel
theorem dX5_hoursCome_84 : decode cX5_hoursCome 84 = .ok (.iload 5, 2) := by decide +kernel
theorem dX5_hoursCome_86 : decode cX5_hoursCome 86 = .ok (.ireturn, 1) := by decide +kernel
theorem dX5_comesTold_0 : decode cX5_comesTold 0 = .ok (.aload_n 0, 1) := by decide +kernel
theorem dX5_comesTold_1 : decode cX5_comesTold 1 = .ok (.getfield 55, 3) := by decide +kernel
theorem dX5_comesTold_4 : decode cX5_comesTold 4 = .ok (.iconst 3, 1) := by decide +kernel
theorem dX5_comesTold_5 : decode cX5_comesTold 5 = .ok (.iload_n 1, 1) := by decide +kernel
theorem dX5_comesTold_6 : decode cX5_comesTold 6 = .ok (.imul, 1) := by decide +kernel
theorem dX5_comesTold_7 : decode cX5_comesTold 7 = .ok (.iaload, 1) := by decide +kernel
theorem dX5_comesTold_8 : decode cX5_comesTold 8 = .ok (.istore_n 2, 1) := by decide +kernel
theorem dX5_comesTold_9 : decode cX5_comesTold 9 = .ok (.aload_n 0, 1) := by decide +kernel
theorem dX5_comesTold_10 : decode cX5_comesTold 10 = .ok (.getfield 55, 3) := by decide +kernel
theorem dX5_comesTold_13 : decode cX5_comesTold 13 = .ok (.iconst 3, 1) := by decide +kernel
theorem dX5_comesTold_14 : decode cX5_comesTold 14 = .ok (.iload_n 1, 1) := by decide +kernel
theorem dX5_comesTold_15 : decode cX5_comesTold 15 = .ok (.imul, 1) := by decide +kernel
theorem dX5_comesTold_16 : decode cX5_comesTold 16 = .ok (.iconst 1, 1) := by decide +kernel
theorem dX5_comesTold_17 : decode cX5_comesTold 17 = .ok (.iadd, 1) := by decide +kernel
theorem dX5_comesTold_18 : decode cX5_comesTold 18 = .ok (.iaload, 1) := by decide +kernel
theorem dX5_comesTold_19 : decode cX5_comesTold 19 = .ok (.istore_n 3, 1) := by decide +kernel
theorem dX5_comesTold_20 : decode cX5_comesTold 20 = .ok (.iconst 1, 1) := by decide +kernel
theorem dX5_comesTold_21 : decode cX5_comesTold 21 = .ok (.istore 4, 2) := by decide +kernel
theorem dX5_comesTold_23 : decode cX5_comesTold 23 = .ok (.aload_n 0, 1) := by decide +kernel
theorem dX5_comesTold_24 : decode cX5_comesTold 24 = .ok (.getfield 52, 3) := by decide +kernel
theorem dX5_comesTold_27 : decode cX5_comesTold 27 = .ok (.iload_n 1, 1) := by decide +kernel
theorem dX5_comesTold_28 : decode cX5_comesTold 28 = .ok (.iaload, 1) := by decide +kernel
theorem dX5_comesTold_29 : decode cX5_comesTold 29 = .ok (.lookupswitch 197 #[(99, 150), (100, 86), (111, 132), (112, 51), (115, 168)], 51) := by decide +kernel
theorem dX5_comesTold_80 : decode cX5_comesTold 80 = .ok (.iload_n 2, 1) := by decide +kernel
theorem dX5_comesTold_81 : decode cX5_comesTold 81 = .ok (.bipush 64, 2) := by decide +kernel
theorem dX5_comesTold_83 : decode cX5_comesTold 83 = .ok (.if_icmp .ge 16, 3) := by decide +kernel
theorem dX5_comesTold_86 : decode cX5_comesTold 86 = .ok (.aload_n 0, 1) := by decide +kernel
theorem dX5_comesTold_87 : decode cX5_comesTold 87 = .ok (.getfield 77, 3) := by decide +kernel
theorem dX5_comesTold_90 : decode cX5_comesTold 90 = .ok (.bipush 7, 2) := by decide +kernel
theorem dX5_comesTold_92 : decode cX5_comesTold 92 = .ok (.if_icmp .ge 7, 3) := by decide +kernel
theorem dX5_comesTold_95 : decode cX5_comesTold 95 = .ok (.iconst 1, 1) := by decide +kernel
theorem dX5_comesTold_96 : decode cX5_comesTold 96 = .ok (.goto 4, 3) := by decide +kernel
theorem dX5_comesTold_99 : decode cX5_comesTold 99 = .ok (.iconst 0, 1) := by decide +kernel
theorem dX5_comesTold_100 : decode cX5_comesTold 100 = .ok (.istore 4, 2) := by decide +kernel
theorem dX5_comesTold_102 : decode cX5_comesTold 102 = .ok (.iload 4, 2) := by decide +kernel
theorem dX5_comesTold_104 : decode cX5_comesTold 104 = .ok (.ifCond .eq 8, 3) := by decide +kernel
theorem dX5_comesTold_107 : decode cX5_comesTold 107 = .ok (.aload_n 0, 1) := by decide +kernel
theorem dX5_comesTold_108 : decode cX5_comesTold 108 = .ok (.iload_n 2, 1) := by decide +kernel
theorem dX5_comesTold_109 : decode cX5_comesTold 109 = .ok (.invokevirtual 167, 3) := by decide +kernel
theorem dX5_comesTold_112 : decode cX5_comesTold 112 = .ok (.iload 4, 2) := by decide +kernel
theorem dX5_comesTold_114 : decode cX5_comesTold 114 = .ok (.ireturn, 1) := by decide +kernel
theorem dX5_comesTold_115 : decode cX5_comesTold 115 = .ok (.iload_n 2, 1) := by decide +kernel
theorem dX5_comesTold_116 : decode cX5_comesTold 116 = .ok (.bipush 6, 2) := by decide +kernel
theorem dX5_comesTold_118 : decode cX5_comesTold 118 = .ok (.if_icmp .ge 16, 3) := by decide +kernel
theorem dX5_comesTold_121 : decode cX5_comesTold 121 = .ok (.aload_n 0, 1) := by decide +kernel
theorem dX5_comesTold_122 : decode cX5_comesTold 122 = .ok (.getfield 84, 3) := by decide +kernel
theorem dX5_comesTold_125 : decode cX5_comesTold 125 = .ok (.bipush 6, 2) := by decide +kernel
theorem dX5_comesTold_127 : decode cX5_comesTold 127 = .ok (.if_icmp .ge 7, 3) := by decide +kernel
theorem dX5_comesTold_130 : decode cX5_comesTold 130 = .ok (.iconst 1, 1) := by decide +kernel
theorem dX5_comesTold_131 : decode cX5_comesTold 131 = .ok (.goto 4, 3) := by decide +kernel
theorem dX5_comesTold_134 : decode cX5_comesTold 134 = .ok (.iconst 0, 1) := by decide +kernel
theorem dX5_comesTold_135 : decode cX5_comesTold 135 = .ok (.istore 4, 2) := by decide +kernel
theorem dX5_comesTold_137 : decode cX5_comesTold 137 = .ok (.iload 4, 2) := by decide +kernel
theorem dX5_comesTold_139 : decode cX5_comesTold 139 = .ok (.ifCond .eq 19, 3) := by decide +kernel
theorem dX5_comesTold_142 : decode cX5_comesTold 142 = .ok (.aload_n 0, 1) := by decide +kernel
theorem dX5_comesTold_143 : decode cX5_comesTold 143 = .ok (.iload_n 2, 1) := by decide +kernel
theorem dX5_comesTold_144 : decode cX5_comesTold 144 = .ok (.iload_n 3, 1) := by decide +kernel
theorem dX5_comesTold_145 : decode cX5_comesTold 145 = .ok (.aload_n 0, 1) := by decide +kernel
theorem dX5_comesTold_146 : decode cX5_comesTold 146 = .ok (.getfield 55, 3) := by decide +kernel
theorem dX5_comesTold_149 : decode cX5_comesTold 149 = .ok (.iconst 3, 1) := by decide +kernel
theorem dX5_comesTold_150 : decode cX5_comesTold 150 = .ok (.iload_n 1, 1) := by decide +kernel
theorem dX5_comesTold_151 : decode cX5_comesTold 151 = .ok (.imul, 1) := by decide +kernel
theorem dX5_comesTold_152 : decode cX5_comesTold 152 = .ok (.iconst 2, 1) := by decide +kernel
theorem dX5_comesTold_153 : decode cX5_comesTold 153 = .ok (.iadd, 1) := by decide +kernel
theorem dX5_comesTold_154 : decode cX5_comesTold 154 = .ok (.iaload, 1) := by decide +kernel
theorem dX5_comesTold_155 : decode cX5_comesTold 155 = .ok (.invokevirtual 170, 3) := by decide +kernel
theorem dX5_comesTold_158 : decode cX5_comesTold 158 = .ok (.iload 4, 2) := by decide +kernel
theorem dX5_comesTold_160 : decode cX5_comesTold 160 = .ok (.ireturn, 1) := by decide +kernel
theorem dX5_comesTold_161 : decode cX5_comesTold 161 = .ok (.aload_n 0, 1) := by decide +kernel
theorem dX5_comesTold_162 : decode cX5_comesTold 162 = .ok (.iload_n 2, 1) := by decide +kernel
theorem dX5_comesTold_163 : decode cX5_comesTold 163 = .ok (.iload_n 3, 1) := by decide +kernel
theorem dX5_comesTold_164 : decode cX5_comesTold 164 = .ok (.aload_n 0, 1) := by decide +kernel
theorem dX5_comesTold_165 : decode cX5_comesTold 165 = .ok (.getfield 55, 3) := by decide +kernel
theorem dX5_comesTold_168 : decode cX5_comesTold 168 = .ok (.iconst 3, 1) := by decide +kernel
theorem dX5_comesTold_169 : decode cX5_comesTold 169 = .ok (.iload_n 1, 1) := by decide +kernel
theorem dX5_comesTold_170 : decode cX5_comesTold 170 = .ok (.imul, 1) := by decide +kernel
theorem dX5_comesTold_171 : decode cX5_comesTold 171 = .ok (.iconst 2, 1) := by decide +kernel
theorem dX5_comesTold_172 : decode cX5_comesTold 172 = .ok (.iadd, 1) := by decide +kernel
theorem dX5_comesTold_173 : decode cX5_comesTold 173 = .ok (.iaload, 1) := by decide +kernel
theorem dX5_comesTold_174 : decode cX5_comesTold 174 = .ok (.iconst 1, 1) := by decide +kernel
theorem dX5_comesTold_175 : decode cX5_comesTold 175 = .ok (.invokevirtual 174, 3) := by decide +kernel
theorem dX5_comesTold_178 : decode cX5_comesTold 178 = .ok (.ireturn, 1) := by decide +kernel
theorem dX5_comesTold_179 : decode cX5_comesTold 179 = .ok (.aload_n 0, 1) := by decide +kernel
theorem dX5_comesTold_180 : decode cX5_comesTold 180 = .ok (.iload_n 2, 1) := by decide +kernel
theorem dX5_comesTold_181 : decode cX5_comesTold 181 = .ok (.iload_n 3, 1) := by decide +kernel
theorem dX5_comesTold_182 : decode cX5_comesTold 182 = .ok (.aload_n 0, 1) := by decide +kernel
theorem dX5_comesTold_183 : decode cX5_comesTold 183 = .ok (.getfield 55, 3) := by decide +kernel
theorem dX5_comesTold_186 : decode cX5_comesTold 186 = .ok (.iconst 3, 1) := by decide +kernel
theorem dX5_comesTold_187 : decode cX5_comesTold 187 = .ok (.iload_n 1, 1) := by decide +kernel
theorem dX5_comesTold_188 : decode cX5_comesTold 188 = .ok (.imul, 1) := by decide +kernel
theorem dX5_comesTold_189 : decode cX5_comesTold 189 = .ok (.iconst 2, 1) := by decide +kernel
theorem dX5_comesTold_190 : decode cX5_comesTold 190 = .ok (.iadd, 1) := by decide +kernel
theorem dX5_comesTold_191 : decode cX5_comesTold 191 = .ok (.iaload, 1) := by decide +kernel
theorem dX5_comesTold_192 : decode cX5_comesTold 192 = .ok (.iconst 0, 1) := by decide +kernel
theorem dX5_comesTold_193 : decode cX5_comesTold 193 = .ok (.invokevirtual 174, 3) := by decide +kernel
theorem dX5_comesTold_196 : decode cX5_comesTold 196 = .ok (.ireturn, 1) := by decide +kernel
theorem dX5_comesTold_197 : decode cX5_comesTold 197 = .ok (.aload_n 0, 1) := by decide +kernel
theorem dX5_comesTold_198 : decode cX5_comesTold 198 = .ok (.iload_n 2, 1) := by decide +kernel
theorem dX5_comesTold_199 : decode cX5_comesTold 199 = .ok (.invokevirtual 164, 3) := by decide +kernel
theorem dX5_comesTold_202 : decode cX5_comesTold 202 = .ok (.istore 4, 2) := by decide +kernel
theorem dX5_comesTold_204 : decode cX5_comesTold 204 = .ok (.iload 4, 2) := by decide +kernel
theorem dX5_comesTold_206 : decode cX5_comesTold 206 = .ok (.ifCond .eq 17, 3) := by decide +kernel
theorem dX5_comesTold_209 : decode cX5_comesTold 209 = .ok (.aload_n 0, 1) := by decide +kernel
theorem dX5_comesTold_210 : decode cX5_comesTold 210 = .ok (.getfield 16, 3) := by decide +kernel
theorem dX5_comesTold_213 : decode cX5_comesTold 213 = .ok (.iload_n 2, 1) := by decide +kernel
theorem dX5_comesTold_214 : decode cX5_comesTold 214 = .ok (.iconst 1, 1) := by decide +kernel
theorem dX5_comesTold_215 : decode cX5_comesTold 215 = .ok (.aload_n 0, 1) := by decide +kernel
theorem dX5_comesTold_216 : decode cX5_comesTold 216 = .ok (.getfield 16, 3) := by decide +kernel
theorem dX5_comesTold_219 : decode cX5_comesTold 219 = .ok (.iload_n 2, 1) := by decide +kernel
theorem dX5_comesTold_220 : decode cX5_comesTold 220 = .ok (.iaload, 1) := by decide +kernel
theorem dX5_comesTold_221 : decode cX5_comesTold 221 = .ok (.isub, 1) := by decide +kernel
theorem dX5_comesTold_222 : decode cX5_comesTold 222 = .ok (.iastore, 1) := by decide +kernel
theorem dX5_comesTold_223 : decode cX5_comesTold 223 = .ok (.iload 4, 2) := by decide +kernel
theorem dX5_comesTold_225 : decode cX5_comesTold 225 = .ok (.ireturn, 1) := by decide +kernel
theorem dX5_comesTold_226 : decode cX5_comesTold 226 = .ok (.aload_n 0, 1) := by decide +kernel
theorem dX5_comesTold_227 : decode cX5_comesTold 227 = .ok (.iload_n 2, 1) := by decide +kernel
theorem dX5_comesTold_228 : decode cX5_comesTold 228 = .ok (.invokevirtual 164, 3) := by decide +kernel
theorem dX5_comesTold_231 : decode cX5_comesTold 231 = .ok (.istore 4, 2) := by decide +kernel
theorem dX5_comesTold_233 : decode cX5_comesTold 233 = .ok (.iload 4, 2) := by decide +kernel
theorem dX5_comesTold_235 : decode cX5_comesTold 235 = .ok (.ifCond .eq 15, 3) := by decide +kernel
theorem dX5_comesTold_238 : decode cX5_comesTold 238 = .ok (.aload_n 0, 1) := by decide +kernel
theorem dX5_comesTold_239 : decode cX5_comesTold 239 = .ok (.getfield 19, 3) := by decide +kernel
theorem dX5_comesTold_242 : decode cX5_comesTold 242 = .ok (.iload_n 2, 1) := by decide +kernel
theorem dX5_comesTold_243 : decode cX5_comesTold 243 = .ok (.dup2, 1) := by decide +kernel
theorem dX5_comesTold_244 : decode cX5_comesTold 244 = .ok (.iaload, 1) := by decide +kernel
theorem dX5_comesTold_245 : decode cX5_comesTold 245 = .ok (.iconst 1, 1) := by decide +kernel
theorem dX5_comesTold_246 : decode cX5_comesTold 246 = .ok (.iload_n 3, 1) := by decide +kernel
theorem dX5_comesTold_247 : decode cX5_comesTold 247 = .ok (.ishl, 1) := by decide +kernel
theorem dX5_comesTold_248 : decode cX5_comesTold 248 = .ok (.ior, 1) := by decide +kernel
theorem dX5_comesTold_249 : decode cX5_comesTold 249 = .ok (.iastore, 1) := by decide +kernel
theorem dX5_comesTold_250 : decode cX5_comesTold 250 = .ok (.iload 4, 2) := by decide +kernel
theorem dX5_comesTold_252 : decode cX5_comesTold 252 = .ok (.ireturn, 1) := by decide +kernel
theorem dX5_family_0 : decode cX5_family 0 = .ok (.aload_n 0, 1) := by decide +kernel
theorem dX5_family_1 : decode cX5_family 1 = .ok (.iconst 0, 1) := by decide +kernel
theorem dX5_family_2 : decode cX5_family 2 = .ok (.putfield 73, 3) := by decide +kernel
theorem dX5_family_5 : decode cX5_family 5 = .ok (.aload_n 0, 1) := by decide +kernel
theorem dX5_family_6 : decode cX5_family 6 = .ok (.iconst 0, 1) := by decide +kernel
theorem dX5_family_7 : decode cX5_family 7 = .ok (.putfield 135, 3) := by decide +kernel
theorem dX5_family_10 : decode cX5_family 10 = .ok (.aload_n 0, 1) := by decide +kernel
theorem dX5_family_11 : decode cX5_family 11 = .ok (.iconst 0, 1) := by decide +kernel
theorem dX5_family_12 : decode cX5_family 12 = .ok (.putfield 138, 3) := by decide +kernel
theorem dX5_family_15 : decode cX5_family 15 = .ok (.aload_n 0, 1) := by decide +kernel
theorem dX5_family_16 : decode cX5_family 16 = .ok (.iconst 0, 1) := by decide +kernel
theorem dX5_family_17 : decode cX5_family 17 = .ok (.putfield 153, 3) := by decide +kernel
theorem dX5_family_20 : decode cX5_family 20 = .ok (.aload_n 0, 1) := by decide +kernel
theorem dX5_family_21 : decode cX5_family 21 = .ok (.getfield 138, 3) := by decide +kernel
theorem dX5_family_24 : decode cX5_family 24 = .ok (.ifCond .ne 28, 3) := by decide +kernel
theorem dX5_family_27 : decode cX5_family 27 = .ok (.aload_n 0, 1) := by decide +kernel
theorem dX5_family_28 : decode cX5_family 28 = .ok (.getfield 153, 3) := by decide +kernel
theorem dX5_family_31 : decode cX5_family 31 = .ok (.ifCond .eq 14, 3) := by decide +kernel
theorem dX5_family_34 : decode cX5_family 34 = .ok (.aload_n 0, 1) := by decide +kernel
theorem dX5_family_35 : decode cX5_family 35 = .ok (.getfield 135, 3) := by decide +kernel
theorem dX5_family_38 : decode cX5_family 38 = .ok (.aload_n 0, 1) := by decide +kernel
theorem dX5_family_39 : decode cX5_family 39 = .ok (.getfield 132, 3) := by decide +kernel
theorem dX5_family_42 : decode cX5_family 42 = .ok (.if_icmp .ge 10, 3) := by decide +kernel
theorem dX5_family_45 : decode cX5_family 45 = .ok (.aload_n 0, 1) := by decide +kernel
theorem dX5_family_46 : decode cX5_family 46 = .ok (.invokevirtual 178, 3) := by decide +kernel
theorem dX5_family_49 : decode cX5_family 49 = .ok (.goto (-29), 3) := by decide +kernel
theorem dX5_family_52 : decode cX5_family 52 = .ok (.aload_n 0, 1) := by decide +kernel
theorem dX5_family_53 : decode cX5_family 53 = .ok (.iconst 0, 1) := by decide +kernel
theorem dX5_family_54 : decode cX5_family 54 = .ok (.putfield 132, 3) := by decide +kernel
theorem dX5_family_57 : decode cX5_family 57 = .ok (.aload_n 0, 1) := by decide +kernel
theorem dX5_family_58 : decode cX5_family 58 = .ok (.getfield 138, 3) := by decide +kernel
theorem dX5_family_61 : decode cX5_family 61 = .ok (.ifCond .eq 12, 3) := by decide +kernel
theorem dX5_family_64 : decode cX5_family 64 = .ok (.sipush (-1000), 3) := by decide +kernel
theorem dX5_family_67 : decode cX5_family 67 = .ok (.aload_n 0, 1) := by decide +kernel
theorem dX5_family_68 : decode cX5_family 68 = .ok (.getfield 135, 3) := by decide +kernel
theorem dX5_family_71 : decode cX5_family 71 = .ok (.isub, 1) := by decide +kernel
theorem dX5_family_72 : decode cX5_family 72 = .ok (.ireturn, 1) := by decide +kernel
theorem dX5_family_73 : decode cX5_family 73 = .ok (.aload_n 0, 1) := by decide +kernel
theorem dX5_family_74 : decode cX5_family 74 = .ok (.aload_n 0, 1) := by decide +kernel
theorem dX5_family_75 : decode cX5_family 75 = .ok (.getfield 58, 3) := by decide +kernel
theorem dX5_family_78 : decode cX5_family 78 = .ok (.iconst 1, 1) := by decide +kernel
theorem dX5_family_79 : decode cX5_family 79 = .ok (.invokevirtual 181, 3) := by decide +kernel
theorem dX5_family_82 : decode cX5_family 82 = .ok (.iconst 0, 1) := by decide +kernel
theorem dX5_family_83 : decode cX5_family 83 = .ok (.istore_n 1, 1) := by decide +kernel
theorem dX5_family_84 : decode cX5_family 84 = .ok (.iload_n 1, 1) := by decide +kernel
theorem dX5_family_85 : decode cX5_family 85 = .ok (.aload_n 0, 1) := by decide +kernel
theorem dX5_family_86 : decode cX5_family 86 = .ok (.getfield 153, 3) := by decide +kernel
theorem dX5_family_89 : decode cX5_family 89 = .ok (.if_icmp .ge 37, 3) := by decide +kernel
theorem dX5_family_92 : decode cX5_family 92 = .ok (.aload_n 0, 1) := by decide +kernel
theorem dX5_family_93 : decode cX5_family 93 = .ok (.iload_n 1, 1) := by decide +kernel
theorem dX5_family_94 : decode cX5_family 94 = .ok (.invokevirtual 185, 3) := by decide +kernel
theorem dX5_family_97 : decode cX5_family 97 = .ok (.ifCond .ne 23, 3) := by decide +kernel
theorem dX5_family_100 : decode cX5_family 100 = .ok (.aload_n 0, 1) := by decide +kernel
theorem dX5_family_101 : decode cX5_family 101 = .ok (.aload_n 0, 1) := by decide +kernel
theorem dX5_family_102 : decode cX5_family 102 = .ok (.getfield 58, 3) := by decide +kernel
theorem dX5_family_105 : decode cX5_family 105 = .ok (.iconst 0, 1) := by decide +kernel
theorem dX5_family_106 : decode cX5_family 106 = .ok (.invokevirtual 181, 3) := by decide +kernel
theorem dX5_family_109 : decode cX5_family 109 = .ok (.sipush (-2000), 3) := by decide +kernel
theorem dX5_family_112 : decode cX5_family 112 = .ok (.aload_n 0, 1) := by decide +kernel
theorem dX5_family_113 : decode cX5_family 113 = .ok (.getfield 49, 3) := by decide +kernel
theorem dX5_family_116 : decode cX5_family 116 = .ok (.iload_n 1, 1) := by decide +kernel
theorem dX5_family_117 : decode cX5_family 117 = .ok (.iaload, 1) := by decide +kernel
theorem dX5_family_118 : decode cX5_family 118 = .ok (.isub, 1) := by decide +kernel
theorem dX5_family_119 : decode cX5_family 119 = .ok (.ireturn, 1) := by decide +kernel
theorem dX5_family_120 : decode cX5_family 120 = .ok (.iinc 1 1, 3) := by decide +kernel
theorem dX5_family_123 : decode cX5_family 123 = .ok (.goto (-39), 3) := by decide +kernel
theorem dX5_family_126 : decode cX5_family 126 = .ok (.aload_n 0, 1) := by decide +kernel
theorem dX5_family_127 : decode cX5_family 127 = .ok (.iconst 0, 1) := by decide +kernel
theorem dX5_family_128 : decode cX5_family 128 = .ok (.putfield 188, 3) := by decide +kernel
theorem dX5_family_131 : decode cX5_family 131 = .ok (.aload_n 0, 1) := by decide +kernel
theorem dX5_family_132 : decode cX5_family 132 = .ok (.getfield 153, 3) := by decide +kernel
theorem dX5_family_135 : decode cX5_family 135 = .ok (.ireturn, 1) := by decide +kernel
theorem dX5_carry_0 : decode cX5_carry 0 = .ok (.aload_n 0, 1) := by decide +kernel
theorem dX5_carry_1 : decode cX5_carry 1 = .ok (.getfield 191, 3) := by decide +kernel
theorem dX5_carry_4 : decode cX5_carry 4 = .ok (.ifCond .eq 13, 3) := by decide +kernel
theorem dX5_carry_7 : decode cX5_carry 7 = .ok (.aload_n 0, 1) := by decide +kernel
theorem dX5_carry_8 : decode cX5_carry 8 = .ok (.getfield 194, 3) := by decide +kernel
theorem dX5_carry_11 : decode cX5_carry 11 = .ok (.aload_n 0, 1) := by decide +kernel
theorem dX5_carry_12 : decode cX5_carry 12 = .ok (.getfield 197, 3) := by decide +kernel
theorem dX5_carry_15 : decode cX5_carry 15 = .ok (.iload_n 1, 1) := by decide +kernel
theorem dX5_carry_16 : decode cX5_carry 16 = .ok (.iastore, 1) := by decide +kernel
theorem dX5_carry_17 : decode cX5_carry 17 = .ok (.aload_n 0, 1) := by decide +kernel
theorem dX5_carry_18 : decode cX5_carry 18 = .ok (.dup, 1) := by decide +kernel
theorem dX5_carry_19 : decode cX5_carry 19 = .ok (.getfield 197, 3) := by decide +kernel
theorem dX5_carry_22 : decode cX5_carry 22 = .ok (.iconst 1, 1) := by decide +kernel
theorem dX5_carry_23 : decode cX5_carry 23 = .ok (.iadd, 1) := by decide +kernel
theorem dX5_carry_24 : decode cX5_carry 24 = .ok (.putfield 197, 3) := by decide +kernel
theorem dX5_carry_27 : decode cX5_carry 27 = .ok (.aload_n 0, 1) := by decide +kernel
theorem dX5_carry_28 : decode cX5_carry 28 = .ok (.getfield 194, 3) := by decide +kernel
theorem dX5_carry_31 : decode cX5_carry 31 = .ok (.aload_n 0, 1) := by decide +kernel
theorem dX5_carry_32 : decode cX5_carry 32 = .ok (.getfield 197, 3) := by decide +kernel
theorem dX5_carry_35 : decode cX5_carry 35 = .ok (.iconst 1, 1) := by decide +kernel
theorem dX5_carry_36 : decode cX5_carry 36 = .ok (.isub, 1) := by decide +kernel
theorem dX5_carry_37 : decode cX5_carry 37 = .ok (.iaload, 1) := by decide +kernel
theorem dX5_carry_38 : decode cX5_carry 38 = .ok (.ireturn, 1) := by decide +kernel
theorem dX5_carryAll_0 : decode cX5_carryAll 0 = .ok (.aload_n 0, 1) := by decide +kernel
theorem dX5_carryAll_1 : decode cX5_carryAll 1 = .ok (.aload_n 1, 1) := by decide +kernel
theorem dX5_carryAll_2 : decode cX5_carryAll 2 = .ok (.putfield 194, 3) := by decide +kernel
theorem dX5_carryAll_5 : decode cX5_carryAll 5 = .ok (.aload_n 0, 1) := by decide +kernel
theorem dX5_carryAll_6 : decode cX5_carryAll 6 = .ok (.iload_n 2, 1) := by decide +kernel
theorem dX5_carryAll_7 : decode cX5_carryAll 7 = .ok (.putfield 191, 3) := by decide +kernel
theorem dX5_carryAll_10 : decode cX5_carryAll 10 = .ok (.aload_n 0, 1) := by decide +kernel
theorem dX5_carryAll_11 : decode cX5_carryAll 11 = .ok (.iconst 0, 1) := by decide +kernel
theorem dX5_carryAll_12 : decode cX5_carryAll 12 = .ok (.putfield 197, 3) := by decide +kernel
theorem dX5_carryAll_15 : decode cX5_carryAll 15 = .ok (.aload_n 0, 1) := by decide +kernel
theorem dX5_carryAll_16 : decode cX5_carryAll 16 = .ok (.aload_n 0, 1) := by decide +kernel
theorem dX5_carryAll_17 : decode cX5_carryAll 17 = .ok (.aload_n 0, 1) := by decide +kernel
theorem dX5_carryAll_18 : decode cX5_carryAll 18 = .ok (.getfield 77, 3) := by decide +kernel
theorem dX5_carryAll_21 : decode cX5_carryAll 21 = .ok (.invokevirtual 200, 3) := by decide +kernel
theorem dX5_carryAll_24 : decode cX5_carryAll 24 = .ok (.putfield 77, 3) := by decide +kernel
theorem dX5_carryAll_27 : decode cX5_carryAll 27 = .ok (.aload_n 0, 1) := by decide +kernel
theorem dX5_carryAll_28 : decode cX5_carryAll 28 = .ok (.aload_n 0, 1) := by decide +kernel
theorem dX5_carryAll_29 : decode cX5_carryAll 29 = .ok (.aload_n 0, 1) := by decide +kernel
theorem dX5_carryAll_30 : decode cX5_carryAll 30 = .ok (.getfield 84, 3) := by decide +kernel
theorem dX5_carryAll_33 : decode cX5_carryAll 33 = .ok (.invokevirtual 200, 3) := by decide +kernel
theorem dX5_carryAll_36 : decode cX5_carryAll 36 = .ok (.putfield 84, 3) := by decide +kernel
theorem dX5_carryAll_39 : decode cX5_carryAll 39 = .ok (.iconst 0, 1) := by decide +kernel
theorem dX5_carryAll_40 : decode cX5_carryAll 40 = .ok (.istore_n 3, 1) := by decide +kernel
theorem dX5_carryAll_41 : decode cX5_carryAll 41 = .ok (.iload_n 3, 1) := by decide +kernel
theorem dX5_carryAll_42 : decode cX5_carryAll 42 = .ok (.bipush 7, 2) := by decide +kernel
theorem dX5_carryAll_44 : decode cX5_carryAll 44 = .ok (.if_icmp .ge 73, 3) := by decide +kernel
theorem dX5_carryAll_47 : decode cX5_carryAll 47 = .ok (.aload_n 0, 1) := by decide +kernel
theorem dX5_carryAll_48 : decode cX5_carryAll 48 = .ok (.getfield 7, 3) := by decide +kernel
theorem dX5_carryAll_51 : decode cX5_carryAll 51 = .ok (.iload_n 3, 1) := by decide +kernel
theorem dX5_carryAll_52 : decode cX5_carryAll 52 = .ok (.aload_n 0, 1) := by decide +kernel
theorem dX5_carryAll_53 : decode cX5_carryAll 53 = .ok (.aload_n 0, 1) := by decide +kernel
theorem dX5_carryAll_54 : decode cX5_carryAll 54 = .ok (.getfield 7, 3) := by decide +kernel
theorem dX5_carryAll_57 : decode cX5_carryAll 57 = .ok (.iload_n 3, 1) := by decide +kernel
theorem dX5_carryAll_58 : decode cX5_carryAll 58 = .ok (.iaload, 1) := by decide +kernel
theorem dX5_carryAll_59 : decode cX5_carryAll 59 = .ok (.invokevirtual 200, 3) := by decide +kernel
theorem dX5_carryAll_62 : decode cX5_carryAll 62 = .ok (.iastore, 1) := by decide +kernel
theorem dX5_carryAll_63 : decode cX5_carryAll 63 = .ok (.aload_n 0, 1) := by decide +kernel
theorem dX5_carryAll_64 : decode cX5_carryAll 64 = .ok (.getfield 13, 3) := by decide +kernel
theorem dX5_carryAll_67 : decode cX5_carryAll 67 = .ok (.iload_n 3, 1) := by decide +kernel
theorem dX5_carryAll_68 : decode cX5_carryAll 68 = .ok (.aload_n 0, 1) := by decide +kernel
theorem dX5_carryAll_69 : decode cX5_carryAll 69 = .ok (.aload_n 0, 1) := by decide +kernel
theorem dX5_carryAll_70 : decode cX5_carryAll 70 = .ok (.getfield 13, 3) := by decide +kernel
theorem dX5_carryAll_73 : decode cX5_carryAll 73 = .ok (.iload_n 3, 1) := by decide +kernel
theorem dX5_carryAll_74 : decode cX5_carryAll 74 = .ok (.iaload, 1) := by decide +kernel
theorem dX5_carryAll_75 : decode cX5_carryAll 75 = .ok (.invokevirtual 200, 3) := by decide +kernel
theorem dX5_carryAll_78 : decode cX5_carryAll 78 = .ok (.iastore, 1) := by decide +kernel
theorem dX5_carryAll_79 : decode cX5_carryAll 79 = .ok (.aload_n 0, 1) := by decide +kernel
theorem dX5_carryAll_80 : decode cX5_carryAll 80 = .ok (.getfield 16, 3) := by decide +kernel
theorem dX5_carryAll_83 : decode cX5_carryAll 83 = .ok (.iload_n 3, 1) := by decide +kernel
theorem dX5_carryAll_84 : decode cX5_carryAll 84 = .ok (.aload_n 0, 1) := by decide +kernel
theorem dX5_carryAll_85 : decode cX5_carryAll 85 = .ok (.aload_n 0, 1) := by decide +kernel
theorem dX5_carryAll_86 : decode cX5_carryAll 86 = .ok (.getfield 16, 3) := by decide +kernel
theorem dX5_carryAll_89 : decode cX5_carryAll 89 = .ok (.iload_n 3, 1) := by decide +kernel
theorem dX5_carryAll_90 : decode cX5_carryAll 90 = .ok (.iaload, 1) := by decide +kernel
theorem dX5_carryAll_91 : decode cX5_carryAll 91 = .ok (.invokevirtual 200, 3) := by decide +kernel
theorem dX5_carryAll_94 : decode cX5_carryAll 94 = .ok (.iastore, 1) := by decide +kernel
theorem dX5_carryAll_95 : decode cX5_carryAll 95 = .ok (.aload_n 0, 1) := by decide +kernel
theorem dX5_carryAll_96 : decode cX5_carryAll 96 = .ok (.getfield 19, 3) := by decide +kernel
theorem dX5_carryAll_99 : decode cX5_carryAll 99 = .ok (.iload_n 3, 1) := by decide +kernel
theorem dX5_carryAll_100 : decode cX5_carryAll 100 = .ok (.aload_n 0, 1) := by decide +kernel
theorem dX5_carryAll_101 : decode cX5_carryAll 101 = .ok (.aload_n 0, 1) := by decide +kernel
theorem dX5_carryAll_102 : decode cX5_carryAll 102 = .ok (.getfield 19, 3) := by decide +kernel
theorem dX5_carryAll_105 : decode cX5_carryAll 105 = .ok (.iload_n 3, 1) := by decide +kernel
theorem dX5_carryAll_106 : decode cX5_carryAll 106 = .ok (.iaload, 1) := by decide +kernel
theorem dX5_carryAll_107 : decode cX5_carryAll 107 = .ok (.invokevirtual 200, 3) := by decide +kernel
theorem dX5_carryAll_110 : decode cX5_carryAll 110 = .ok (.iastore, 1) := by decide +kernel
theorem dX5_carryAll_111 : decode cX5_carryAll 111 = .ok (.iinc 3 1, 3) := by decide +kernel
theorem dX5_carryAll_114 : decode cX5_carryAll 114 = .ok (.goto (-73), 3) := by decide +kernel
theorem dX5_carryAll_117 : decode cX5_carryAll 117 = .ok (.iconst 0, 1) := by decide +kernel
theorem dX5_carryAll_118 : decode cX5_carryAll 118 = .ok (.istore_n 3, 1) := by decide +kernel
theorem dX5_carryAll_119 : decode cX5_carryAll 119 = .ok (.iload_n 3, 1) := by decide +kernel
theorem dX5_carryAll_120 : decode cX5_carryAll 120 = .ok (.bipush 6, 2) := by decide +kernel
theorem dX5_carryAll_122 : decode cX5_carryAll 122 = .ok (.if_icmp .ge 57, 3) := by decide +kernel
theorem dX5_carryAll_125 : decode cX5_carryAll 125 = .ok (.aload_n 0, 1) := by decide +kernel
theorem dX5_carryAll_126 : decode cX5_carryAll 126 = .ok (.getfield 22, 3) := by decide +kernel
theorem dX5_carryAll_129 : decode cX5_carryAll 129 = .ok (.iload_n 3, 1) := by decide +kernel
theorem dX5_carryAll_130 : decode cX5_carryAll 130 = .ok (.aload_n 0, 1) := by decide +kernel
theorem dX5_carryAll_131 : decode cX5_carryAll 131 = .ok (.aload_n 0, 1) := by decide +kernel
theorem dX5_carryAll_132 : decode cX5_carryAll 132 = .ok (.getfield 22, 3) := by decide +kernel
theorem dX5_carryAll_135 : decode cX5_carryAll 135 = .ok (.iload_n 3, 1) := by decide +kernel
theorem dX5_carryAll_136 : decode cX5_carryAll 136 = .ok (.iaload, 1) := by decide +kernel
theorem dX5_carryAll_137 : decode cX5_carryAll 137 = .ok (.invokevirtual 200, 3) := by decide +kernel
theorem dX5_carryAll_140 : decode cX5_carryAll 140 = .ok (.iastore, 1) := by decide +kernel
theorem dX5_carryAll_141 : decode cX5_carryAll 141 = .ok (.aload_n 0, 1) := by decide +kernel
theorem dX5_carryAll_142 : decode cX5_carryAll 142 = .ok (.getfield 25, 3) := by decide +kernel
theorem dX5_carryAll_145 : decode cX5_carryAll 145 = .ok (.iload_n 3, 1) := by decide +kernel
theorem dX5_carryAll_146 : decode cX5_carryAll 146 = .ok (.aload_n 0, 1) := by decide +kernel
theorem dX5_carryAll_147 : decode cX5_carryAll 147 = .ok (.aload_n 0, 1) := by decide +kernel
theorem dX5_carryAll_148 : decode cX5_carryAll 148 = .ok (.getfield 25, 3) := by decide +kernel
theorem dX5_carryAll_151 : decode cX5_carryAll 151 = .ok (.iload_n 3, 1) := by decide +kernel
theorem dX5_carryAll_152 : decode cX5_carryAll 152 = .ok (.iaload, 1) := by decide +kernel
theorem dX5_carryAll_153 : decode cX5_carryAll 153 = .ok (.invokevirtual 200, 3) := by decide +kernel
theorem dX5_carryAll_156 : decode cX5_carryAll 156 = .ok (.iastore, 1) := by decide +kernel
theorem dX5_carryAll_157 : decode cX5_carryAll 157 = .ok (.aload_n 0, 1) := by decide +kernel
theorem dX5_carryAll_158 : decode cX5_carryAll 158 = .ok (.getfield 28, 3) := by decide +kernel
theorem dX5_carryAll_161 : decode cX5_carryAll 161 = .ok (.iload_n 3, 1) := by decide +kernel
theorem dX5_carryAll_162 : decode cX5_carryAll 162 = .ok (.aload_n 0, 1) := by decide +kernel
theorem dX5_carryAll_163 : decode cX5_carryAll 163 = .ok (.aload_n 0, 1) := by decide +kernel
theorem dX5_carryAll_164 : decode cX5_carryAll 164 = .ok (.getfield 28, 3) := by decide +kernel
theorem dX5_carryAll_167 : decode cX5_carryAll 167 = .ok (.iload_n 3, 1) := by decide +kernel
theorem dX5_carryAll_168 : decode cX5_carryAll 168 = .ok (.iaload, 1) := by decide +kernel
theorem dX5_carryAll_169 : decode cX5_carryAll 169 = .ok (.invokevirtual 200, 3) := by decide +kernel
theorem dX5_carryAll_172 : decode cX5_carryAll 172 = .ok (.iastore, 1) := by decide +kernel
theorem dX5_carryAll_173 : decode cX5_carryAll 173 = .ok (.iinc 3 1, 3) := by decide +kernel
theorem dX5_carryAll_176 : decode cX5_carryAll 176 = .ok (.goto (-57), 3) := by decide +kernel
theorem dX5_carryAll_179 : decode cX5_carryAll 179 = .ok (.return_, 1) := by decide +kernel
theorem dX5_think_0 : decode cX5_think 0 = .ok (.aload_n 0, 1) := by decide +kernel
theorem dX5_think_1 : decode cX5_think 1 = .ok (.aload_n 0, 1) := by decide +kernel
theorem dX5_think_2 : decode cX5_think 2 = .ok (.getfield 58, 3) := by decide +kernel
theorem dX5_think_5 : decode cX5_think 5 = .ok (.iconst 1, 1) := by decide +kernel
theorem dX5_think_6 : decode cX5_think 6 = .ok (.invokevirtual 181, 3) := by decide +kernel
theorem dX5_think_9 : decode cX5_think 9 = .ok (.return_, 1) := by decide +kernel
theorem dX5_again_0 : decode cX5_again 0 = .ok (.aload_n 0, 1) := by decide +kernel
theorem dX5_again_1 : decode cX5_again 1 = .ok (.aload_n 0, 1) := by decide +kernel
theorem dX5_again_2 : decode cX5_again 2 = .ok (.getfield 58, 3) := by decide +kernel
theorem dX5_again_5 : decode cX5_again 5 = .ok (.iconst 0, 1) := by decide +kernel
theorem dX5_again_6 : decode cX5_again 6 = .ok (.invokevirtual 181, 3) := by decide +kernel
theorem dX5_again_9 : decode cX5_again 9 = .ok (.aload_n 0, 1) := by decide +kernel
theorem dX5_again_10 : decode cX5_again 10 = .ok (.iconst 0, 1) := by decide +kernel
theorem dX5_again_11 : decode cX5_again 11 = .ok (.putfield 109, 3) := by decide +kernel
theorem dX5_again_14 : decode cX5_again 14 = .ok (.return_, 1) := by decide +kernel
theorem dX5_image_0 : decode cX5_image 0 = .ok (.aload_n 0, 1) := by decide +kernel
theorem dX5_image_1 : decode cX5_image 1 = .ok (.iconst 0, 1) := by decide +kernel
theorem dX5_image_2 : decode cX5_image 2 = .ok (.putfield 73, 3) := by decide +kernel
theorem dX5_image_5 : decode cX5_image 5 = .ok (.aload_n 0, 1) := by decide +kernel
theorem dX5_image_6 : decode cX5_image 6 = .ok (.iconst 1, 1) := by decide +kernel
theorem dX5_image_7 : decode cX5_image 7 = .ok (.putfield 203, 3) := by decide +kernel
theorem dX5_image_10 : decode cX5_image 10 = .ok (.aload_n 0, 1) := by decide +kernel
theorem dX5_image_11 : decode cX5_image 11 = .ok (.aload_n 0, 1) := by decide +kernel
theorem dX5_image_12 : decode cX5_image 12 = .ok (.getfield 61, 3) := by decide +kernel
theorem dX5_image_15 : decode cX5_image 15 = .ok (.iconst 1, 1) := by decide +kernel
theorem dX5_image_16 : decode cX5_image 16 = .ok (.invokevirtual 181, 3) := by decide +kernel
theorem dX5_image_19 : decode cX5_image 19 = .ok (.aload_n 0, 1) := by decide +kernel
theorem dX5_image_20 : decode cX5_image 20 = .ok (.getfield 77, 3) := by decide +kernel
theorem dX5_image_23 : decode cX5_image 23 = .ok (.ireturn, 1) := by decide +kernel
theorem dX5_restore_0 : decode cX5_restore 0 = .ok (.aload_n 0, 1) := by decide +kernel
theorem dX5_restore_1 : decode cX5_restore 1 = .ok (.iconst 0, 1) := by decide +kernel
theorem dX5_restore_2 : decode cX5_restore 2 = .ok (.putfield 73, 3) := by decide +kernel
theorem dX5_restore_5 : decode cX5_restore 5 = .ok (.aload_n 0, 1) := by decide +kernel
theorem dX5_restore_6 : decode cX5_restore 6 = .ok (.getfield 203, 3) := by decide +kernel
theorem dX5_restore_9 : decode cX5_restore 9 = .ok (.ifCond .ne 10, 3) := by decide +kernel
theorem dX5_restore_12 : decode cX5_restore 12 = .ok (.aload_n 0, 1) := by decide +kernel
theorem dX5_restore_13 : decode cX5_restore 13 = .ok (.bipush (-3), 2) := by decide +kernel
theorem dX5_restore_15 : decode cX5_restore 15 = .ok (.invokevirtual 129, 3) := by decide +kernel
theorem dX5_restore_18 : decode cX5_restore 18 = .ok (.ireturn, 1) := by decide +kernel
theorem dX5_restore_19 : decode cX5_restore 19 = .ok (.aload_n 0, 1) := by decide +kernel
theorem dX5_restore_20 : decode cX5_restore 20 = .ok (.aload_n 0, 1) := by decide +kernel
theorem dX5_restore_21 : decode cX5_restore 21 = .ok (.getfield 61, 3) := by decide +kernel
theorem dX5_restore_24 : decode cX5_restore 24 = .ok (.iconst 0, 1) := by decide +kernel
theorem dX5_restore_25 : decode cX5_restore 25 = .ok (.invokevirtual 181, 3) := by decide +kernel
theorem dX5_restore_28 : decode cX5_restore 28 = .ok (.aload_n 0, 1) := by decide +kernel
theorem dX5_restore_29 : decode cX5_restore 29 = .ok (.iconst 0, 1) := by decide +kernel
theorem dX5_restore_30 : decode cX5_restore 30 = .ok (.putfield 188, 3) := by decide +kernel
theorem dX5_restore_33 : decode cX5_restore 33 = .ok (.aload_n 0, 1) := by decide +kernel
theorem dX5_restore_34 : decode cX5_restore 34 = .ok (.getfield 77, 3) := by decide +kernel
theorem dX5_restore_37 : decode cX5_restore 37 = .ok (.ireturn, 1) := by decide +kernel
theorem dX5_keepTurn_0 : decode cX5_keepTurn 0 = .ok (.aload_n 0, 1) := by decide +kernel
theorem dX5_keepTurn_1 : decode cX5_keepTurn 1 = .ok (.getfield 188, 3) := by decide +kernel
theorem dX5_keepTurn_4 : decode cX5_keepTurn 4 = .ok (.bipush 8, 2) := by decide +kernel
theorem dX5_keepTurn_6 : decode cX5_keepTurn 6 = .ok (.if_icmp .ne 44, 3) := by decide +kernel
theorem dX5_keepTurn_9 : decode cX5_keepTurn 9 = .ok (.bipush 48, 2) := by decide +kernel
theorem dX5_keepTurn_11 : decode cX5_keepTurn 11 = .ok (.istore_n 1, 1) := by decide +kernel
theorem dX5_keepTurn_12 : decode cX5_keepTurn 12 = .ok (.iload_n 1, 1) := by decide +kernel
theorem dX5_keepTurn_13 : decode cX5_keepTurn 13 = .ok (.sipush 384, 3) := by decide +kernel
theorem dX5_keepTurn_16 : decode cX5_keepTurn 16 = .ok (.if_icmp .ge 24, 3) := by decide +kernel
theorem dX5_keepTurn_19 : decode cX5_keepTurn 19 = .ok (.aload_n 0, 1) := by decide +kernel
theorem dX5_keepTurn_20 : decode cX5_keepTurn 20 = .ok (.getfield 64, 3) := by decide +kernel
theorem dX5_keepTurn_23 : decode cX5_keepTurn 23 = .ok (.iload_n 1, 1) := by decide +kernel
theorem dX5_keepTurn_24 : decode cX5_keepTurn 24 = .ok (.bipush 48, 2) := by decide +kernel
theorem dX5_keepTurn_26 : decode cX5_keepTurn 26 = .ok (.isub, 1) := by decide +kernel
theorem dX5_keepTurn_27 : decode cX5_keepTurn 27 = .ok (.aload_n 0, 1) := by decide +kernel
theorem dX5_keepTurn_28 : decode cX5_keepTurn 28 = .ok (.getfield 64, 3) := by decide +kernel
theorem dX5_keepTurn_31 : decode cX5_keepTurn 31 = .ok (.iload_n 1, 1) := by decide +kernel
theorem dX5_keepTurn_32 : decode cX5_keepTurn 32 = .ok (.iaload, 1) := by decide +kernel
theorem dX5_keepTurn_33 : decode cX5_keepTurn 33 = .ok (.iastore, 1) := by decide +kernel
theorem dX5_keepTurn_34 : decode cX5_keepTurn 34 = .ok (.iinc 1 1, 3) := by decide +kernel
theorem dX5_keepTurn_37 : decode cX5_keepTurn 37 = .ok (.goto (-25), 3) := by decide +kernel
theorem dX5_keepTurn_40 : decode cX5_keepTurn 40 = .ok (.aload_n 0, 1) := by decide +kernel
theorem dX5_keepTurn_41 : decode cX5_keepTurn 41 = .ok (.dup, 1) := by decide +kernel
theorem dX5_keepTurn_42 : decode cX5_keepTurn 42 = .ok (.getfield 188, 3) := by decide +kernel
theorem dX5_keepTurn_45 : decode cX5_keepTurn 45 = .ok (.iconst 1, 1) := by decide +kernel
theorem dX5_keepTurn_46 : decode cX5_keepTurn 46 = .ok (.isub, 1) := by decide +kernel
theorem dX5_keepTurn_47 : decode cX5_keepTurn 47 = .ok (.putfield 188, 3) := by decide +kernel
theorem dX5_keepTurn_50 : decode cX5_keepTurn 50 = .ok (.aload_n 0, 1) := by decide +kernel
theorem dX5_keepTurn_51 : decode cX5_keepTurn 51 = .ok (.aload_n 0, 1) := by decide +kernel
theorem dX5_keepTurn_52 : decode cX5_keepTurn 52 = .ok (.getfield 67, 3) := by decide +kernel
theorem dX5_keepTurn_55 : decode cX5_keepTurn 55 = .ok (.iconst 1, 1) := by decide +kernel
theorem dX5_keepTurn_56 : decode cX5_keepTurn 56 = .ok (.invokevirtual 181, 3) := by decide +kernel
theorem dX5_keepTurn_59 : decode cX5_keepTurn 59 = .ok (.iconst 0, 1) := by decide +kernel
theorem dX5_keepTurn_60 : decode cX5_keepTurn 60 = .ok (.istore_n 1, 1) := by decide +kernel
theorem dX5_keepTurn_61 : decode cX5_keepTurn 61 = .ok (.iload_n 1, 1) := by decide +kernel
theorem dX5_keepTurn_62 : decode cX5_keepTurn 62 = .ok (.bipush 48, 2) := by decide +kernel
theorem dX5_keepTurn_64 : decode cX5_keepTurn 64 = .ok (.if_icmp .ge 29, 3) := by decide +kernel
theorem dX5_keepTurn_67 : decode cX5_keepTurn 67 = .ok (.aload_n 0, 1) := by decide +kernel
theorem dX5_keepTurn_68 : decode cX5_keepTurn 68 = .ok (.getfield 64, 3) := by decide +kernel
theorem dX5_keepTurn_71 : decode cX5_keepTurn 71 = .ok (.bipush 48, 2) := by decide +kernel
theorem dX5_keepTurn_73 : decode cX5_keepTurn 73 = .ok (.aload_n 0, 1) := by decide +kernel
theorem dX5_keepTurn_74 : decode cX5_keepTurn 74 = .ok (.getfield 188, 3) := by decide +kernel
theorem dX5_keepTurn_77 : decode cX5_keepTurn 77 = .ok (.imul, 1) := by decide +kernel
theorem dX5_keepTurn_78 : decode cX5_keepTurn 78 = .ok (.iload_n 1, 1) := by decide +kernel
theorem dX5_keepTurn_79 : decode cX5_keepTurn 79 = .ok (.iadd, 1) := by decide +kernel
theorem dX5_keepTurn_80 : decode cX5_keepTurn 80 = .ok (.aload_n 0, 1) := by decide +kernel
theorem dX5_keepTurn_81 : decode cX5_keepTurn 81 = .ok (.getfield 67, 3) := by decide +kernel
theorem dX5_keepTurn_84 : decode cX5_keepTurn 84 = .ok (.iload_n 1, 1) := by decide +kernel
theorem dX5_keepTurn_85 : decode cX5_keepTurn 85 = .ok (.iaload, 1) := by decide +kernel
theorem dX5_keepTurn_86 : decode cX5_keepTurn 86 = .ok (.iastore, 1) := by decide +kernel
theorem dX5_keepTurn_87 : decode cX5_keepTurn 87 = .ok (.iinc 1 1, 3) := by decide +kernel
theorem dX5_keepTurn_90 : decode cX5_keepTurn 90 = .ok (.goto (-29), 3) := by decide +kernel
theorem dX5_keepTurn_93 : decode cX5_keepTurn 93 = .ok (.aload_n 0, 1) := by decide +kernel
theorem dX5_keepTurn_94 : decode cX5_keepTurn 94 = .ok (.dup, 1) := by decide +kernel
theorem dX5_keepTurn_95 : decode cX5_keepTurn 95 = .ok (.getfield 188, 3) := by decide +kernel
theorem dX5_keepTurn_98 : decode cX5_keepTurn 98 = .ok (.iconst 1, 1) := by decide +kernel
theorem dX5_keepTurn_99 : decode cX5_keepTurn 99 = .ok (.iadd, 1) := by decide +kernel
theorem dX5_keepTurn_100 : decode cX5_keepTurn 100 = .ok (.putfield 188, 3) := by decide +kernel
theorem dX5_keepTurn_103 : decode cX5_keepTurn 103 = .ok (.return_, 1) := by decide +kernel
theorem dX5_back_0 : decode cX5_back 0 = .ok (.aload_n 0, 1) := by decide +kernel
theorem dX5_back_1 : decode cX5_back 1 = .ok (.iconst 0, 1) := by decide +kernel
theorem dX5_back_2 : decode cX5_back 2 = .ok (.putfield 73, 3) := by decide +kernel
theorem dX5_back_5 : decode cX5_back 5 = .ok (.aload_n 0, 1) := by decide +kernel
theorem dX5_back_6 : decode cX5_back 6 = .ok (.getfield 188, 3) := by decide +kernel
theorem dX5_back_9 : decode cX5_back 9 = .ok (.ifCond .ne 10, 3) := by decide +kernel
theorem dX5_back_12 : decode cX5_back 12 = .ok (.aload_n 0, 1) := by decide +kernel
theorem dX5_back_13 : decode cX5_back 13 = .ok (.bipush (-3), 2) := by decide +kernel
theorem dX5_back_15 : decode cX5_back 15 = .ok (.invokevirtual 129, 3) := by decide +kernel
theorem dX5_back_18 : decode cX5_back 18 = .ok (.ireturn, 1) := by decide +kernel
theorem dX5_back_19 : decode cX5_back 19 = .ok (.aload_n 0, 1) := by decide +kernel
theorem dX5_back_20 : decode cX5_back 20 = .ok (.dup, 1) := by decide +kernel
theorem dX5_back_21 : decode cX5_back 21 = .ok (.getfield 188, 3) := by decide +kernel
theorem dX5_back_24 : decode cX5_back 24 = .ok (.iconst 1, 1) := by decide +kernel
theorem dX5_back_25 : decode cX5_back 25 = .ok (.isub, 1) := by decide +kernel
theorem dX5_back_26 : decode cX5_back 26 = .ok (.putfield 188, 3) := by decide +kernel
theorem dX5_back_29 : decode cX5_back 29 = .ok (.iconst 0, 1) := by decide +kernel
theorem dX5_back_30 : decode cX5_back 30 = .ok (.istore_n 1, 1) := by decide +kernel
theorem dX5_back_31 : decode cX5_back 31 = .ok (.iload_n 1, 1) := by decide +kernel
theorem dX5_back_32 : decode cX5_back 32 = .ok (.bipush 48, 2) := by decide +kernel
theorem dX5_back_34 : decode cX5_back 34 = .ok (.if_icmp .ge 29, 3) := by decide +kernel
theorem dX5_back_37 : decode cX5_back 37 = .ok (.aload_n 0, 1) := by decide +kernel
theorem dX5_back_38 : decode cX5_back 38 = .ok (.getfield 67, 3) := by decide +kernel
theorem dX5_back_41 : decode cX5_back 41 = .ok (.iload_n 1, 1) := by decide +kernel
theorem dX5_back_42 : decode cX5_back 42 = .ok (.aload_n 0, 1) := by decide +kernel
theorem dX5_back_43 : decode cX5_back 43 = .ok (.getfield 64, 3) := by decide +kernel
theorem dX5_back_46 : decode cX5_back 46 = .ok (.bipush 48, 2) := by decide +kernel
theorem dX5_back_48 : decode cX5_back 48 = .ok (.aload_n 0, 1) := by decide +kernel
theorem dX5_back_49 : decode cX5_back 49 = .ok (.getfield 188, 3) := by decide +kernel
theorem dX5_back_52 : decode cX5_back 52 = .ok (.imul, 1) := by decide +kernel
theorem dX5_back_53 : decode cX5_back 53 = .ok (.iload_n 1, 1) := by decide +kernel
theorem dX5_back_54 : decode cX5_back 54 = .ok (.iadd, 1) := by decide +kernel
theorem dX5_back_55 : decode cX5_back 55 = .ok (.iaload, 1) := by decide +kernel
theorem dX5_back_56 : decode cX5_back 56 = .ok (.iastore, 1) := by decide +kernel
theorem dX5_back_57 : decode cX5_back 57 = .ok (.iinc 1 1, 3) := by decide +kernel
theorem dX5_back_60 : decode cX5_back 60 = .ok (.goto (-29), 3) := by decide +kernel
theorem dX5_back_63 : decode cX5_back 63 = .ok (.aload_n 0, 1) := by decide +kernel
theorem dX5_back_64 : decode cX5_back 64 = .ok (.aload_n 0, 1) := by decide +kernel
theorem dX5_back_65 : decode cX5_back 65 = .ok (.getfield 67, 3) := by decide +kernel
theorem dX5_back_68 : decode cX5_back 68 = .ok (.iconst 0, 1) := by decide +kernel
theorem dX5_back_69 : decode cX5_back 69 = .ok (.invokevirtual 181, 3) := by decide +kernel
theorem dX5_back_72 : decode cX5_back 72 = .ok (.aload_n 0, 1) := by decide +kernel
theorem dX5_back_73 : decode cX5_back 73 = .ok (.getfield 188, 3) := by decide +kernel
theorem dX5_back_76 : decode cX5_back 76 = .ok (.ireturn, 1) := by decide +kernel
theorem dX5_person_0 : decode cX5_person 0 = .ok (.aload_n 0, 1) := by decide +kernel
theorem dX5_person_1 : decode cX5_person 1 = .ok (.iconst 0, 1) := by decide +kernel
theorem dX5_person_2 : decode cX5_person 2 = .ok (.putfield 73, 3) := by decide +kernel
theorem dX5_person_5 : decode cX5_person 5 = .ok (.aload_n 0, 1) := by decide +kernel
theorem dX5_person_6 : decode cX5_person 6 = .ok (.iload_n 1, 1) := by decide +kernel
theorem dX5_person_7 : decode cX5_person 7 = .ok (.invokevirtual 164, 3) := by decide +kernel
theorem dX5_person_10 : decode cX5_person 10 = .ok (.ifCond .eq 15, 3) := by decide +kernel
theorem dX5_person_13 : decode cX5_person 13 = .ok (.iload_n 2, 1) := by decide +kernel
theorem dX5_person_14 : decode cX5_person 14 = .ok (.i2l, 1) := by decide +kernel
theorem dX5_person_15 : decode cX5_person 15 = .ok (.lconst 0, 1) := by decide +kernel
theorem dX5_person_16 : decode cX5_person 16 = .ok (.ldc2_w 206, 3) := by decide +kernel
theorem dX5_person_19 : decode cX5_person 19 = .ok (.invokestatic 80, 3) := by decide +kernel
theorem dX5_person_22 : decode cX5_person 22 = .ok (.ifCond .ne 22, 3) := by decide +kernel
theorem dX5_person_25 : decode cX5_person 25 = .ok (.aload_n 0, 1) := by decide +kernel
theorem dX5_person_26 : decode cX5_person 26 = .ok (.aload_n 0, 1) := by decide +kernel
theorem dX5_person_27 : decode cX5_person 27 = .ok (.iload_n 1, 1) := by decide +kernel
theorem dX5_person_28 : decode cX5_person 28 = .ok (.invokevirtual 164, 3) := by decide +kernel
theorem dX5_person_31 : decode cX5_person 31 = .ok (.ifCond .eq 8, 3) := by decide +kernel
theorem dX5_person_34 : decode cX5_person 34 = .ok (.bipush (-2), 2) := by decide +kernel
theorem dX5_person_36 : decode cX5_person 36 = .ok (.goto 4, 3) := by decide +kernel
theorem dX5_person_39 : decode cX5_person 39 = .ok (.iconst (-1), 1) := by decide +kernel
theorem dX5_person_40 : decode cX5_person 40 = .ok (.invokevirtual 129, 3) := by decide +kernel
theorem dX5_person_43 : decode cX5_person 43 = .ok (.ireturn, 1) := by decide +kernel
theorem dX5_person_44 : decode cX5_person 44 = .ok (.iload_n 2, 1) := by decide +kernel
theorem dX5_person_45 : decode cX5_person 45 = .ok (.ifCond .ne 12, 3) := by decide +kernel
theorem dX5_person_48 : decode cX5_person 48 = .ok (.aload_n 0, 1) := by decide +kernel
theorem dX5_person_49 : decode cX5_person 49 = .ok (.getfield 7, 3) := by decide +kernel
theorem dX5_person_52 : decode cX5_person 52 = .ok (.iload_n 1, 1) := by decide +kernel
theorem dX5_person_53 : decode cX5_person 53 = .ok (.iaload, 1) := by decide +kernel
theorem dX5_person_54 : decode cX5_person 54 = .ok (.goto 37, 3) := by decide +kernel
theorem dX5_person_57 : decode cX5_person 57 = .ok (.iload_n 2, 1) := by decide +kernel
theorem dX5_person_58 : decode cX5_person 58 = .ok (.iconst 1, 1) := by decide +kernel
theorem dX5_person_59 : decode cX5_person 59 = .ok (.if_icmp .ne 12, 3) := by decide +kernel
theorem dX5_person_62 : decode cX5_person 62 = .ok (.aload_n 0, 1) := by decide +kernel
theorem dX5_person_63 : decode cX5_person 63 = .ok (.getfield 13, 3) := by decide +kernel
theorem dX5_person_66 : decode cX5_person 66 = .ok (.iload_n 1, 1) := by decide +kernel
theorem dX5_person_67 : decode cX5_person 67 = .ok (.iaload, 1) := by decide +kernel
theorem dX5_person_68 : decode cX5_person 68 = .ok (.goto 23, 3) := by decide +kernel
theorem dX5_person_71 : decode cX5_person 71 = .ok (.iload_n 2, 1) := by decide +kernel
theorem dX5_person_72 : decode cX5_person 72 = .ok (.iconst 2, 1) := by decide +kernel
theorem dX5_person_73 : decode cX5_person 73 = .ok (.if_icmp .ne 12, 3) := by decide +kernel
theorem dX5_person_76 : decode cX5_person 76 = .ok (.aload_n 0, 1) := by decide +kernel
theorem dX5_person_77 : decode cX5_person 77 = .ok (.getfield 16, 3) := by decide +kernel
theorem dX5_person_80 : decode cX5_person 80 = .ok (.iload_n 1, 1) := by decide +kernel
theorem dX5_person_81 : decode cX5_person 81 = .ok (.iaload, 1) := by decide +kernel
theorem dX5_person_82 : decode cX5_person 82 = .ok (.goto 9, 3) := by decide +kernel
theorem dX5_person_85 : decode cX5_person 85 = .ok (.aload_n 0, 1) := by decide +kernel
theorem dX5_person_86 : decode cX5_person 86 = .ok (.getfield 19, 3) := by decide +kernel
theorem dX5_person_89 : decode cX5_person 89 = .ok (.iload_n 1, 1) := by decide +kernel
theorem dX5_person_90 : decode cX5_person 90 = .ok (.iaload, 1) := by decide +kernel
theorem dX5_person_91 : decode cX5_person 91 = .ok (.ireturn, 1) := by decide +kernel
theorem dX5_dead_0 : decode cX5_dead 0 = .ok (.aload_n 0, 1) := by decide +kernel
theorem dX5_dead_1 : decode cX5_dead 1 = .ok (.iconst 0, 1) := by decide +kernel
theorem dX5_dead_2 : decode cX5_dead 2 = .ok (.putfield 73, 3) := by decide +kernel
theorem dX5_dead_5 : decode cX5_dead 5 = .ok (.aload_n 0, 1) := by decide +kernel
theorem dX5_dead_6 : decode cX5_dead 6 = .ok (.iload_n 1, 1) := by decide +kernel
theorem dX5_dead_7 : decode cX5_dead 7 = .ok (.invokevirtual 208, 3) := by decide +kernel
theorem dX5_dead_10 : decode cX5_dead 10 = .ok (.ifCond .eq 15, 3) := by decide +kernel
theorem dX5_dead_13 : decode cX5_dead 13 = .ok (.iload_n 2, 1) := by decide +kernel
theorem dX5_dead_14 : decode cX5_dead 14 = .ok (.i2l, 1) := by decide +kernel
theorem dX5_dead_15 : decode cX5_dead 15 = .ok (.lconst 0, 1) := by decide +kernel
theorem dX5_dead_16 : decode cX5_dead 16 = .ok (.ldc2_w 211, 3) := by decide +kernel
theorem dX5_dead_19 : decode cX5_dead 19 = .ok (.invokestatic 80, 3) := by decide +kernel
theorem dX5_dead_22 : decode cX5_dead 22 = .ok (.ifCond .ne 22, 3) := by decide +kernel
theorem dX5_dead_25 : decode cX5_dead 25 = .ok (.aload_n 0, 1) := by decide +kernel
theorem dX5_dead_26 : decode cX5_dead 26 = .ok (.aload_n 0, 1) := by decide +kernel
theorem dX5_dead_27 : decode cX5_dead 27 = .ok (.iload_n 1, 1) := by decide +kernel
theorem dX5_dead_28 : decode cX5_dead 28 = .ok (.invokevirtual 208, 3) := by decide +kernel
theorem dX5_dead_31 : decode cX5_dead 31 = .ok (.ifCond .eq 8, 3) := by decide +kernel
theorem dX5_dead_34 : decode cX5_dead 34 = .ok (.bipush (-2), 2) := by decide +kernel
theorem dX5_dead_36 : decode cX5_dead 36 = .ok (.goto 4, 3) := by decide +kernel
theorem dX5_dead_39 : decode cX5_dead 39 = .ok (.iconst (-1), 1) := by decide +kernel
theorem dX5_dead_40 : decode cX5_dead 40 = .ok (.invokevirtual 129, 3) := by decide +kernel
theorem dX5_dead_43 : decode cX5_dead 43 = .ok (.ireturn, 1) := by decide +kernel
theorem dX5_dead_44 : decode cX5_dead 44 = .ok (.iload_n 2, 1) := by decide +kernel
theorem dX5_dead_45 : decode cX5_dead 45 = .ok (.ifCond .ne 12, 3) := by decide +kernel
theorem dX5_dead_48 : decode cX5_dead 48 = .ok (.aload_n 0, 1) := by decide +kernel
theorem dX5_dead_49 : decode cX5_dead 49 = .ok (.getfield 22, 3) := by decide +kernel
theorem dX5_dead_52 : decode cX5_dead 52 = .ok (.iload_n 1, 1) := by decide +kernel
theorem dX5_dead_53 : decode cX5_dead 53 = .ok (.iaload, 1) := by decide +kernel
theorem dX5_dead_54 : decode cX5_dead 54 = .ok (.goto 23, 3) := by decide +kernel
theorem dX5_dead_57 : decode cX5_dead 57 = .ok (.iload_n 2, 1) := by decide +kernel
theorem dX5_dead_58 : decode cX5_dead 58 = .ok (.iconst 1, 1) := by decide +kernel
theorem dX5_dead_59 : decode cX5_dead 59 = .ok (.if_icmp .ne 12, 3) := by decide +kernel
theorem dX5_dead_62 : decode cX5_dead 62 = .ok (.aload_n 0, 1) := by decide +kernel
theorem dX5_dead_63 : decode cX5_dead 63 = .ok (.getfield 25, 3) := by decide +kernel
theorem dX5_dead_66 : decode cX5_dead 66 = .ok (.iload_n 1, 1) := by decide +kernel
theorem dX5_dead_67 : decode cX5_dead 67 = .ok (.iaload, 1) := by decide +kernel
theorem dX5_dead_68 : decode cX5_dead 68 = .ok (.goto 9, 3) := by decide +kernel
theorem dX5_dead_71 : decode cX5_dead 71 = .ok (.aload_n 0, 1) := by decide +kernel
theorem dX5_dead_72 : decode cX5_dead 72 = .ok (.getfield 28, 3) := by decide +kernel
theorem dX5_dead_75 : decode cX5_dead 75 = .ok (.iload_n 1, 1) := by decide +kernel
theorem dX5_dead_76 : decode cX5_dead 76 = .ok (.iaload, 1) := by decide +kernel
theorem dX5_dead_77 : decode cX5_dead 77 = .ok (.ireturn, 1) := by decide +kernel
theorem dX5_comes_0 : decode cX5_comes 0 = .ok (.aload_n 0, 1) := by decide +kernel
theorem dX5_comes_1 : decode cX5_comes 1 = .ok (.iconst 0, 1) := by decide +kernel
theorem dX5_comes_2 : decode cX5_comes 2 = .ok (.putfield 73, 3) := by decide +kernel
theorem dX5_comes_5 : decode cX5_comes 5 = .ok (.iload_n 1, 1) := by decide +kernel
theorem dX5_comes_6 : decode cX5_comes 6 = .ok (.iconst 0, 1) := by decide +kernel
theorem dX5_comes_7 : decode cX5_comes 7 = .ok (.bipush 63, 2) := by decide +kernel
theorem dX5_comes_9 : decode cX5_comes 9 = .ok (.invokestatic 213, 3) := by decide +kernel
theorem dX5_comes_12 : decode cX5_comes 12 = .ok (.istore_n 2, 1) := by decide +kernel
theorem dX5_comes_13 : decode cX5_comes 13 = .ok (.iload_n 2, 1) := by decide +kernel
theorem dX5_comes_14 : decode cX5_comes 14 = .ok (.ifCond .ne 17, 3) := by decide +kernel
theorem dX5_comes_17 : decode cX5_comes 17 = .ok (.aload_n 0, 1) := by decide +kernel
theorem dX5_comes_18 : decode cX5_comes 18 = .ok (.getfield 77, 3) := by decide +kernel
theorem dX5_comes_21 : decode cX5_comes 21 = .ok (.bipush 7, 2) := by decide +kernel
theorem dX5_comes_23 : decode cX5_comes 23 = .ok (.if_icmp .ne 8, 3) := by decide +kernel
theorem dX5_comes_26 : decode cX5_comes 26 = .ok (.bipush (-6), 2) := by decide +kernel
theorem dX5_comes_28 : decode cX5_comes 28 = .ok (.goto 4, 3) := by decide +kernel
theorem dX5_comes_31 : decode cX5_comes 31 = .ok (.iload_n 2, 1) := by decide +kernel
theorem dX5_comes_32 : decode cX5_comes 32 = .ok (.istore_n 2, 1) := by decide +kernel
theorem dX5_comes_33 : decode cX5_comes 33 = .ok (.iload_n 2, 1) := by decide +kernel
theorem dX5_comes_34 : decode cX5_comes 34 = .ok (.ifCond .ge 9, 3) := by decide +kernel
theorem dX5_comes_37 : decode cX5_comes 37 = .ok (.aload_n 0, 1) := by decide +kernel
theorem dX5_comes_38 : decode cX5_comes 38 = .ok (.iload_n 2, 1) := by decide +kernel
theorem dX5_comes_39 : decode cX5_comes 39 = .ok (.invokevirtual 129, 3) := by decide +kernel
theorem dX5_comes_42 : decode cX5_comes 42 = .ok (.ireturn, 1) := by decide +kernel
theorem dX5_comes_43 : decode cX5_comes 43 = .ok (.aload_n 0, 1) := by decide +kernel
theorem dX5_comes_44 : decode cX5_comes 44 = .ok (.iload_n 1, 1) := by decide +kernel
theorem dX5_comes_45 : decode cX5_comes 45 = .ok (.invokevirtual 167, 3) := by decide +kernel
theorem dX5_comes_48 : decode cX5_comes 48 = .ok (.aload_n 0, 1) := by decide +kernel
theorem dX5_comes_49 : decode cX5_comes 49 = .ok (.iconst 0, 1) := by decide +kernel
theorem dX5_comes_50 : decode cX5_comes 50 = .ok (.putfield 188, 3) := by decide +kernel
theorem dX5_comes_53 : decode cX5_comes 53 = .ok (.aload_n 0, 1) := by decide +kernel
theorem dX5_comes_54 : decode cX5_comes 54 = .ok (.getfield 77, 3) := by decide +kernel
theorem dX5_comes_57 : decode cX5_comes 57 = .ok (.iconst 1, 1) := by decide +kernel
theorem dX5_comes_58 : decode cX5_comes 58 = .ok (.isub, 1) := by decide +kernel
theorem dX5_comes_59 : decode cX5_comes 59 = .ok (.ireturn, 1) := by decide +kernel
theorem dX5_dies_0 : decode cX5_dies 0 = .ok (.aload_n 0, 1) := by decide +kernel
theorem dX5_dies_1 : decode cX5_dies 1 = .ok (.iconst 0, 1) := by decide +kernel
theorem dX5_dies_2 : decode cX5_dies 2 = .ok (.putfield 73, 3) := by decide +kernel
theorem dX5_dies_5 : decode cX5_dies 5 = .ok (.iconst 0, 1) := by decide +kernel
theorem dX5_dies_6 : decode cX5_dies 6 = .ok (.istore 4, 2) := by decide +kernel
theorem dX5_dies_8 : decode cX5_dies 8 = .ok (.iload_n 1, 1) := by decide +kernel
theorem dX5_dies_9 : decode cX5_dies 9 = .ok (.i2l, 1) := by decide +kernel
theorem dX5_dies_10 : decode cX5_dies 10 = .ok (.lconst 0, 1) := by decide +kernel
theorem dX5_dies_11 : decode cX5_dies 11 = .ok (.ldc2_w 217, 3) := by decide +kernel
theorem dX5_dies_14 : decode cX5_dies 14 = .ok (.invokestatic 80, 3) := by decide +kernel
theorem dX5_dies_17 : decode cX5_dies 17 = .ok (.ifCond .ne 10, 3) := by decide +kernel
theorem dX5_dies_20 : decode cX5_dies 20 = .ok (.bipush (-2), 2) := by decide +kernel
theorem dX5_dies_22 : decode cX5_dies 22 = .ok (.istore 4, 2) := by decide +kernel
theorem dX5_dies_24 : decode cX5_dies 24 = .ok (.goto 43, 3) := by decide +kernel
theorem dX5_dies_27 : decode cX5_dies 27 = .ok (.iload_n 2, 1) := by decide +kernel
theorem dX5_dies_28 : decode cX5_dies 28 = .ok (.ifCond .lt 7, 3) := by decide +kernel
theorem dX5_dies_31 : decode cX5_dies 31 = .ok (.iload_n 3, 1) := by decide +kernel
theorem dX5_dies_32 : decode cX5_dies 32 = .ok (.ifCond .ge 10, 3) := by decide +kernel
theorem dX5_dies_35 : decode cX5_dies 35 = .ok (.bipush (-4), 2) := by decide +kernel
theorem dX5_dies_37 : decode cX5_dies 37 = .ok (.istore 4, 2) := by decide +kernel
theorem dX5_dies_39 : decode cX5_dies 39 = .ok (.goto 28, 3) := by decide +kernel
theorem dX5_dies_42 : decode cX5_dies 42 = .ok (.iload_n 2, 1) := by decide +kernel
theorem dX5_dies_43 : decode cX5_dies 43 = .ok (.bipush 9, 2) := by decide +kernel
theorem dX5_dies_45 : decode cX5_dies 45 = .ok (.if_icmp .gt 18, 3) := by decide +kernel
theorem dX5_dies_48 : decode cX5_dies 48 = .ok (.iload_n 3, 1) := by decide +kernel
theorem dX5_dies_49 : decode cX5_dies 49 = .ok (.bipush 9, 2) := by decide +kernel
theorem dX5_dies_51 : decode cX5_dies 51 = .ok (.if_icmp .gt 12, 3) := by decide +kernel
theorem dX5_dies_54 : decode cX5_dies 54 = .ok (.aload_n 0, 1) := by decide +kernel
theorem dX5_dies_55 : decode cX5_dies 55 = .ok (.getfield 84, 3) := by decide +kernel
theorem dX5_dies_58 : decode cX5_dies 58 = .ok (.bipush 6, 2) := by decide +kernel
theorem dX5_dies_60 : decode cX5_dies 60 = .ok (.if_icmp .ne 7, 3) := by decide +kernel
theorem dX5_dies_63 : decode cX5_dies 63 = .ok (.bipush (-6), 2) := by decide +kernel
theorem dX5_dies_65 : decode cX5_dies 65 = .ok (.istore 4, 2) := by decide +kernel
theorem dX5_dies_67 : decode cX5_dies 67 = .ok (.iload 4, 2) := by decide +kernel
theorem dX5_dies_69 : decode cX5_dies 69 = .ok (.ifCond .ge 10, 3) := by decide +kernel
theorem dX5_dies_72 : decode cX5_dies 72 = .ok (.aload_n 0, 1) := by decide +kernel
theorem dX5_dies_73 : decode cX5_dies 73 = .ok (.iload 4, 2) := by decide +kernel
theorem dX5_dies_75 : decode cX5_dies 75 = .ok (.invokevirtual 129, 3) := by decide +kernel
theorem dX5_dies_78 : decode cX5_dies 78 = .ok (.ireturn, 1) := by decide +kernel
theorem dX5_dies_79 : decode cX5_dies 79 = .ok (.aload_n 0, 1) := by decide +kernel
theorem dX5_dies_80 : decode cX5_dies 80 = .ok (.iload_n 1, 1) := by decide +kernel
theorem dX5_dies_81 : decode cX5_dies 81 = .ok (.iload_n 2, 1) := by decide +kernel
theorem dX5_dies_82 : decode cX5_dies 82 = .ok (.iload_n 3, 1) := by decide +kernel
theorem dX5_dies_83 : decode cX5_dies 83 = .ok (.invokevirtual 170, 3) := by decide +kernel
theorem dX5_dies_86 : decode cX5_dies 86 = .ok (.aload_n 0, 1) := by decide +kernel
theorem dX5_dies_87 : decode cX5_dies 87 = .ok (.iconst 0, 1) := by decide +kernel
theorem dX5_dies_88 : decode cX5_dies 88 = .ok (.putfield 188, 3) := by decide +kernel
theorem dX5_dies_91 : decode cX5_dies 91 = .ok (.aload_n 0, 1) := by decide +kernel
theorem dX5_dies_92 : decode cX5_dies 92 = .ok (.getfield 84, 3) := by decide +kernel
theorem dX5_dies_95 : decode cX5_dies 95 = .ok (.iconst 1, 1) := by decide +kernel
theorem dX5_dies_96 : decode cX5_dies 96 = .ok (.isub, 1) := by decide +kernel
theorem dX5_dies_97 : decode cX5_dies 97 = .ok (.ireturn, 1) := by decide +kernel
theorem dX5_open_0 : decode cX5_open 0 = .ok (.aload_n 0, 1) := by decide +kernel
theorem dX5_open_1 : decode cX5_open 1 = .ok (.iconst 0, 1) := by decide +kernel
theorem dX5_open_2 : decode cX5_open 2 = .ok (.putfield 73, 3) := by decide +kernel
theorem dX5_open_5 : decode cX5_open 5 = .ok (.aload_n 0, 1) := by decide +kernel
theorem dX5_open_6 : decode cX5_open 6 = .ok (.iload_n 1, 1) := by decide +kernel
theorem dX5_open_7 : decode cX5_open 7 = .ok (.invokevirtual 164, 3) := by decide +kernel
theorem dX5_open_10 : decode cX5_open 10 = .ok (.ifCond .eq 10, 3) := by decide +kernel
theorem dX5_open_13 : decode cX5_open 13 = .ok (.iload_n 2, 1) := by decide +kernel
theorem dX5_open_14 : decode cX5_open 14 = .ok (.invokestatic 219, 3) := by decide +kernel
theorem dX5_open_17 : decode cX5_open 17 = .ok (.ifCond .ne 9, 3) := by decide +kernel
theorem dX5_open_20 : decode cX5_open 20 = .ok (.aload_n 0, 1) := by decide +kernel
theorem dX5_open_21 : decode cX5_open 21 = .ok (.iconst (-1), 1) := by decide +kernel
theorem dX5_open_22 : decode cX5_open 22 = .ok (.invokevirtual 129, 3) := by decide +kernel
theorem dX5_open_25 : decode cX5_open 25 = .ok (.ireturn, 1) := by decide +kernel
theorem dX5_open_26 : decode cX5_open 26 = .ok (.aload_n 0, 1) := by decide +kernel
theorem dX5_open_27 : decode cX5_open 27 = .ok (.invokevirtual 222, 3) := by decide +kernel
theorem dX5_open_30 : decode cX5_open 30 = .ok (.aload_n 0, 1) := by decide +kernel
theorem dX5_open_31 : decode cX5_open 31 = .ok (.getfield 13, 3) := by decide +kernel
theorem dX5_open_34 : decode cX5_open 34 = .ok (.iload_n 1, 1) := by decide +kernel
theorem dX5_open_35 : decode cX5_open 35 = .ok (.dup2, 1) := by decide +kernel
theorem dX5_open_36 : decode cX5_open 36 = .ok (.iaload, 1) := by decide +kernel
theorem dX5_open_37 : decode cX5_open 37 = .ok (.iconst 1, 1) := by decide +kernel
theorem dX5_open_38 : decode cX5_open 38 = .ok (.iload_n 2, 1) := by decide +kernel
theorem dX5_open_39 : decode cX5_open 39 = .ok (.ishl, 1) := by decide +kernel
theorem dX5_open_40 : decode cX5_open 40 = .ok (.ixor, 1) := by decide +kernel
theorem dX5_open_41 : decode cX5_open 41 = .ok (.iastore, 1) := by decide +kernel
theorem dX5_open_42 : decode cX5_open 42 = .ok (.aload_n 0, 1) := by decide +kernel
theorem dX5_open_43 : decode cX5_open 43 = .ok (.getfield 13, 3) := by decide +kernel
theorem dX5_open_46 : decode cX5_open 46 = .ok (.iload_n 1, 1) := by decide +kernel
theorem dX5_open_47 : decode cX5_open 47 = .ok (.iaload, 1) := by decide +kernel
theorem dX5_open_48 : decode cX5_open 48 = .ok (.iload_n 2, 1) := by decide +kernel
theorem dX5_open_49 : decode cX5_open 49 = .ok (.ishr, 1) := by decide +kernel
theorem dX5_open_50 : decode cX5_open 50 = .ok (.iconst 1, 1) := by decide +kernel
theorem dX5_open_51 : decode cX5_open 51 = .ok (.iand, 1) := by decide +kernel
theorem dX5_open_52 : decode cX5_open 52 = .ok (.ireturn, 1) := by decide +kernel
theorem dX5_shut_0 : decode cX5_shut 0 = .ok (.aload_n 0, 1) := by decide +kernel
theorem dX5_shut_1 : decode cX5_shut 1 = .ok (.iconst 0, 1) := by decide +kernel
theorem dX5_shut_2 : decode cX5_shut 2 = .ok (.putfield 73, 3) := by decide +kernel
theorem dX5_shut_5 : decode cX5_shut 5 = .ok (.aload_n 0, 1) := by decide +kernel
theorem dX5_shut_6 : decode cX5_shut 6 = .ok (.iload_n 1, 1) := by decide +kernel
theorem dX5_shut_7 : decode cX5_shut 7 = .ok (.invokevirtual 164, 3) := by decide +kernel
theorem dX5_shut_10 : decode cX5_shut 10 = .ok (.ifCond .ne 9, 3) := by decide +kernel
theorem dX5_shut_13 : decode cX5_shut 13 = .ok (.aload_n 0, 1) := by decide +kernel
theorem dX5_shut_14 : decode cX5_shut 14 = .ok (.iconst (-1), 1) := by decide +kernel
theorem dX5_shut_15 : decode cX5_shut 15 = .ok (.invokevirtual 129, 3) := by decide +kernel
theorem dX5_shut_18 : decode cX5_shut 18 = .ok (.ireturn, 1) := by decide +kernel
theorem dX5_shut_19 : decode cX5_shut 19 = .ok (.aload_n 0, 1) := by decide +kernel
theorem dX5_shut_20 : decode cX5_shut 20 = .ok (.invokevirtual 222, 3) := by decide +kernel
theorem dX5_shut_23 : decode cX5_shut 23 = .ok (.aload_n 0, 1) := by decide +kernel
theorem dX5_shut_24 : decode cX5_shut 24 = .ok (.getfield 16, 3) := by decide +kernel
theorem dX5_shut_27 : decode cX5_shut 27 = .ok (.iload_n 1, 1) := by decide +kernel
theorem dX5_shut_28 : decode cX5_shut 28 = .ok (.iconst 1, 1) := by decide +kernel
theorem dX5_shut_29 : decode cX5_shut 29 = .ok (.aload_n 0, 1) := by decide +kernel
theorem dX5_shut_30 : decode cX5_shut 30 = .ok (.getfield 16, 3) := by decide +kernel
theorem dX5_shut_33 : decode cX5_shut 33 = .ok (.iload_n 1, 1) := by decide +kernel
theorem dX5_shut_34 : decode cX5_shut 34 = .ok (.iaload, 1) := by decide +kernel
theorem dX5_shut_35 : decode cX5_shut 35 = .ok (.isub, 1) := by decide +kernel
theorem dX5_shut_36 : decode cX5_shut 36 = .ok (.iastore, 1) := by decide +kernel
theorem dX5_shut_37 : decode cX5_shut 37 = .ok (.aload_n 0, 1) := by decide +kernel
theorem dX5_shut_38 : decode cX5_shut 38 = .ok (.getfield 16, 3) := by decide +kernel
theorem dX5_shut_41 : decode cX5_shut 41 = .ok (.iload_n 1, 1) := by decide +kernel
theorem dX5_shut_42 : decode cX5_shut 42 = .ok (.iaload, 1) := by decide +kernel
theorem dX5_shut_43 : decode cX5_shut 43 = .ok (.ireturn, 1) := by decide +kernel
theorem dX5_kin_0 : decode cX5_kin 0 = .ok (.aload_n 0, 1) := by decide +kernel
theorem dX5_kin_1 : decode cX5_kin 1 = .ok (.iconst 0, 1) := by decide +kernel
theorem dX5_kin_2 : decode cX5_kin 2 = .ok (.putfield 73, 3) := by decide +kernel
theorem dX5_kin_5 : decode cX5_kin 5 = .ok (.aload_n 0, 1) := by decide +kernel
theorem dX5_kin_6 : decode cX5_kin 6 = .ok (.iload_n 1, 1) := by decide +kernel
theorem dX5_kin_7 : decode cX5_kin 7 = .ok (.invokevirtual 164, 3) := by decide +kernel
theorem dX5_kin_10 : decode cX5_kin 10 = .ok (.ifCond .eq 11, 3) := by decide +kernel
theorem dX5_kin_13 : decode cX5_kin 13 = .ok (.aload_n 0, 1) := by decide +kernel
theorem dX5_kin_14 : decode cX5_kin 14 = .ok (.iload_n 2, 1) := by decide +kernel
theorem dX5_kin_15 : decode cX5_kin 15 = .ok (.invokevirtual 208, 3) := by decide +kernel
theorem dX5_kin_18 : decode cX5_kin 18 = .ok (.ifCond .ne 9, 3) := by decide +kernel
theorem dX5_kin_21 : decode cX5_kin 21 = .ok (.aload_n 0, 1) := by decide +kernel
theorem dX5_kin_22 : decode cX5_kin 22 = .ok (.iconst (-1), 1) := by decide +kernel
theorem dX5_kin_23 : decode cX5_kin 23 = .ok (.invokevirtual 129, 3) := by decide +kernel
theorem dX5_kin_26 : decode cX5_kin 26 = .ok (.ireturn, 1) := by decide +kernel
theorem dX5_kin_27 : decode cX5_kin 27 = .ok (.aload_n 0, 1) := by decide +kernel
theorem dX5_kin_28 : decode cX5_kin 28 = .ok (.invokevirtual 222, 3) := by decide +kernel
theorem dX5_kin_31 : decode cX5_kin 31 = .ok (.aload_n 0, 1) := by decide +kernel
theorem dX5_kin_32 : decode cX5_kin 32 = .ok (.getfield 7, 3) := by decide +kernel
theorem dX5_kin_35 : decode cX5_kin 35 = .ok (.iload_n 1, 1) := by decide +kernel
theorem dX5_kin_36 : decode cX5_kin 36 = .ok (.dup2, 1) := by decide +kernel
theorem dX5_kin_37 : decode cX5_kin 37 = .ok (.iaload, 1) := by decide +kernel
theorem dX5_kin_38 : decode cX5_kin 38 = .ok (.iconst 1, 1) := by decide +kernel
theorem dX5_kin_39 : decode cX5_kin 39 = .ok (.iload_n 2, 1) := by decide +kernel
theorem dX5_kin_40 : decode cX5_kin 40 = .ok (.ishl, 1) := by decide +kernel
theorem dX5_kin_41 : decode cX5_kin 41 = .ok (.ixor, 1) := by decide +kernel
theorem dX5_kin_42 : decode cX5_kin 42 = .ok (.iastore, 1) := by decide +kernel
theorem dX5_kin_43 : decode cX5_kin 43 = .ok (.aload_n 0, 1) := by decide +kernel
theorem dX5_kin_44 : decode cX5_kin 44 = .ok (.getfield 7, 3) := by decide +kernel
theorem dX5_kin_47 : decode cX5_kin 47 = .ok (.iload_n 1, 1) := by decide +kernel
theorem dX5_kin_48 : decode cX5_kin 48 = .ok (.iaload, 1) := by decide +kernel
theorem dX5_kin_49 : decode cX5_kin 49 = .ok (.iload_n 2, 1) := by decide +kernel
theorem dX5_kin_50 : decode cX5_kin 50 = .ok (.ishr, 1) := by decide +kernel
theorem dX5_kin_51 : decode cX5_kin 51 = .ok (.iconst 1, 1) := by decide +kernel
theorem dX5_kin_52 : decode cX5_kin 52 = .ok (.iand, 1) := by decide +kernel
theorem dX5_kin_53 : decode cX5_kin 53 = .ok (.ireturn, 1) := by decide +kernel
theorem dX5_leans_0 : decode cX5_leans 0 = .ok (.aload_n 0, 1) := by decide +kernel
theorem dX5_leans_1 : decode cX5_leans 1 = .ok (.iconst 0, 1) := by decide +kernel
theorem dX5_leans_2 : decode cX5_leans 2 = .ok (.putfield 73, 3) := by decide +kernel
theorem dX5_leans_5 : decode cX5_leans 5 = .ok (.aload_n 0, 1) := by decide +kernel
theorem dX5_leans_6 : decode cX5_leans 6 = .ok (.iload_n 1, 1) := by decide +kernel
theorem dX5_leans_7 : decode cX5_leans 7 = .ok (.invokevirtual 208, 3) := by decide +kernel
theorem dX5_leans_10 : decode cX5_leans 10 = .ok (.ifCond .eq 13, 3) := by decide +kernel
theorem dX5_leans_13 : decode cX5_leans 13 = .ok (.iload_n 2, 1) := by decide +kernel
theorem dX5_leans_14 : decode cX5_leans 14 = .ok (.iconst 0, 1) := by decide +kernel
theorem dX5_leans_15 : decode cX5_leans 15 = .ok (.bipush 9, 2) := by decide +kernel
theorem dX5_leans_17 : decode cX5_leans 17 = .ok (.invokestatic 213, 3) := by decide +kernel
theorem dX5_leans_20 : decode cX5_leans 20 = .ok (.goto 4, 3) := by decide +kernel
theorem dX5_leans_23 : decode cX5_leans 23 = .ok (.iconst (-1), 1) := by decide +kernel
theorem dX5_leans_24 : decode cX5_leans 24 = .ok (.istore_n 3, 1) := by decide +kernel
theorem dX5_leans_25 : decode cX5_leans 25 = .ok (.iload_n 3, 1) := by decide +kernel
theorem dX5_leans_26 : decode cX5_leans 26 = .ok (.ifCond .ge 9, 3) := by decide +kernel
theorem dX5_leans_29 : decode cX5_leans 29 = .ok (.aload_n 0, 1) := by decide +kernel
theorem dX5_leans_30 : decode cX5_leans 30 = .ok (.iload_n 3, 1) := by decide +kernel
theorem dX5_leans_31 : decode cX5_leans 31 = .ok (.invokevirtual 129, 3) := by decide +kernel
theorem dX5_leans_34 : decode cX5_leans 34 = .ok (.ireturn, 1) := by decide +kernel
theorem dX5_leans_35 : decode cX5_leans 35 = .ok (.aload_n 0, 1) := by decide +kernel
theorem dX5_leans_36 : decode cX5_leans 36 = .ok (.invokevirtual 222, 3) := by decide +kernel
theorem dX5_leans_39 : decode cX5_leans 39 = .ok (.aload_n 0, 1) := by decide +kernel
theorem dX5_leans_40 : decode cX5_leans 40 = .ok (.getfield 25, 3) := by decide +kernel
theorem dX5_leans_43 : decode cX5_leans 43 = .ok (.iload_n 1, 1) := by decide +kernel
theorem dX5_leans_44 : decode cX5_leans 44 = .ok (.iaload, 1) := by decide +kernel
theorem dX5_leans_45 : decode cX5_leans 45 = .ok (.istore 4, 2) := by decide +kernel
theorem dX5_leans_47 : decode cX5_leans 47 = .ok (.aload_n 0, 1) := by decide +kernel
theorem dX5_leans_48 : decode cX5_leans 48 = .ok (.getfield 25, 3) := by decide +kernel
theorem dX5_leans_51 : decode cX5_leans 51 = .ok (.iload_n 1, 1) := by decide +kernel
theorem dX5_leans_52 : decode cX5_leans 52 = .ok (.iload_n 2, 1) := by decide +kernel
theorem dX5_leans_53 : decode cX5_leans 53 = .ok (.iastore, 1) := by decide +kernel
theorem dX5_leans_54 : decode cX5_leans 54 = .ok (.iload 4, 2) := by decide +kernel
theorem dX5_leans_56 : decode cX5_leans 56 = .ok (.ireturn, 1) := by decide +kernel
theorem dX5_learns_0 : decode cX5_learns 0 = .ok (.aload_n 0, 1) := by decide +kernel
theorem dX5_learns_1 : decode cX5_learns 1 = .ok (.iconst 0, 1) := by decide +kernel
theorem dX5_learns_2 : decode cX5_learns 2 = .ok (.putfield 73, 3) := by decide +kernel
theorem dX5_learns_5 : decode cX5_learns 5 = .ok (.aload_n 0, 1) := by decide +kernel
theorem dX5_learns_6 : decode cX5_learns 6 = .ok (.iload_n 1, 1) := by decide +kernel
theorem dX5_learns_7 : decode cX5_learns 7 = .ok (.invokevirtual 164, 3) := by decide +kernel
theorem dX5_learns_10 : decode cX5_learns 10 = .ok (.ifCond .eq 10, 3) := by decide +kernel
theorem dX5_learns_13 : decode cX5_learns 13 = .ok (.iload_n 2, 1) := by decide +kernel
theorem dX5_learns_14 : decode cX5_learns 14 = .ok (.invokestatic 225, 3) := by decide +kernel
theorem dX5_learns_17 : decode cX5_learns 17 = .ok (.ifCond .ne 9, 3) := by decide +kernel
theorem dX5_learns_20 : decode cX5_learns 20 = .ok (.aload_n 0, 1) := by decide +kernel
theorem dX5_learns_21 : decode cX5_learns 21 = .ok (.iconst (-1), 1) := by decide +kernel
theorem dX5_learns_22 : decode cX5_learns 22 = .ok (.invokevirtual 129, 3) := by decide +kernel
theorem dX5_learns_25 : decode cX5_learns 25 = .ok (.ireturn, 1) := by decide +kernel
theorem dX5_learns_26 : decode cX5_learns 26 = .ok (.aload_n 0, 1) := by decide +kernel
theorem dX5_learns_27 : decode cX5_learns 27 = .ok (.getfield 19, 3) := by decide +kernel
theorem dX5_learns_30 : decode cX5_learns 30 = .ok (.iload_n 1, 1) := by decide +kernel
theorem dX5_learns_31 : decode cX5_learns 31 = .ok (.iaload, 1) := by decide +kernel
theorem dX5_learns_32 : decode cX5_learns 32 = .ok (.iload_n 2, 1) := by decide +kernel
theorem dX5_learns_33 : decode cX5_learns 33 = .ok (.ishr, 1) := by decide +kernel
theorem dX5_learns_34 : decode cX5_learns 34 = .ok (.iconst 1, 1) := by decide +kernel
theorem dX5_learns_35 : decode cX5_learns 35 = .ok (.iand, 1) := by decide +kernel
theorem dX5_learns_36 : decode cX5_learns 36 = .ok (.istore_n 3, 1) := by decide +kernel
theorem dX5_learns_37 : decode cX5_learns 37 = .ok (.aload_n 0, 1) := by decide +kernel
theorem dX5_learns_38 : decode cX5_learns 38 = .ok (.getfield 19, 3) := by decide +kernel
theorem dX5_learns_41 : decode cX5_learns 41 = .ok (.iload_n 1, 1) := by decide +kernel
theorem dX5_learns_42 : decode cX5_learns 42 = .ok (.dup2, 1) := by decide +kernel
theorem dX5_learns_43 : decode cX5_learns 43 = .ok (.iaload, 1) := by decide +kernel
theorem dX5_learns_44 : decode cX5_learns 44 = .ok (.iconst 1, 1) := by decide +kernel
theorem dX5_learns_45 : decode cX5_learns 45 = .ok (.iload_n 2, 1) := by decide +kernel
theorem dX5_learns_46 : decode cX5_learns 46 = .ok (.ishl, 1) := by decide +kernel
theorem dX5_learns_47 : decode cX5_learns 47 = .ok (.ior, 1) := by decide +kernel
theorem dX5_learns_48 : decode cX5_learns 48 = .ok (.iastore, 1) := by decide +kernel
theorem dX5_learns_49 : decode cX5_learns 49 = .ok (.aload_n 0, 1) := by decide +kernel
theorem dX5_learns_50 : decode cX5_learns 50 = .ok (.iconst 0, 1) := by decide +kernel
theorem dX5_learns_51 : decode cX5_learns 51 = .ok (.putfield 188, 3) := by decide +kernel
theorem dX5_learns_54 : decode cX5_learns 54 = .ok (.iconst 1, 1) := by decide +kernel
theorem dX5_learns_55 : decode cX5_learns 55 = .ok (.iload_n 3, 1) := by decide +kernel
theorem dX5_learns_56 : decode cX5_learns 56 = .ok (.isub, 1) := by decide +kernel
theorem dX5_learns_57 : decode cX5_learns 57 = .ok (.ireturn, 1) := by decide +kernel
theorem dX5_dayPasses_0 : decode cX5_dayPasses 0 = .ok (.aload_n 0, 1) := by decide +kernel
theorem dX5_dayPasses_1 : decode cX5_dayPasses 1 = .ok (.invokevirtual 123, 3) := by decide +kernel
theorem dX5_dayPasses_4 : decode cX5_dayPasses 4 = .ok (.aload_n 0, 1) := by decide +kernel
theorem dX5_dayPasses_5 : decode cX5_dayPasses 5 = .ok (.bipush 24, 2) := by decide +kernel
theorem dX5_dayPasses_7 : decode cX5_dayPasses 7 = .ok (.invokevirtual 126, 3) := by decide +kernel
theorem dX5_dayPasses_10 : decode cX5_dayPasses 10 = .ok (.aload_n 0, 1) := by decide +kernel
theorem dX5_dayPasses_11 : decode cX5_dayPasses 11 = .ok (.iconst 0, 1) := by decide +kernel
theorem dX5_dayPasses_12 : decode cX5_dayPasses 12 = .ok (.invokevirtual 126, 3) := by decide +kernel
theorem dX5_dayPasses_15 : decode cX5_dayPasses 15 = .ok (.isub, 1) := by decide +kernel
theorem dX5_dayPasses_16 : decode cX5_dayPasses 16 = .ok (.istore_n 1, 1) := by decide +kernel
theorem dX5_dayPasses_17 : decode cX5_dayPasses 17 = .ok (.iconst 0, 1) := by decide +kernel
theorem dX5_dayPasses_18 : decode cX5_dayPasses 18 = .ok (.istore_n 2, 1) := by decide +kernel
theorem dX5_dayPasses_19 : decode cX5_dayPasses 19 = .ok (.iload_n 2, 1) := by decide +kernel
theorem dX5_dayPasses_20 : decode cX5_dayPasses 20 = .ok (.aload_n 0, 1) := by decide +kernel
theorem dX5_dayPasses_21 : decode cX5_dayPasses 21 = .ok (.getfield 77, 3) := by decide +kernel
theorem dX5_dayPasses_24 : decode cX5_dayPasses 24 = .ok (.if_icmp .ge 21, 3) := by decide +kernel
theorem dX5_dayPasses_27 : decode cX5_dayPasses 27 = .ok (.aload_n 0, 1) := by decide +kernel
theorem dX5_dayPasses_28 : decode cX5_dayPasses 28 = .ok (.getfield 19, 3) := by decide +kernel
theorem dX5_dayPasses_31 : decode cX5_dayPasses 31 = .ok (.iload_n 2, 1) := by decide +kernel
theorem dX5_dayPasses_32 : decode cX5_dayPasses 32 = .ok (.aload_n 0, 1) := by decide +kernel
theorem dX5_dayPasses_33 : decode cX5_dayPasses 33 = .ok (.getfield 34, 3) := by decide +kernel
theorem dX5_dayPasses_36 : decode cX5_dayPasses 36 = .ok (.iload_n 2, 1) := by decide +kernel
theorem dX5_dayPasses_37 : decode cX5_dayPasses 37 = .ok (.iaload, 1) := by decide +kernel
theorem dX5_dayPasses_38 : decode cX5_dayPasses 38 = .ok (.iastore, 1) := by decide +kernel
theorem dX5_dayPasses_39 : decode cX5_dayPasses 39 = .ok (.iinc 2 1, 3) := by decide +kernel
theorem dX5_dayPasses_42 : decode cX5_dayPasses 42 = .ok (.goto (-23), 3) := by decide +kernel
theorem dX5_dayPasses_45 : decode cX5_dayPasses 45 = .ok (.iload_n 1, 1) := by decide +kernel
theorem dX5_dayPasses_46 : decode cX5_dayPasses 46 = .ok (.ireturn, 1) := by decide +kernel
theorem dX5_passes_0 : decode cX5_passes 0 = .ok (.aload_n 0, 1) := by decide +kernel
theorem dX5_passes_1 : decode cX5_passes 1 = .ok (.iconst 0, 1) := by decide +kernel
theorem dX5_passes_2 : decode cX5_passes 2 = .ok (.putfield 73, 3) := by decide +kernel
theorem dX5_passes_5 : decode cX5_passes 5 = .ok (.aload_n 0, 1) := by decide +kernel
theorem dX5_passes_6 : decode cX5_passes 6 = .ok (.iconst 0, 1) := by decide +kernel
theorem dX5_passes_7 : decode cX5_passes 7 = .ok (.putfield 188, 3) := by decide +kernel
theorem dX5_passes_10 : decode cX5_passes 10 = .ok (.aload_n 0, 1) := by decide +kernel
theorem dX5_passes_11 : decode cX5_passes 11 = .ok (.invokevirtual 228, 3) := by decide +kernel
theorem dX5_passes_14 : decode cX5_passes 14 = .ok (.ireturn, 1) := by decide +kernel
theorem dX5_knows_0 : decode cX5_knows 0 = .ok (.aload_n 0, 1) := by decide +kernel
theorem dX5_knows_1 : decode cX5_knows 1 = .ok (.iconst 0, 1) := by decide +kernel
theorem dX5_knows_2 : decode cX5_knows 2 = .ok (.putfield 73, 3) := by decide +kernel
theorem dX5_knows_5 : decode cX5_knows 5 = .ok (.aload_n 0, 1) := by decide +kernel
theorem dX5_knows_6 : decode cX5_knows 6 = .ok (.iload_n 1, 1) := by decide +kernel
theorem dX5_knows_7 : decode cX5_knows 7 = .ok (.invokevirtual 164, 3) := by decide +kernel
theorem dX5_knows_10 : decode cX5_knows 10 = .ok (.ifCond .eq 13, 3) := by decide +kernel
theorem dX5_knows_13 : decode cX5_knows 13 = .ok (.iload_n 2, 1) := by decide +kernel
theorem dX5_knows_14 : decode cX5_knows 14 = .ok (.iconst 0, 1) := by decide +kernel
theorem dX5_knows_15 : decode cX5_knows 15 = .ok (.bipush 24, 2) := by decide +kernel
theorem dX5_knows_17 : decode cX5_knows 17 = .ok (.invokestatic 213, 3) := by decide +kernel
theorem dX5_knows_20 : decode cX5_knows 20 = .ok (.goto 4, 3) := by decide +kernel
theorem dX5_knows_23 : decode cX5_knows 23 = .ok (.iconst (-1), 1) := by decide +kernel
theorem dX5_knows_24 : decode cX5_knows 24 = .ok (.istore_n 3, 1) := by decide +kernel
theorem dX5_knows_25 : decode cX5_knows 25 = .ok (.iload_n 3, 1) := by decide +kernel
theorem dX5_knows_26 : decode cX5_knows 26 = .ok (.ifCond .ge 9, 3) := by decide +kernel
theorem dX5_knows_29 : decode cX5_knows 29 = .ok (.aload_n 0, 1) := by decide +kernel
theorem dX5_knows_30 : decode cX5_knows 30 = .ok (.iload_n 3, 1) := by decide +kernel
theorem dX5_knows_31 : decode cX5_knows 31 = .ok (.invokevirtual 129, 3) := by decide +kernel
theorem dX5_knows_34 : decode cX5_knows 34 = .ok (.ireturn, 1) := by decide +kernel
theorem dX5_knows_35 : decode cX5_knows 35 = .ok (.aload_n 0, 1) := by decide +kernel
theorem dX5_knows_36 : decode cX5_knows 36 = .ok (.invokevirtual 123, 3) := by decide +kernel
theorem dX5_knows_39 : decode cX5_knows 39 = .ok (.aload_n 0, 1) := by decide +kernel
theorem dX5_knows_40 : decode cX5_knows 40 = .ok (.getfield 37, 3) := by decide +kernel
theorem dX5_knows_43 : decode cX5_knows 43 = .ok (.bipush 7, 2) := by decide +kernel
theorem dX5_knows_45 : decode cX5_knows 45 = .ok (.iload_n 2, 1) := by decide +kernel
theorem dX5_knows_46 : decode cX5_knows 46 = .ok (.imul, 1) := by decide +kernel
theorem dX5_knows_47 : decode cX5_knows 47 = .ok (.iload_n 1, 1) := by decide +kernel
theorem dX5_knows_48 : decode cX5_knows 48 = .ok (.iadd, 1) := by decide +kernel
theorem dX5_knows_49 : decode cX5_knows 49 = .ok (.iaload, 1) := by decide +kernel
theorem dX5_knows_50 : decode cX5_knows 50 = .ok (.ireturn, 1) := by decide +kernel
theorem dX5_through_0 : decode cX5_through 0 = .ok (.aload_n 0, 1) := by decide +kernel
theorem dX5_through_1 : decode cX5_through 1 = .ok (.iconst 0, 1) := by decide +kernel
theorem dX5_through_2 : decode cX5_through 2 = .ok (.putfield 73, 3) := by decide +kernel
theorem dX5_through_5 : decode cX5_through 5 = .ok (.aload_n 0, 1) := by decide +kernel
theorem dX5_through_6 : decode cX5_through 6 = .ok (.iload_n 1, 1) := by decide +kernel
theorem dX5_through_7 : decode cX5_through 7 = .ok (.invokevirtual 208, 3) := by decide +kernel
theorem dX5_through_10 : decode cX5_through 10 = .ok (.ifCond .eq 10, 3) := by decide +kernel
theorem dX5_through_13 : decode cX5_through 13 = .ok (.iload_n 2, 1) := by decide +kernel
theorem dX5_through_14 : decode cX5_through 14 = .ok (.invokestatic 219, 3) := by decide +kernel
theorem dX5_through_17 : decode cX5_through 17 = .ok (.ifCond .ne 9, 3) := by decide +kernel
theorem dX5_through_20 : decode cX5_through 20 = .ok (.aload_n 0, 1) := by decide +kernel
theorem dX5_through_21 : decode cX5_through 21 = .ok (.iconst (-1), 1) := by decide +kernel
theorem dX5_through_22 : decode cX5_through 22 = .ok (.invokevirtual 129, 3) := by decide +kernel
theorem dX5_through_25 : decode cX5_through 25 = .ok (.ireturn, 1) := by decide +kernel
theorem dX5_through_26 : decode cX5_through 26 = .ok (.aload_n 0, 1) := by decide +kernel
theorem dX5_through_27 : decode cX5_through 27 = .ok (.invokevirtual 123, 3) := by decide +kernel
theorem dX5_through_30 : decode cX5_through 30 = .ok (.aload_n 0, 1) := by decide +kernel
theorem dX5_through_31 : decode cX5_through 31 = .ok (.getfield 40, 3) := by decide +kernel
theorem dX5_through_34 : decode cX5_through 34 = .ok (.bipush 6, 2) := by decide +kernel
theorem dX5_through_36 : decode cX5_through 36 = .ok (.iload_n 2, 1) := by decide +kernel
theorem dX5_through_37 : decode cX5_through 37 = .ok (.imul, 1) := by decide +kernel
theorem dX5_through_38 : decode cX5_through 38 = .ok (.iload_n 1, 1) := by decide +kernel
theorem dX5_through_39 : decode cX5_through 39 = .ok (.iadd, 1) := by decide +kernel
theorem dX5_through_40 : decode cX5_through 40 = .ok (.iaload, 1) := by decide +kernel
theorem dX5_through_41 : decode cX5_through 41 = .ok (.ireturn, 1) := by decide +kernel
theorem dX5_speakers_0 : decode cX5_speakers 0 = .ok (.iconst 0, 1) := by decide +kernel
theorem dX5_speakers_1 : decode cX5_speakers 1 = .ok (.istore_n 3, 1) := by decide +kernel
theorem dX5_speakers_2 : decode cX5_speakers 2 = .ok (.iconst 0, 1) := by decide +kernel
theorem dX5_speakers_3 : decode cX5_speakers 3 = .ok (.istore 4, 2) := by decide +kernel
theorem dX5_speakers_5 : decode cX5_speakers 5 = .ok (.iload 4, 2) := by decide +kernel
theorem dX5_speakers_7 : decode cX5_speakers 7 = .ok (.aload_n 0, 1) := by decide +kernel
theorem dX5_speakers_8 : decode cX5_speakers 8 = .ok (.getfield 84, 3) := by decide +kernel
theorem dX5_speakers_11 : decode cX5_speakers 11 = .ok (.if_icmp .ge 49, 3) := by decide +kernel
theorem dX5_speakers_14 : decode cX5_speakers 14 = .ok (.aload_n 0, 1) := by decide +kernel
theorem dX5_speakers_15 : decode cX5_speakers 15 = .ok (.getfield 40, 3) := by decide +kernel
theorem dX5_speakers_18 : decode cX5_speakers 18 = .ok (.bipush 6, 2) := by decide +kernel
theorem dX5_speakers_20 : decode cX5_speakers 20 = .ok (.iload_n 2, 1) := by decide +kernel
theorem dX5_speakers_21 : decode cX5_speakers 21 = .ok (.imul, 1) := by decide +kernel
theorem dX5_speakers_22 : decode cX5_speakers 22 = .ok (.iload 4, 2) := by decide +kernel
theorem dX5_speakers_24 : decode cX5_speakers 24 = .ok (.iadd, 1) := by decide +kernel
theorem dX5_speakers_25 : decode cX5_speakers 25 = .ok (.iaload, 1) := by decide +kernel
theorem dX5_speakers_26 : decode cX5_speakers 26 = .ok (.istore 5, 2) := by decide +kernel
theorem dX5_speakers_28 : decode cX5_speakers 28 = .ok (.iload_n 3, 1) := by decide +kernel
theorem dX5_speakers_29 : decode cX5_speakers 29 = .ok (.iload 5, 2) := by decide +kernel
theorem dX5_speakers_31 : decode cX5_speakers 31 = .ok (.ifCond .lt 20, 3) := by decide +kernel
theorem dX5_speakers_34 : decode cX5_speakers 34 = .ok (.iload_n 1, 1) := by decide +kernel
theorem dX5_speakers_35 : decode cX5_speakers 35 = .ok (.ifCond .lt 9, 3) := by decide +kernel
theorem dX5_speakers_38 : decode cX5_speakers 38 = .ok (.iload 5, 2) := by decide +kernel
theorem dX5_speakers_40 : decode cX5_speakers 40 = .ok (.iload_n 1, 1) := by decide +kernel
theorem dX5_speakers_41 : decode cX5_speakers 41 = .ok (.if_icmp .ne 10, 3) := by decide +kernel
theorem dX5_speakers_44 : decode cX5_speakers 44 = .ok (.iconst 1, 1) := by decide +kernel
theorem dX5_speakers_45 : decode cX5_speakers 45 = .ok (.iload 4, 2) := by decide +kernel
theorem dX5_speakers_47 : decode cX5_speakers 47 = .ok (.ishl, 1) := by decide +kernel
theorem dX5_speakers_48 : decode cX5_speakers 48 = .ok (.goto 4, 3) := by decide +kernel
theorem dX5_speakers_51 : decode cX5_speakers 51 = .ok (.iconst 0, 1) := by decide +kernel
theorem dX5_speakers_52 : decode cX5_speakers 52 = .ok (.ior, 1) := by decide +kernel
theorem dX5_speakers_53 : decode cX5_speakers 53 = .ok (.istore_n 3, 1) := by decide +kernel
theorem dX5_speakers_54 : decode cX5_speakers 54 = .ok (.iinc 4 1, 3) := by decide +kernel
theorem dX5_speakers_57 : decode cX5_speakers 57 = .ok (.goto (-52), 3) := by decide +kernel
theorem dX5_speakers_60 : decode cX5_speakers 60 = .ok (.iload_n 3, 1) := by decide +kernel
theorem dX5_speakers_61 : decode cX5_speakers 61 = .ok (.ireturn, 1) := by decide +kernel
theorem dX5_speak_0 : decode cX5_speak 0 = .ok (.aload_n 0, 1) := by decide +kernel
theorem dX5_speak_1 : decode cX5_speak 1 = .ok (.iconst 0, 1) := by decide +kernel
theorem dX5_speak_2 : decode cX5_speak 2 = .ok (.putfield 73, 3) := by decide +kernel
theorem dX5_speak_5 : decode cX5_speak 5 = .ok (.iload_n 1, 1) := by decide +kernel
theorem dX5_speak_6 : decode cX5_speak 6 = .ok (.i2l, 1) := by decide +kernel
theorem dX5_speak_7 : decode cX5_speak 7 = .ok (.ldc2_w 231, 3) := by decide +kernel
theorem dX5_speak_10 : decode cX5_speak 10 = .ok (.aload_n 0, 1) := by decide +kernel
theorem dX5_speak_11 : decode cX5_speak 11 = .ok (.getfield 77, 3) := by decide +kernel
theorem dX5_speak_14 : decode cX5_speak 14 = .ok (.iconst 1, 1) := by decide +kernel
theorem dX5_speak_15 : decode cX5_speak 15 = .ok (.isub, 1) := by decide +kernel
theorem dX5_speak_16 : decode cX5_speak 16 = .ok (.i2l, 1) := by decide +kernel
theorem dX5_speak_17 : decode cX5_speak 17 = .ok (.invokestatic 80, 3) := by decide +kernel
theorem dX5_speak_20 : decode cX5_speak 20 = .ok (.ifCond .eq 10, 3) := by decide +kernel
theorem dX5_speak_23 : decode cX5_speak 23 = .ok (.iload_n 2, 1) := by decide +kernel
theorem dX5_speak_24 : decode cX5_speak 24 = .ok (.invokestatic 219, 3) := by decide +kernel
theorem dX5_speak_27 : decode cX5_speak 27 = .ok (.ifCond .ne 9, 3) := by decide +kernel
theorem dX5_speak_30 : decode cX5_speak 30 = .ok (.aload_n 0, 1) := by decide +kernel
theorem dX5_speak_31 : decode cX5_speak 31 = .ok (.iconst (-1), 1) := by decide +kernel
theorem dX5_speak_32 : decode cX5_speak 32 = .ok (.invokevirtual 129, 3) := by decide +kernel
theorem dX5_speak_35 : decode cX5_speak 35 = .ok (.ireturn, 1) := by decide +kernel
theorem dX5_speak_36 : decode cX5_speak 36 = .ok (.aload_n 0, 1) := by decide +kernel
theorem dX5_speak_37 : decode cX5_speak 37 = .ok (.invokevirtual 123, 3) := by decide +kernel
theorem dX5_speak_40 : decode cX5_speak 40 = .ok (.iload_n 1, 1) := by decide +kernel
theorem dX5_speak_41 : decode cX5_speak 41 = .ok (.ifCond .ge 15, 3) := by decide +kernel
theorem dX5_speak_44 : decode cX5_speak 44 = .ok (.aload_n 0, 1) := by decide +kernel
theorem dX5_speak_45 : decode cX5_speak 45 = .ok (.iconst (-1), 1) := by decide +kernel
theorem dX5_speak_46 : decode cX5_speak 46 = .ok (.iload_n 2, 1) := by decide +kernel
theorem dX5_speak_47 : decode cX5_speak 47 = .ok (.invokevirtual 233, 3) := by decide +kernel
theorem dX5_speak_50 : decode cX5_speak 50 = .ok (.invokestatic 120, 3) := by decide +kernel
theorem dX5_speak_53 : decode cX5_speak 53 = .ok (.goto 9, 3) := by decide +kernel
theorem dX5_speak_56 : decode cX5_speak 56 = .ok (.aload_n 0, 1) := by decide +kernel
theorem dX5_speak_57 : decode cX5_speak 57 = .ok (.iload_n 1, 1) := by decide +kernel
theorem dX5_speak_58 : decode cX5_speak 58 = .ok (.iload_n 2, 1) := by decide +kernel
theorem dX5_speak_59 : decode cX5_speak 59 = .ok (.invokevirtual 233, 3) := by decide +kernel
theorem dX5_speak_62 : decode cX5_speak 62 = .ok (.ireturn, 1) := by decide +kernel
theorem dX5_two_0 : decode cX5_two 0 = .ok (.aload_n 0, 1) := by decide +kernel
theorem dX5_two_1 : decode cX5_two 1 = .ok (.iconst 0, 1) := by decide +kernel
theorem dX5_two_2 : decode cX5_two 2 = .ok (.putfield 73, 3) := by decide +kernel
theorem dX5_two_5 : decode cX5_two 5 = .ok (.iload_n 1, 1) := by decide +kernel
theorem dX5_two_6 : decode cX5_two 6 = .ok (.i2l, 1) := by decide +kernel
theorem dX5_two_7 : decode cX5_two 7 = .ok (.lconst 0, 1) := by decide +kernel
theorem dX5_two_8 : decode cX5_two 8 = .ok (.lconst 1, 1) := by decide +kernel
theorem dX5_two_9 : decode cX5_two 9 = .ok (.invokestatic 80, 3) := by decide +kernel
theorem dX5_two_12 : decode cX5_two 12 = .ok (.ifCond .ne 10, 3) := by decide +kernel
theorem dX5_two_15 : decode cX5_two 15 = .ok (.aload_n 0, 1) := by decide +kernel
theorem dX5_two_16 : decode cX5_two 16 = .ok (.bipush (-2), 2) := by decide +kernel
theorem dX5_two_18 : decode cX5_two 18 = .ok (.invokevirtual 129, 3) := by decide +kernel
theorem dX5_two_21 : decode cX5_two 21 = .ok (.ireturn, 1) := by decide +kernel
theorem dX5_two_22 : decode cX5_two 22 = .ok (.aload_n 0, 1) := by decide +kernel
theorem dX5_two_23 : decode cX5_two 23 = .ok (.invokevirtual 123, 3) := by decide +kernel
theorem dX5_two_26 : decode cX5_two 26 = .ok (.bipush (-9), 2) := by decide +kernel
theorem dX5_two_28 : decode cX5_two 28 = .ok (.istore_n 2, 1) := by decide +kernel
theorem dX5_two_29 : decode cX5_two 29 = .ok (.iconst 0, 1) := by decide +kernel
theorem dX5_two_30 : decode cX5_two 30 = .ok (.istore_n 3, 1) := by decide +kernel
theorem dX5_two_31 : decode cX5_two 31 = .ok (.iconst 0, 1) := by decide +kernel
theorem dX5_two_32 : decode cX5_two 32 = .ok (.istore 4, 2) := by decide +kernel
theorem dX5_two_34 : decode cX5_two 34 = .ok (.iload 4, 2) := by decide +kernel
theorem dX5_two_36 : decode cX5_two 36 = .ok (.bipush 24, 2) := by decide +kernel
theorem dX5_two_38 : decode cX5_two 38 = .ok (.if_icmp .ge 86, 3) := by decide +kernel
theorem dX5_two_41 : decode cX5_two 41 = .ok (.iconst 0, 1) := by decide +kernel
theorem dX5_two_42 : decode cX5_two 42 = .ok (.istore 5, 2) := by decide +kernel
theorem dX5_two_44 : decode cX5_two 44 = .ok (.iconst 0, 1) := by decide +kernel
theorem dX5_two_45 : decode cX5_two 45 = .ok (.istore 6, 2) := by decide +kernel
theorem dX5_two_47 : decode cX5_two 47 = .ok (.iload 6, 2) := by decide +kernel
theorem dX5_two_49 : decode cX5_two 49 = .ok (.aload_n 0, 1) := by decide +kernel
theorem dX5_two_50 : decode cX5_two 50 = .ok (.getfield 77, 3) := by decide +kernel
theorem dX5_two_53 : decode cX5_two 53 = .ok (.if_icmp .ge 36, 3) := by decide +kernel
theorem dX5_two_56 : decode cX5_two 56 = .ok (.iload 5, 2) := by decide +kernel
theorem dX5_two_58 : decode cX5_two 58 = .ok (.ifCond .ne 18, 3) := by decide +kernel
theorem dX5_two_61 : decode cX5_two 61 = .ok (.aload_n 0, 1) := by decide +kernel
theorem dX5_two_62 : decode cX5_two 62 = .ok (.iload 6, 2) := by decide +kernel
theorem dX5_two_64 : decode cX5_two 64 = .ok (.iload 4, 2) := by decide +kernel
theorem dX5_two_66 : decode cX5_two 66 = .ok (.invokevirtual 233, 3) := by decide +kernel
theorem dX5_two_69 : decode cX5_two 69 = .ok (.invokestatic 120, 3) := by decide +kernel
theorem dX5_two_72 : decode cX5_two 72 = .ok (.iconst 1, 1) := by decide +kernel
theorem dX5_two_73 : decode cX5_two 73 = .ok (.if_icmp .le 7, 3) := by decide +kernel
theorem dX5_two_76 : decode cX5_two 76 = .ok (.iconst 1, 1) := by decide +kernel
theorem dX5_two_77 : decode cX5_two 77 = .ok (.goto 4, 3) := by decide +kernel
theorem dX5_two_80 : decode cX5_two 80 = .ok (.iconst 0, 1) := by decide +kernel
theorem dX5_two_81 : decode cX5_two 81 = .ok (.istore 5, 2) := by decide +kernel
theorem dX5_two_83 : decode cX5_two 83 = .ok (.iinc 6 1, 3) := by decide +kernel
theorem dX5_two_86 : decode cX5_two 86 = .ok (.goto (-39), 3) := by decide +kernel
theorem dX5_two_89 : decode cX5_two 89 = .ok (.iload 5, 2) := by decide +kernel
theorem dX5_two_91 : decode cX5_two 91 = .ok (.ifCond .eq 12, 3) := by decide +kernel
theorem dX5_two_94 : decode cX5_two 94 = .ok (.iload_n 2, 1) := by decide +kernel
theorem dX5_two_95 : decode cX5_two 95 = .ok (.ifCond .ge 8, 3) := by decide +kernel
theorem dX5_two_98 : decode cX5_two 98 = .ok (.iload 4, 2) := by decide +kernel
theorem dX5_two_100 : decode cX5_two 100 = .ok (.goto 4, 3) := by decide +kernel
theorem dX5_two_103 : decode cX5_two 103 = .ok (.iload_n 2, 1) := by decide +kernel
theorem dX5_two_104 : decode cX5_two 104 = .ok (.istore_n 2, 1) := by decide +kernel
theorem dX5_two_105 : decode cX5_two 105 = .ok (.iload_n 3, 1) := by decide +kernel
theorem dX5_two_106 : decode cX5_two 106 = .ok (.iload 5, 2) := by decide +kernel
theorem dX5_two_108 : decode cX5_two 108 = .ok (.ifCond .eq 7, 3) := by decide +kernel
theorem dX5_two_111 : decode cX5_two 111 = .ok (.iconst 1, 1) := by decide +kernel
theorem dX5_two_112 : decode cX5_two 112 = .ok (.goto 4, 3) := by decide +kernel
theorem dX5_two_115 : decode cX5_two 115 = .ok (.iconst 0, 1) := by decide +kernel
theorem dX5_two_116 : decode cX5_two 116 = .ok (.iadd, 1) := by decide +kernel
theorem dX5_two_117 : decode cX5_two 117 = .ok (.istore_n 3, 1) := by decide +kernel
theorem dX5_two_118 : decode cX5_two 118 = .ok (.iinc 4 1, 3) := by decide +kernel
theorem dX5_two_121 : decode cX5_two 121 = .ok (.goto (-87), 3) := by decide +kernel
theorem dX5_two_124 : decode cX5_two 124 = .ok (.iload_n 1, 1) := by decide +kernel
theorem dX5_two_125 : decode cX5_two 125 = .ok (.ifCond .ne 7, 3) := by decide +kernel
theorem dX5_two_128 : decode cX5_two 128 = .ok (.iload_n 2, 1) := by decide +kernel
theorem dX5_two_129 : decode cX5_two 129 = .ok (.goto 4, 3) := by decide +kernel
theorem dX5_two_132 : decode cX5_two 132 = .ok (.iload_n 3, 1) := by decide +kernel
theorem dX5_two_133 : decode cX5_two 133 = .ok (.ireturn, 1) := by decide +kernel
theorem dX5_heardAt_0 : decode cX5_heardAt 0 = .ok (.iconst 0, 1) := by decide +kernel
theorem dX5_heardAt_1 : decode cX5_heardAt 1 = .ok (.istore_n 3, 1) := by decide +kernel
theorem dX5_heardAt_2 : decode cX5_heardAt 2 = .ok (.iload_n 3, 1) := by decide +kernel
theorem dX5_heardAt_3 : decode cX5_heardAt 3 = .ok (.bipush 24, 2) := by decide +kernel
theorem dX5_heardAt_5 : decode cX5_heardAt 5 = .ok (.if_icmp .gt 29, 3) := by decide +kernel
theorem dX5_heardAt_8 : decode cX5_heardAt 8 = .ok (.aload_n 0, 1) := by decide +kernel
theorem dX5_heardAt_9 : decode cX5_heardAt 9 = .ok (.getfield 37, 3) := by decide +kernel
theorem dX5_heardAt_12 : decode cX5_heardAt 12 = .ok (.bipush 7, 2) := by decide +kernel
theorem dX5_heardAt_14 : decode cX5_heardAt 14 = .ok (.iload_n 3, 1) := by decide +kernel
theorem dX5_heardAt_15 : decode cX5_heardAt 15 = .ok (.imul, 1) := by decide +kernel
theorem dX5_heardAt_16 : decode cX5_heardAt 16 = .ok (.iload_n 1, 1) := by decide +kernel
theorem dX5_heardAt_17 : decode cX5_heardAt 17 = .ok (.iadd, 1) := by decide +kernel
theorem dX5_heardAt_18 : decode cX5_heardAt 18 = .ok (.iaload, 1) := by decide +kernel
theorem dX5_heardAt_19 : decode cX5_heardAt 19 = .ok (.iload_n 2, 1) := by decide +kernel
theorem dX5_heardAt_20 : decode cX5_heardAt 20 = .ok (.invokestatic 95, 3) := by decide +kernel
theorem dX5_heardAt_23 : decode cX5_heardAt 23 = .ok (.ifCond .eq 5, 3) := by decide +kernel
theorem dX5_heardAt_26 : decode cX5_heardAt 26 = .ok (.iload_n 3, 1) := by decide +kernel
theorem dX5_heardAt_27 : decode cX5_heardAt 27 = .ok (.ireturn, 1) := by decide +kernel
theorem dX5_heardAt_28 : decode cX5_heardAt 28 = .ok (.iinc 3 1, 3) := by decide +kernel
theorem dX5_heardAt_31 : decode cX5_heardAt 31 = .ok (.goto (-29), 3) := by decide +kernel
theorem dX5_heardAt_34 : decode cX5_heardAt 34 = .ok (.bipush (-9), 2) := by decide +kernel
theorem dX5_heardAt_36 : decode cX5_heardAt 36 = .ok (.ireturn, 1) := by decide +kernel
theorem dX5_heard_0 : decode cX5_heard 0 = .ok (.aload_n 0, 1) := by decide +kernel
theorem dX5_heard_1 : decode cX5_heard 1 = .ok (.iconst 0, 1) := by decide +kernel
theorem dX5_heard_2 : decode cX5_heard 2 = .ok (.putfield 73, 3) := by decide +kernel
theorem dX5_heard_5 : decode cX5_heard 5 = .ok (.aload_n 0, 1) := by decide +kernel
theorem dX5_heard_6 : decode cX5_heard 6 = .ok (.iload_n 1, 1) := by decide +kernel
theorem dX5_heard_7 : decode cX5_heard 7 = .ok (.invokevirtual 164, 3) := by decide +kernel
theorem dX5_heard_10 : decode cX5_heard 10 = .ok (.ifCond .eq 10, 3) := by decide +kernel
theorem dX5_heard_13 : decode cX5_heard 13 = .ok (.iload_n 2, 1) := by decide +kernel
theorem dX5_heard_14 : decode cX5_heard 14 = .ok (.invokestatic 225, 3) := by decide +kernel
theorem dX5_heard_17 : decode cX5_heard 17 = .ok (.ifCond .ne 9, 3) := by decide +kernel
theorem dX5_heard_20 : decode cX5_heard 20 = .ok (.aload_n 0, 1) := by decide +kernel
theorem dX5_heard_21 : decode cX5_heard 21 = .ok (.iconst (-1), 1) := by decide +kernel
theorem dX5_heard_22 : decode cX5_heard 22 = .ok (.invokevirtual 129, 3) := by decide +kernel
theorem dX5_heard_25 : decode cX5_heard 25 = .ok (.ireturn, 1) := by decide +kernel
theorem dX5_heard_26 : decode cX5_heard 26 = .ok (.aload_n 0, 1) := by decide +kernel
theorem dX5_heard_27 : decode cX5_heard 27 = .ok (.invokevirtual 123, 3) := by decide +kernel
theorem dX5_heard_30 : decode cX5_heard 30 = .ok (.aload_n 0, 1) := by decide +kernel
theorem dX5_heard_31 : decode cX5_heard 31 = .ok (.iload_n 1, 1) := by decide +kernel
theorem dX5_heard_32 : decode cX5_heard 32 = .ok (.iload_n 2, 1) := by decide +kernel
theorem dX5_heard_33 : decode cX5_heard 33 = .ok (.invokevirtual 236, 3) := by decide +kernel
theorem dX5_heard_36 : decode cX5_heard 36 = .ok (.ireturn, 1) := by decide +kernel
theorem dX5_spokeOf_0 : decode cX5_spokeOf 0 = .ok (.iconst 0, 1) := by decide +kernel
theorem dX5_spokeOf_1 : decode cX5_spokeOf 1 = .ok (.istore_n 2, 1) := by decide +kernel
theorem dX5_spokeOf_2 : decode cX5_spokeOf 2 = .ok (.iconst 0, 1) := by decide +kernel
theorem dX5_spokeOf_3 : decode cX5_spokeOf 3 = .ok (.istore_n 3, 1) := by decide +kernel
theorem dX5_spokeOf_4 : decode cX5_spokeOf 4 = .ok (.iload_n 3, 1) := by decide +kernel
theorem dX5_spokeOf_5 : decode cX5_spokeOf 5 = .ok (.bipush 24, 2) := by decide +kernel
theorem dX5_spokeOf_7 : decode cX5_spokeOf 7 = .ok (.if_icmp .ge 31, 3) := by decide +kernel
theorem dX5_spokeOf_10 : decode cX5_spokeOf 10 = .ok (.iload_n 2, 1) := by decide +kernel
theorem dX5_spokeOf_11 : decode cX5_spokeOf 11 = .ok (.aload_n 0, 1) := by decide +kernel
theorem dX5_spokeOf_12 : decode cX5_spokeOf 12 = .ok (.getfield 40, 3) := by decide +kernel
theorem dX5_spokeOf_15 : decode cX5_spokeOf 15 = .ok (.bipush 6, 2) := by decide +kernel
theorem dX5_spokeOf_17 : decode cX5_spokeOf 17 = .ok (.iload_n 3, 1) := by decide +kernel
theorem dX5_spokeOf_18 : decode cX5_spokeOf 18 = .ok (.imul, 1) := by decide +kernel
theorem dX5_spokeOf_19 : decode cX5_spokeOf 19 = .ok (.iload_n 1, 1) := by decide +kernel
theorem dX5_spokeOf_20 : decode cX5_spokeOf 20 = .ok (.iadd, 1) := by decide +kernel
theorem dX5_spokeOf_21 : decode cX5_spokeOf 21 = .ok (.iaload, 1) := by decide +kernel
theorem dX5_spokeOf_22 : decode cX5_spokeOf 22 = .ok (.ifCond .lt 7, 3) := by decide +kernel
theorem dX5_spokeOf_25 : decode cX5_spokeOf 25 = .ok (.iconst 1, 1) := by decide +kernel
theorem dX5_spokeOf_26 : decode cX5_spokeOf 26 = .ok (.goto 4, 3) := by decide +kernel
theorem dX5_spokeOf_29 : decode cX5_spokeOf 29 = .ok (.iconst 0, 1) := by decide +kernel
theorem dX5_spokeOf_30 : decode cX5_spokeOf 30 = .ok (.iadd, 1) := by decide +kernel
theorem dX5_spokeOf_31 : decode cX5_spokeOf 31 = .ok (.istore_n 2, 1) := by decide +kernel
theorem dX5_spokeOf_32 : decode cX5_spokeOf 32 = .ok (.iinc 3 1, 3) := by decide +kernel
theorem dX5_spokeOf_35 : decode cX5_spokeOf 35 = .ok (.goto (-31), 3) := by decide +kernel
theorem dX5_spokeOf_38 : decode cX5_spokeOf 38 = .ok (.iload_n 2, 1) := by decide +kernel
theorem dX5_spokeOf_39 : decode cX5_spokeOf 39 = .ok (.ireturn, 1) := by decide +kernel
theorem dX5_spoke_0 : decode cX5_spoke 0 = .ok (.aload_n 0, 1) := by decide +kernel
theorem dX5_spoke_1 : decode cX5_spoke 1 = .ok (.iconst 0, 1) := by decide +kernel
theorem dX5_spoke_2 : decode cX5_spoke 2 = .ok (.putfield 73, 3) := by decide +kernel
theorem dX5_spoke_5 : decode cX5_spoke 5 = .ok (.aload_n 0, 1) := by decide +kernel
theorem dX5_spoke_6 : decode cX5_spoke 6 = .ok (.iload_n 1, 1) := by decide +kernel
theorem dX5_spoke_7 : decode cX5_spoke 7 = .ok (.invokevirtual 208, 3) := by decide +kernel
theorem dX5_spoke_10 : decode cX5_spoke 10 = .ok (.ifCond .ne 9, 3) := by decide +kernel
theorem dX5_spoke_13 : decode cX5_spoke 13 = .ok (.aload_n 0, 1) := by decide +kernel
theorem dX5_spoke_14 : decode cX5_spoke 14 = .ok (.iconst (-1), 1) := by decide +kernel
theorem dX5_spoke_15 : decode cX5_spoke 15 = .ok (.invokevirtual 129, 3) := by decide +kernel
theorem dX5_spoke_18 : decode cX5_spoke 18 = .ok (.ireturn, 1) := by decide +kernel
theorem dX5_spoke_19 : decode cX5_spoke 19 = .ok (.aload_n 0, 1) := by decide +kernel
theorem dX5_spoke_20 : decode cX5_spoke 20 = .ok (.invokevirtual 123, 3) := by decide +kernel
theorem dX5_spoke_23 : decode cX5_spoke 23 = .ok (.aload_n 0, 1) := by decide +kernel
theorem dX5_spoke_24 : decode cX5_spoke 24 = .ok (.iload_n 1, 1) := by decide +kernel
theorem dX5_spoke_25 : decode cX5_spoke 25 = .ok (.invokevirtual 239, 3) := by decide +kernel
theorem dX5_spoke_28 : decode cX5_spoke 28 = .ok (.ireturn, 1) := by decide +kernel
theorem dX5_knowing_0 : decode cX5_knowing 0 = .ok (.iconst 0, 1) := by decide +kernel
theorem dX5_knowing_1 : decode cX5_knowing 1 = .ok (.istore_n 2, 1) := by decide +kernel
theorem dX5_knowing_2 : decode cX5_knowing 2 = .ok (.iconst 0, 1) := by decide +kernel
theorem dX5_knowing_3 : decode cX5_knowing 3 = .ok (.istore_n 3, 1) := by decide +kernel
theorem dX5_knowing_4 : decode cX5_knowing 4 = .ok (.iload_n 3, 1) := by decide +kernel
theorem dX5_knowing_5 : decode cX5_knowing 5 = .ok (.aload_n 0, 1) := by decide +kernel
theorem dX5_knowing_6 : decode cX5_knowing 6 = .ok (.getfield 77, 3) := by decide +kernel
theorem dX5_knowing_9 : decode cX5_knowing 9 = .ok (.if_icmp .ge 32, 3) := by decide +kernel
theorem dX5_knowing_12 : decode cX5_knowing 12 = .ok (.iload_n 2, 1) := by decide +kernel
theorem dX5_knowing_13 : decode cX5_knowing 13 = .ok (.aload_n 0, 1) := by decide +kernel
theorem dX5_knowing_14 : decode cX5_knowing 14 = .ok (.getfield 34, 3) := by decide +kernel
theorem dX5_knowing_17 : decode cX5_knowing 17 = .ok (.iload_n 3, 1) := by decide +kernel
theorem dX5_knowing_18 : decode cX5_knowing 18 = .ok (.iaload, 1) := by decide +kernel
theorem dX5_knowing_19 : decode cX5_knowing 19 = .ok (.iload_n 1, 1) := by decide +kernel
theorem dX5_knowing_20 : decode cX5_knowing 20 = .ok (.invokestatic 95, 3) := by decide +kernel
theorem dX5_knowing_23 : decode cX5_knowing 23 = .ok (.ifCond .eq 9, 3) := by decide +kernel
theorem dX5_knowing_26 : decode cX5_knowing 26 = .ok (.iconst 1, 1) := by decide +kernel
theorem dX5_knowing_27 : decode cX5_knowing 27 = .ok (.iload_n 3, 1) := by decide +kernel
theorem dX5_knowing_28 : decode cX5_knowing 28 = .ok (.ishl, 1) := by decide +kernel
theorem dX5_knowing_29 : decode cX5_knowing 29 = .ok (.goto 4, 3) := by decide +kernel
theorem dX5_knowing_32 : decode cX5_knowing 32 = .ok (.iconst 0, 1) := by decide +kernel
theorem dX5_knowing_33 : decode cX5_knowing 33 = .ok (.ior, 1) := by decide +kernel
theorem dX5_knowing_34 : decode cX5_knowing 34 = .ok (.istore_n 2, 1) := by decide +kernel
theorem dX5_knowing_35 : decode cX5_knowing 35 = .ok (.iinc 3 1, 3) := by decide +kernel
theorem dX5_knowing_38 : decode cX5_knowing 38 = .ok (.goto (-34), 3) := by decide +kernel
theorem dX5_knowing_41 : decode cX5_knowing 41 = .ok (.iload_n 2, 1) := by decide +kernel
theorem dX5_knowing_42 : decode cX5_knowing 42 = .ok (.ireturn, 1) := by decide +kernel
theorem dX5_told_0 : decode cX5_told 0 = .ok (.aload_n 0, 1) := by decide +kernel
theorem dX5_told_1 : decode cX5_told 1 = .ok (.iconst 0, 1) := by decide +kernel
theorem dX5_told_2 : decode cX5_told 2 = .ok (.putfield 73, 3) := by decide +kernel
theorem dX5_told_5 : decode cX5_told 5 = .ok (.iload_n 1, 1) := by decide +kernel
theorem dX5_told_6 : decode cX5_told 6 = .ok (.invokestatic 225, 3) := by decide +kernel
theorem dX5_told_9 : decode cX5_told 9 = .ok (.ifCond .eq 13, 3) := by decide +kernel
theorem dX5_told_12 : decode cX5_told 12 = .ok (.iload_n 2, 1) := by decide +kernel
theorem dX5_told_13 : decode cX5_told 13 = .ok (.i2l, 1) := by decide +kernel
theorem dX5_told_14 : decode cX5_told 14 = .ok (.lconst 0, 1) := by decide +kernel
theorem dX5_told_15 : decode cX5_told 15 = .ok (.lconst 1, 1) := by decide +kernel
theorem dX5_told_16 : decode cX5_told 16 = .ok (.invokestatic 80, 3) := by decide +kernel
theorem dX5_told_19 : decode cX5_told 19 = .ok (.ifCond .ne 21, 3) := by decide +kernel
theorem dX5_told_22 : decode cX5_told 22 = .ok (.aload_n 0, 1) := by decide +kernel
theorem dX5_told_23 : decode cX5_told 23 = .ok (.iload_n 1, 1) := by decide +kernel
theorem dX5_told_24 : decode cX5_told 24 = .ok (.invokestatic 225, 3) := by decide +kernel
theorem dX5_told_27 : decode cX5_told 27 = .ok (.ifCond .eq 8, 3) := by decide +kernel
theorem dX5_told_30 : decode cX5_told 30 = .ok (.bipush (-2), 2) := by decide +kernel
theorem dX5_told_32 : decode cX5_told 32 = .ok (.goto 4, 3) := by decide +kernel
theorem dX5_told_35 : decode cX5_told 35 = .ok (.iconst (-1), 1) := by decide +kernel
theorem dX5_told_36 : decode cX5_told 36 = .ok (.invokevirtual 129, 3) := by decide +kernel
theorem dX5_told_39 : decode cX5_told 39 = .ok (.ireturn, 1) := by decide +kernel
theorem dX5_told_40 : decode cX5_told 40 = .ok (.aload_n 0, 1) := by decide +kernel
theorem dX5_told_41 : decode cX5_told 41 = .ok (.invokevirtual 123, 3) := by decide +kernel
theorem dX5_told_44 : decode cX5_told 44 = .ok (.iconst 0, 1) := by decide +kernel
theorem dX5_told_45 : decode cX5_told 45 = .ok (.istore_n 3, 1) := by decide +kernel
theorem dX5_told_46 : decode cX5_told 46 = .ok (.iconst 0, 1) := by decide +kernel
theorem dX5_told_47 : decode cX5_told 47 = .ok (.istore 4, 2) := by decide +kernel
theorem dX5_told_49 : decode cX5_told 49 = .ok (.iload 4, 2) := by decide +kernel
theorem dX5_told_51 : decode cX5_told 51 = .ok (.aload_n 0, 1) := by decide +kernel
theorem dX5_told_52 : decode cX5_told 52 = .ok (.getfield 84, 3) := by decide +kernel
theorem dX5_told_55 : decode cX5_told 55 = .ok (.if_icmp .ge 33, 3) := by decide +kernel
theorem dX5_told_58 : decode cX5_told 58 = .ok (.iload_n 3, 1) := by decide +kernel
theorem dX5_told_59 : decode cX5_told 59 = .ok (.aload_n 0, 1) := by decide +kernel
theorem dX5_told_60 : decode cX5_told 60 = .ok (.getfield 28, 3) := by decide +kernel
theorem dX5_told_63 : decode cX5_told 63 = .ok (.iload 4, 2) := by decide +kernel
theorem dX5_told_65 : decode cX5_told 65 = .ok (.iaload, 1) := by decide +kernel
theorem dX5_told_66 : decode cX5_told 66 = .ok (.iload_n 1, 1) := by decide +kernel
theorem dX5_told_67 : decode cX5_told 67 = .ok (.if_icmp .ne 12, 3) := by decide +kernel
theorem dX5_told_70 : decode cX5_told 70 = .ok (.aload_n 0, 1) := by decide +kernel
theorem dX5_told_71 : decode cX5_told 71 = .ok (.iload 4, 2) := by decide +kernel
theorem dX5_told_73 : decode cX5_told 73 = .ok (.invokevirtual 239, 3) := by decide +kernel
theorem dX5_told_76 : decode cX5_told 76 = .ok (.goto 4, 3) := by decide +kernel
theorem dX5_told_79 : decode cX5_told 79 = .ok (.iconst 0, 1) := by decide +kernel
theorem dX5_told_80 : decode cX5_told 80 = .ok (.iadd, 1) := by decide +kernel
theorem dX5_told_81 : decode cX5_told 81 = .ok (.istore_n 3, 1) := by decide +kernel
theorem dX5_told_82 : decode cX5_told 82 = .ok (.iinc 4 1, 3) := by decide +kernel
theorem dX5_told_85 : decode cX5_told 85 = .ok (.goto (-36), 3) := by decide +kernel
theorem dX5_told_88 : decode cX5_told 88 = .ok (.iload_n 2, 1) := by decide +kernel
theorem dX5_told_89 : decode cX5_told 89 = .ok (.ifCond .ne 7, 3) := by decide +kernel
theorem dX5_told_92 : decode cX5_told 92 = .ok (.iload_n 3, 1) := by decide +kernel
theorem dX5_told_93 : decode cX5_told 93 = .ok (.goto 11, 3) := by decide +kernel
theorem dX5_told_96 : decode cX5_told 96 = .ok (.aload_n 0, 1) := by decide +kernel
theorem dX5_told_97 : decode cX5_told 97 = .ok (.iload_n 1, 1) := by decide +kernel
theorem dX5_told_98 : decode cX5_told 98 = .ok (.invokevirtual 242, 3) := by decide +kernel
theorem dX5_told_101 : decode cX5_told 101 = .ok (.invokestatic 120, 3) := by decide +kernel
theorem dX5_told_104 : decode cX5_told 104 = .ok (.ireturn, 1) := by decide +kernel
theorem dX5_all_0 : decode cX5_all 0 = .ok (.aload_n 0, 1) := by decide +kernel
theorem dX5_all_1 : decode cX5_all 1 = .ok (.iconst 0, 1) := by decide +kernel
theorem dX5_all_2 : decode cX5_all 2 = .ok (.putfield 73, 3) := by decide +kernel
theorem dX5_all_5 : decode cX5_all 5 = .ok (.aload_n 0, 1) := by decide +kernel
theorem dX5_all_6 : decode cX5_all 6 = .ok (.invokevirtual 245, 3) := by decide +kernel
theorem dX5_all_9 : decode cX5_all 9 = .ok (.ireturn, 1) := by decide +kernel
theorem dX5_shutAll_0 : decode cX5_shutAll 0 = .ok (.iconst 0, 1) := by decide +kernel
theorem dX5_shutAll_1 : decode cX5_shutAll 1 = .ok (.istore_n 2, 1) := by decide +kernel
theorem dX5_shutAll_2 : decode cX5_shutAll 2 = .ok (.iload_n 2, 1) := by decide +kernel
theorem dX5_shutAll_3 : decode cX5_shutAll 3 = .ok (.aload_n 0, 1) := by decide +kernel
theorem dX5_shutAll_4 : decode cX5_shutAll 4 = .ok (.getfield 77, 3) := by decide +kernel
theorem dX5_shutAll_7 : decode cX5_shutAll 7 = .ok (.if_icmp .ge 28, 3) := by decide +kernel
theorem dX5_shutAll_10 : decode cX5_shutAll 10 = .ok (.aload_n 0, 1) := by decide +kernel
theorem dX5_shutAll_11 : decode cX5_shutAll 11 = .ok (.getfield 16, 3) := by decide +kernel
theorem dX5_shutAll_14 : decode cX5_shutAll 14 = .ok (.iload_n 2, 1) := by decide +kernel
theorem dX5_shutAll_15 : decode cX5_shutAll 15 = .ok (.iload_n 1, 1) := by decide +kernel
theorem dX5_shutAll_16 : decode cX5_shutAll 16 = .ok (.iload_n 2, 1) := by decide +kernel
theorem dX5_shutAll_17 : decode cX5_shutAll 17 = .ok (.invokestatic 95, 3) := by decide +kernel
theorem dX5_shutAll_20 : decode cX5_shutAll 20 = .ok (.ifCond .eq 7, 3) := by decide +kernel
theorem dX5_shutAll_23 : decode cX5_shutAll 23 = .ok (.iconst 1, 1) := by decide +kernel
theorem dX5_shutAll_24 : decode cX5_shutAll 24 = .ok (.goto 4, 3) := by decide +kernel
theorem dX5_shutAll_27 : decode cX5_shutAll 27 = .ok (.iconst 0, 1) := by decide +kernel
theorem dX5_shutAll_28 : decode cX5_shutAll 28 = .ok (.iastore, 1) := by decide +kernel
theorem dX5_shutAll_29 : decode cX5_shutAll 29 = .ok (.iinc 2 1, 3) := by decide +kernel
theorem dX5_shutAll_32 : decode cX5_shutAll 32 = .ok (.goto (-30), 3) := by decide +kernel
theorem dX5_shutAll_35 : decode cX5_shutAll 35 = .ok (.return_, 1) := by decide +kernel
theorem dX5_shutBits_0 : decode cX5_shutBits 0 = .ok (.iconst 0, 1) := by decide +kernel
theorem dX5_shutBits_1 : decode cX5_shutBits 1 = .ok (.istore_n 1, 1) := by decide +kernel
theorem dX5_shutBits_2 : decode cX5_shutBits 2 = .ok (.iconst 0, 1) := by decide +kernel
theorem dX5_shutBits_3 : decode cX5_shutBits 3 = .ok (.istore_n 2, 1) := by decide +kernel
theorem dX5_shutBits_4 : decode cX5_shutBits 4 = .ok (.iload_n 2, 1) := by decide +kernel
theorem dX5_shutBits_5 : decode cX5_shutBits 5 = .ok (.aload_n 0, 1) := by decide +kernel
theorem dX5_shutBits_6 : decode cX5_shutBits 6 = .ok (.getfield 77, 3) := by decide +kernel
theorem dX5_shutBits_9 : decode cX5_shutBits 9 = .ok (.if_icmp .ge 20, 3) := by decide +kernel
theorem dX5_shutBits_12 : decode cX5_shutBits 12 = .ok (.iload_n 1, 1) := by decide +kernel
theorem dX5_shutBits_13 : decode cX5_shutBits 13 = .ok (.aload_n 0, 1) := by decide +kernel
theorem dX5_shutBits_14 : decode cX5_shutBits 14 = .ok (.getfield 16, 3) := by decide +kernel
theorem dX5_shutBits_17 : decode cX5_shutBits 17 = .ok (.iload_n 2, 1) := by decide +kernel
theorem dX5_shutBits_18 : decode cX5_shutBits 18 = .ok (.iaload, 1) := by decide +kernel
theorem dX5_shutBits_19 : decode cX5_shutBits 19 = .ok (.iload_n 2, 1) := by decide +kernel
theorem dX5_shutBits_20 : decode cX5_shutBits 20 = .ok (.ishl, 1) := by decide +kernel
theorem dX5_shutBits_21 : decode cX5_shutBits 21 = .ok (.ior, 1) := by decide +kernel
theorem dX5_shutBits_22 : decode cX5_shutBits 22 = .ok (.istore_n 1, 1) := by decide +kernel
theorem dX5_shutBits_23 : decode cX5_shutBits 23 = .ok (.iinc 2 1, 3) := by decide +kernel
theorem dX5_shutBits_26 : decode cX5_shutBits 26 = .ok (.goto (-22), 3) := by decide +kernel
theorem dX5_shutBits_29 : decode cX5_shutBits 29 = .ok (.iload_n 1, 1) := by decide +kernel
theorem dX5_shutBits_30 : decode cX5_shutBits 30 = .ok (.ireturn, 1) := by decide +kernel
theorem dX5_never_0 : decode cX5_never 0 = .ok (.aload_n 0, 1) := by decide +kernel
theorem dX5_never_1 : decode cX5_never 1 = .ok (.iconst 0, 1) := by decide +kernel
theorem dX5_never_2 : decode cX5_never 2 = .ok (.putfield 73, 3) := by decide +kernel
theorem dX5_never_5 : decode cX5_never 5 = .ok (.aload_n 0, 1) := by decide +kernel
theorem dX5_never_6 : decode cX5_never 6 = .ok (.iload_n 1, 1) := by decide +kernel
theorem dX5_never_7 : decode cX5_never 7 = .ok (.invokevirtual 164, 3) := by decide +kernel
theorem dX5_never_10 : decode cX5_never 10 = .ok (.ifCond .eq 19, 3) := by decide +kernel
theorem dX5_never_13 : decode cX5_never 13 = .ok (.iload_n 2, 1) := by decide +kernel
theorem dX5_never_14 : decode cX5_never 14 = .ok (.invokestatic 225, 3) := by decide +kernel
theorem dX5_never_17 : decode cX5_never 17 = .ok (.ifCond .eq 12, 3) := by decide +kernel
theorem dX5_never_20 : decode cX5_never 20 = .ok (.iconst 0, 1) := by decide +kernel
theorem dX5_never_21 : decode cX5_never 21 = .ok (.iload_n 3, 1) := by decide +kernel
theorem dX5_never_22 : decode cX5_never 22 = .ok (.iconst 1, 1) := by decide +kernel
theorem dX5_never_23 : decode cX5_never 23 = .ok (.invokestatic 248, 3) := by decide +kernel
theorem dX5_never_26 : decode cX5_never 26 = .ok (.goto 4, 3) := by decide +kernel
theorem dX5_never_29 : decode cX5_never 29 = .ok (.iconst (-1), 1) := by decide +kernel
theorem dX5_never_30 : decode cX5_never 30 = .ok (.istore 4, 2) := by decide +kernel
theorem dX5_never_32 : decode cX5_never 32 = .ok (.iload 4, 2) := by decide +kernel
theorem dX5_never_34 : decode cX5_never 34 = .ok (.ifCond .ge 10, 3) := by decide +kernel
theorem dX5_never_37 : decode cX5_never 37 = .ok (.aload_n 0, 1) := by decide +kernel
theorem dX5_never_38 : decode cX5_never 38 = .ok (.iload 4, 2) := by decide +kernel
theorem dX5_never_40 : decode cX5_never 40 = .ok (.invokevirtual 129, 3) := by decide +kernel
theorem dX5_never_43 : decode cX5_never 43 = .ok (.ireturn, 1) := by decide +kernel
theorem dX5_never_44 : decode cX5_never 44 = .ok (.aload_n 0, 1) := by decide +kernel
theorem dX5_never_45 : decode cX5_never 45 = .ok (.getfield 19, 3) := by decide +kernel
theorem dX5_never_48 : decode cX5_never 48 = .ok (.iload_n 1, 1) := by decide +kernel
theorem dX5_never_49 : decode cX5_never 49 = .ok (.iaload, 1) := by decide +kernel
theorem dX5_never_50 : decode cX5_never 50 = .ok (.iload_n 2, 1) := by decide +kernel
theorem dX5_never_51 : decode cX5_never 51 = .ok (.invokestatic 95, 3) := by decide +kernel
theorem dX5_never_54 : decode cX5_never 54 = .ok (.ifCond .eq 6, 3) := by decide +kernel
theorem dX5_never_57 : decode cX5_never 57 = .ok (.bipush (-9), 2) := by decide +kernel
theorem dX5_never_59 : decode cX5_never 59 = .ok (.ireturn, 1) := by decide +kernel
theorem dX5_never_60 : decode cX5_never 60 = .ok (.aload_n 0, 1) := by decide +kernel
theorem dX5_never_61 : decode cX5_never 61 = .ok (.invokevirtual 251, 3) := by decide +kernel
theorem dX5_never_64 : decode cX5_never 64 = .ok (.istore 5, 2) := by decide +kernel
theorem dX5_never_66 : decode cX5_never 66 = .ok (.iconst (-1), 1) := by decide +kernel
theorem dX5_never_67 : decode cX5_never 67 = .ok (.istore 6, 2) := by decide +kernel
theorem dX5_never_69 : decode cX5_never 69 = .ok (.aload_n 0, 1) := by decide +kernel
theorem dX5_never_70 : decode cX5_never 70 = .ok (.invokevirtual 254, 3) := by decide +kernel
theorem dX5_never_73 : decode cX5_never 73 = .ok (.iconst 0, 1) := by decide +kernel
theorem dX5_never_74 : decode cX5_never 74 = .ok (.istore 7, 2) := by decide +kernel
theorem dX5_never_76 : decode cX5_never 76 = .ok (.iload 7, 2) := by decide +kernel
theorem dX5_never_78 : decode cX5_never 78 = .ok (.iconst 1, 1) := by decide +kernel
theorem dX5_never_79 : decode cX5_never 79 = .ok (.aload_n 0, 1) := by decide +kernel
theorem dX5_never_80 : decode cX5_never 80 = .ok (.getfield 77, 3) := by decide +kernel
theorem dX5_never_83 : decode cX5_never 83 = .ok (.ishl, 1) := by decide +kernel
theorem dX5_never_84 : decode cX5_never 84 = .ok (.if_icmp .ge 70, 3) := by decide +kernel
theorem dX5_never_87 : decode cX5_never 87 = .ok (.iload 7, 2) := by decide +kernel
theorem dX5_never_89 : decode cX5_never 89 = .ok (.iload 5, 2) := by decide +kernel
theorem dX5_never_91 : decode cX5_never 91 = .ok (.iand, 1) := by decide +kernel
theorem dX5_never_92 : decode cX5_never 92 = .ok (.ifCond .ne 56, 3) := by decide +kernel
theorem dX5_never_95 : decode cX5_never 95 = .ok (.iload 6, 2) := by decide +kernel
theorem dX5_never_97 : decode cX5_never 97 = .ok (.ifCond .lt 16, 3) := by decide +kernel
theorem dX5_never_100 : decode cX5_never 100 = .ok (.iload 7, 2) := by decide +kernel
theorem dX5_never_102 : decode cX5_never 102 = .ok (.invokestatic 120, 3) := by decide +kernel
theorem dX5_never_105 : decode cX5_never 105 = .ok (.iload 6, 2) := by decide +kernel
theorem dX5_never_107 : decode cX5_never 107 = .ok (.invokestatic 120, 3) := by decide +kernel
theorem dX5_never_110 : decode cX5_never 110 = .ok (.if_icmp .ge 38, 3) := by decide +kernel
theorem dX5_never_113 : decode cX5_never 113 = .ok (.aload_n 0, 1) := by decide +kernel
theorem dX5_never_114 : decode cX5_never 114 = .ok (.iload 7, 2) := by decide +kernel
theorem dX5_never_116 : decode cX5_never 116 = .ok (.iload 5, 2) := by decide +kernel
theorem dX5_never_118 : decode cX5_never 118 = .ok (.ior, 1) := by decide +kernel
theorem dX5_never_119 : decode cX5_never 119 = .ok (.invokevirtual 257, 3) := by decide +kernel
theorem dX5_never_122 : decode cX5_never 122 = .ok (.aload_n 0, 1) := by decide +kernel
theorem dX5_never_123 : decode cX5_never 123 = .ok (.invokevirtual 123, 3) := by decide +kernel
theorem dX5_never_126 : decode cX5_never 126 = .ok (.aload_n 0, 1) := by decide +kernel
theorem dX5_never_127 : decode cX5_never 127 = .ok (.getfield 34, 3) := by decide +kernel
theorem dX5_never_130 : decode cX5_never 130 = .ok (.iload_n 1, 1) := by decide +kernel
theorem dX5_never_131 : decode cX5_never 131 = .ok (.iaload, 1) := by decide +kernel
theorem dX5_never_132 : decode cX5_never 132 = .ok (.iload_n 2, 1) := by decide +kernel
theorem dX5_never_133 : decode cX5_never 133 = .ok (.invokestatic 95, 3) := by decide +kernel
theorem dX5_never_136 : decode cX5_never 136 = .ok (.ifCond .eq 8, 3) := by decide +kernel
theorem dX5_never_139 : decode cX5_never 139 = .ok (.iload 6, 2) := by decide +kernel
theorem dX5_never_141 : decode cX5_never 141 = .ok (.goto 5, 3) := by decide +kernel
theorem dX5_never_144 : decode cX5_never 144 = .ok (.iload 7, 2) := by decide +kernel
theorem dX5_never_146 : decode cX5_never 146 = .ok (.istore 6, 2) := by decide +kernel
theorem dX5_never_148 : decode cX5_never 148 = .ok (.iinc 7 1, 3) := by decide +kernel
theorem dX5_never_151 : decode cX5_never 151 = .ok (.goto (-75), 3) := by decide +kernel
theorem dX5_never_154 : decode cX5_never 154 = .ok (.aload_n 0, 1) := by decide +kernel
theorem dX5_never_155 : decode cX5_never 155 = .ok (.invokevirtual 260, 3) := by decide +kernel
theorem dX5_never_158 : decode cX5_never 158 = .ok (.iload_n 3, 1) := by decide +kernel
theorem dX5_never_159 : decode cX5_never 159 = .ok (.ifCond .ne 8, 3) := by decide +kernel
theorem dX5_never_162 : decode cX5_never 162 = .ok (.iload 6, 2) := by decide +kernel
theorem dX5_never_164 : decode cX5_never 164 = .ok (.goto 8, 3) := by decide +kernel
theorem dX5_never_167 : decode cX5_never 167 = .ok (.iload 6, 2) := by decide +kernel
theorem dX5_never_169 : decode cX5_never 169 = .ok (.invokestatic 120, 3) := by decide +kernel
theorem dX5_never_172 : decode cX5_never 172 = .ok (.ireturn, 1) := by decide +kernel
theorem dX5_just_0 : decode cX5_just 0 = .ok (.aload_n 0, 1) := by decide +kernel
theorem dX5_just_1 : decode cX5_just 1 = .ok (.iconst 0, 1) := by decide +kernel
theorem dX5_just_2 : decode cX5_just 2 = .ok (.putfield 73, 3) := by decide +kernel
theorem dX5_just_5 : decode cX5_just 5 = .ok (.iload_n 1, 1) := by decide +kernel
theorem dX5_just_6 : decode cX5_just 6 = .ok (.invokestatic 225, 3) := by decide +kernel
theorem dX5_just_9 : decode cX5_just 9 = .ok (.ifCond .eq 19, 3) := by decide +kernel
theorem dX5_just_12 : decode cX5_just 12 = .ok (.iload_n 2, 1) := by decide +kernel
theorem dX5_just_13 : decode cX5_just 13 = .ok (.iconst 0, 1) := by decide +kernel
theorem dX5_just_14 : decode cX5_just 14 = .ok (.iconst 1, 1) := by decide +kernel
theorem dX5_just_15 : decode cX5_just 15 = .ok (.aload_n 0, 1) := by decide +kernel
theorem dX5_just_16 : decode cX5_just 16 = .ok (.getfield 77, 3) := by decide +kernel
theorem dX5_just_19 : decode cX5_just 19 = .ok (.ishl, 1) := by decide +kernel
theorem dX5_just_20 : decode cX5_just 20 = .ok (.iconst 1, 1) := by decide +kernel
theorem dX5_just_21 : decode cX5_just 21 = .ok (.isub, 1) := by decide +kernel
theorem dX5_just_22 : decode cX5_just 22 = .ok (.invokestatic 213, 3) := by decide +kernel
theorem dX5_just_25 : decode cX5_just 25 = .ok (.goto 4, 3) := by decide +kernel
theorem dX5_just_28 : decode cX5_just 28 = .ok (.iconst (-1), 1) := by decide +kernel
theorem dX5_just_29 : decode cX5_just 29 = .ok (.istore_n 3, 1) := by decide +kernel
theorem dX5_just_30 : decode cX5_just 30 = .ok (.iload_n 3, 1) := by decide +kernel
theorem dX5_just_31 : decode cX5_just 31 = .ok (.ifCond .ge 9, 3) := by decide +kernel
theorem dX5_just_34 : decode cX5_just 34 = .ok (.aload_n 0, 1) := by decide +kernel
theorem dX5_just_35 : decode cX5_just 35 = .ok (.iload_n 3, 1) := by decide +kernel
theorem dX5_just_36 : decode cX5_just 36 = .ok (.invokevirtual 129, 3) := by decide +kernel
theorem dX5_just_39 : decode cX5_just 39 = .ok (.ireturn, 1) := by decide +kernel
theorem dX5_just_40 : decode cX5_just 40 = .ok (.bipush (-9), 2) := by decide +kernel
theorem dX5_just_42 : decode cX5_just 42 = .ok (.istore 4, 2) := by decide +kernel
theorem dX5_just_44 : decode cX5_just 44 = .ok (.aload_n 0, 1) := by decide +kernel
theorem dX5_just_45 : decode cX5_just 45 = .ok (.invokevirtual 254, 3) := by decide +kernel
theorem dX5_just_48 : decode cX5_just 48 = .ok (.iconst 0, 1) := by decide +kernel
theorem dX5_just_49 : decode cX5_just 49 = .ok (.istore 5, 2) := by decide +kernel
theorem dX5_just_51 : decode cX5_just 51 = .ok (.iload 5, 2) := by decide +kernel
theorem dX5_just_53 : decode cX5_just 53 = .ok (.iconst 1, 1) := by decide +kernel
theorem dX5_just_54 : decode cX5_just 54 = .ok (.aload_n 0, 1) := by decide +kernel
theorem dX5_just_55 : decode cX5_just 55 = .ok (.getfield 77, 3) := by decide +kernel
theorem dX5_just_58 : decode cX5_just 58 = .ok (.ishl, 1) := by decide +kernel
theorem dX5_just_59 : decode cX5_just 59 = .ok (.if_icmp .ge 55, 3) := by decide +kernel
theorem dX5_just_62 : decode cX5_just 62 = .ok (.iload 4, 2) := by decide +kernel
theorem dX5_just_64 : decode cX5_just 64 = .ok (.ifCond .lt 16, 3) := by decide +kernel
theorem dX5_just_67 : decode cX5_just 67 = .ok (.iload 5, 2) := by decide +kernel
theorem dX5_just_69 : decode cX5_just 69 = .ok (.invokestatic 120, 3) := by decide +kernel
theorem dX5_just_72 : decode cX5_just 72 = .ok (.iload 4, 2) := by decide +kernel
theorem dX5_just_74 : decode cX5_just 74 = .ok (.invokestatic 120, 3) := by decide +kernel
theorem dX5_just_77 : decode cX5_just 77 = .ok (.if_icmp .ge 31, 3) := by decide +kernel
theorem dX5_just_80 : decode cX5_just 80 = .ok (.aload_n 0, 1) := by decide +kernel
theorem dX5_just_81 : decode cX5_just 81 = .ok (.iload 5, 2) := by decide +kernel
theorem dX5_just_83 : decode cX5_just 83 = .ok (.invokevirtual 257, 3) := by decide +kernel
theorem dX5_just_86 : decode cX5_just 86 = .ok (.aload_n 0, 1) := by decide +kernel
theorem dX5_just_87 : decode cX5_just 87 = .ok (.invokevirtual 123, 3) := by decide +kernel
theorem dX5_just_90 : decode cX5_just 90 = .ok (.aload_n 0, 1) := by decide +kernel
theorem dX5_just_91 : decode cX5_just 91 = .ok (.iload_n 1, 1) := by decide +kernel
theorem dX5_just_92 : decode cX5_just 92 = .ok (.invokevirtual 242, 3) := by decide +kernel
theorem dX5_just_95 : decode cX5_just 95 = .ok (.iload_n 2, 1) := by decide +kernel
theorem dX5_just_96 : decode cX5_just 96 = .ok (.if_icmp .ne 8, 3) := by decide +kernel
theorem dX5_just_99 : decode cX5_just 99 = .ok (.iload 5, 2) := by decide +kernel
theorem dX5_just_101 : decode cX5_just 101 = .ok (.goto 5, 3) := by decide +kernel
theorem dX5_just_104 : decode cX5_just 104 = .ok (.iload 4, 2) := by decide +kernel
theorem dX5_just_106 : decode cX5_just 106 = .ok (.istore 4, 2) := by decide +kernel
theorem dX5_just_108 : decode cX5_just 108 = .ok (.iinc 5 1, 3) := by decide +kernel
theorem dX5_just_111 : decode cX5_just 111 = .ok (.goto (-60), 3) := by decide +kernel
theorem dX5_just_114 : decode cX5_just 114 = .ok (.aload_n 0, 1) := by decide +kernel
theorem dX5_just_115 : decode cX5_just 115 = .ok (.invokevirtual 260, 3) := by decide +kernel
theorem dX5_just_118 : decode cX5_just 118 = .ok (.iload 4, 2) := by decide +kernel
theorem dX5_just_120 : decode cX5_just 120 = .ok (.ireturn, 1) := by decide +kernel
theorem dX5_soonest_0 : decode cX5_soonest 0 = .ok (.aload_n 0, 1) := by decide +kernel
theorem dX5_soonest_1 : decode cX5_soonest 1 = .ok (.iconst 0, 1) := by decide +kernel
theorem dX5_soonest_2 : decode cX5_soonest 2 = .ok (.putfield 73, 3) := by decide +kernel
theorem dX5_soonest_5 : decode cX5_soonest 5 = .ok (.aload_n 0, 1) := by decide +kernel
theorem dX5_soonest_6 : decode cX5_soonest 6 = .ok (.iload_n 1, 1) := by decide +kernel
theorem dX5_soonest_7 : decode cX5_soonest 7 = .ok (.invokevirtual 164, 3) := by decide +kernel
theorem dX5_soonest_10 : decode cX5_soonest 10 = .ok (.ifCond .eq 10, 3) := by decide +kernel
theorem dX5_soonest_13 : decode cX5_soonest 13 = .ok (.iload_n 2, 1) := by decide +kernel
theorem dX5_soonest_14 : decode cX5_soonest 14 = .ok (.invokestatic 225, 3) := by decide +kernel
theorem dX5_soonest_17 : decode cX5_soonest 17 = .ok (.ifCond .ne 9, 3) := by decide +kernel
theorem dX5_soonest_20 : decode cX5_soonest 20 = .ok (.aload_n 0, 1) := by decide +kernel
theorem dX5_soonest_21 : decode cX5_soonest 21 = .ok (.iconst (-1), 1) := by decide +kernel
theorem dX5_soonest_22 : decode cX5_soonest 22 = .ok (.invokevirtual 129, 3) := by decide +kernel
theorem dX5_soonest_25 : decode cX5_soonest 25 = .ok (.ireturn, 1) := by decide +kernel
theorem dX5_soonest_26 : decode cX5_soonest 26 = .ok (.aload_n 0, 1) := by decide +kernel
theorem dX5_soonest_27 : decode cX5_soonest 27 = .ok (.invokevirtual 123, 3) := by decide +kernel
theorem dX5_soonest_30 : decode cX5_soonest 30 = .ok (.aload_n 0, 1) := by decide +kernel
theorem dX5_soonest_31 : decode cX5_soonest 31 = .ok (.iload_n 1, 1) := by decide +kernel
theorem dX5_soonest_32 : decode cX5_soonest 32 = .ok (.iload_n 2, 1) := by decide +kernel
theorem dX5_soonest_33 : decode cX5_soonest 33 = .ok (.invokevirtual 236, 3) := by decide +kernel
theorem dX5_soonest_36 : decode cX5_soonest 36 = .ok (.ifCond .ge 8, 3) := by decide +kernel
theorem dX5_soonest_39 : decode cX5_soonest 39 = .ok (.bipush 99, 2) := by decide +kernel
theorem dX5_soonest_41 : decode cX5_soonest 41 = .ok (.goto 9, 3) := by decide +kernel
theorem dX5_soonest_44 : decode cX5_soonest 44 = .ok (.aload_n 0, 1) := by decide +kernel
theorem dX5_soonest_45 : decode cX5_soonest 45 = .ok (.iload_n 1, 1) := by decide +kernel
theorem dX5_soonest_46 : decode cX5_soonest 46 = .ok (.iload_n 2, 1) := by decide +kernel
theorem dX5_soonest_47 : decode cX5_soonest 47 = .ok (.invokevirtual 236, 3) := by decide +kernel
theorem dX5_soonest_50 : decode cX5_soonest 50 = .ok (.istore_n 3, 1) := by decide +kernel
theorem dX5_soonest_51 : decode cX5_soonest 51 = .ok (.bipush (-9), 2) := by decide +kernel
theorem dX5_soonest_53 : decode cX5_soonest 53 = .ok (.istore 4, 2) := by decide +kernel
theorem dX5_soonest_55 : decode cX5_soonest 55 = .ok (.aload_n 0, 1) := by decide +kernel
theorem dX5_soonest_56 : decode cX5_soonest 56 = .ok (.invokevirtual 254, 3) := by decide +kernel
theorem dX5_soonest_59 : decode cX5_soonest 59 = .ok (.iconst 0, 1) := by decide +kernel
theorem dX5_soonest_60 : decode cX5_soonest 60 = .ok (.istore 5, 2) := by decide +kernel
theorem dX5_soonest_62 : decode cX5_soonest 62 = .ok (.iload 5, 2) := by decide +kernel
theorem dX5_soonest_64 : decode cX5_soonest 64 = .ok (.aload_n 0, 1) := by decide +kernel
theorem dX5_soonest_65 : decode cX5_soonest 65 = .ok (.getfield 77, 3) := by decide +kernel
theorem dX5_soonest_68 : decode cX5_soonest 68 = .ok (.if_icmp .ge 81, 3) := by decide +kernel
theorem dX5_soonest_71 : decode cX5_soonest 71 = .ok (.aload_n 0, 1) := by decide +kernel
theorem dX5_soonest_72 : decode cX5_soonest 72 = .ok (.getfield 13, 3) := by decide +kernel
theorem dX5_soonest_75 : decode cX5_soonest 75 = .ok (.iload 5, 2) := by decide +kernel
theorem dX5_soonest_77 : decode cX5_soonest 77 = .ok (.ldc_w 263, 3) := by decide +kernel
theorem dX5_soonest_80 : decode cX5_soonest 80 = .ok (.iastore, 1) := by decide +kernel
theorem dX5_soonest_81 : decode cX5_soonest 81 = .ok (.aload_n 0, 1) := by decide +kernel
theorem dX5_soonest_82 : decode cX5_soonest 82 = .ok (.getfield 16, 3) := by decide +kernel
theorem dX5_soonest_85 : decode cX5_soonest 85 = .ok (.iload 5, 2) := by decide +kernel
theorem dX5_soonest_87 : decode cX5_soonest 87 = .ok (.iconst 0, 1) := by decide +kernel
theorem dX5_soonest_88 : decode cX5_soonest 88 = .ok (.iastore, 1) := by decide +kernel
theorem dX5_soonest_89 : decode cX5_soonest 89 = .ok (.aload_n 0, 1) := by decide +kernel
theorem dX5_soonest_90 : decode cX5_soonest 90 = .ok (.invokevirtual 123, 3) := by decide +kernel
theorem dX5_soonest_93 : decode cX5_soonest 93 = .ok (.aload_n 0, 1) := by decide +kernel
theorem dX5_soonest_94 : decode cX5_soonest 94 = .ok (.iload_n 1, 1) := by decide +kernel
theorem dX5_soonest_95 : decode cX5_soonest 95 = .ok (.iload_n 2, 1) := by decide +kernel
theorem dX5_soonest_96 : decode cX5_soonest 96 = .ok (.invokevirtual 236, 3) := by decide +kernel
theorem dX5_soonest_99 : decode cX5_soonest 99 = .ok (.istore 6, 2) := by decide +kernel
theorem dX5_soonest_101 : decode cX5_soonest 101 = .ok (.aload_n 0, 1) := by decide +kernel
theorem dX5_soonest_102 : decode cX5_soonest 102 = .ok (.invokevirtual 260, 3) := by decide +kernel
theorem dX5_soonest_105 : decode cX5_soonest 105 = .ok (.iload 6, 2) := by decide +kernel
theorem dX5_soonest_107 : decode cX5_soonest 107 = .ok (.ifCond .lt 14, 3) := by decide +kernel
theorem dX5_soonest_110 : decode cX5_soonest 110 = .ok (.iload 6, 2) := by decide +kernel
theorem dX5_soonest_112 : decode cX5_soonest 112 = .ok (.iload_n 3, 1) := by decide +kernel
theorem dX5_soonest_113 : decode cX5_soonest 113 = .ok (.if_icmp .ge 8, 3) := by decide +kernel
theorem dX5_soonest_116 : decode cX5_soonest 116 = .ok (.iload 5, 2) := by decide +kernel
theorem dX5_soonest_118 : decode cX5_soonest 118 = .ok (.goto 5, 3) := by decide +kernel
theorem dX5_soonest_121 : decode cX5_soonest 121 = .ok (.iload 4, 2) := by decide +kernel
theorem dX5_soonest_123 : decode cX5_soonest 123 = .ok (.istore 4, 2) := by decide +kernel
theorem dX5_soonest_125 : decode cX5_soonest 125 = .ok (.iload 6, 2) := by decide +kernel
theorem dX5_soonest_127 : decode cX5_soonest 127 = .ok (.ifCond .lt 14, 3) := by decide +kernel
theorem dX5_soonest_130 : decode cX5_soonest 130 = .ok (.iload 6, 2) := by decide +kernel
theorem dX5_soonest_132 : decode cX5_soonest 132 = .ok (.iload_n 3, 1) := by decide +kernel
theorem dX5_soonest_133 : decode cX5_soonest 133 = .ok (.if_icmp .ge 8, 3) := by decide +kernel
theorem dX5_soonest_136 : decode cX5_soonest 136 = .ok (.iload 6, 2) := by decide +kernel
theorem dX5_soonest_138 : decode cX5_soonest 138 = .ok (.goto 4, 3) := by decide +kernel
theorem dX5_soonest_141 : decode cX5_soonest 141 = .ok (.iload_n 3, 1) := by decide +kernel
theorem dX5_soonest_142 : decode cX5_soonest 142 = .ok (.istore_n 3, 1) := by decide +kernel
theorem dX5_soonest_143 : decode cX5_soonest 143 = .ok (.iinc 5 1, 3) := by decide +kernel
theorem dX5_soonest_146 : decode cX5_soonest 146 = .ok (.goto (-84), 3) := by decide +kernel
theorem dX5_soonest_149 : decode cX5_soonest 149 = .ok (.iload 4, 2) := by decide +kernel
theorem dX5_soonest_151 : decode cX5_soonest 151 = .ok (.ireturn, 1) := by decide +kernel
theorem dX5_opening_0 : decode cX5_opening 0 = .ok (.aload_n 0, 1) := by decide +kernel
theorem dX5_opening_1 : decode cX5_opening 1 = .ok (.iconst 0, 1) := by decide +kernel
theorem dX5_opening_2 : decode cX5_opening 2 = .ok (.putfield 73, 3) := by decide +kernel
theorem dX5_opening_5 : decode cX5_opening 5 = .ok (.aload_n 0, 1) := by decide +kernel
theorem dX5_opening_6 : decode cX5_opening 6 = .ok (.iload_n 1, 1) := by decide +kernel
theorem dX5_opening_7 : decode cX5_opening 7 = .ok (.invokevirtual 164, 3) := by decide +kernel
theorem dX5_opening_10 : decode cX5_opening 10 = .ok (.ifCond .eq 12, 3) := by decide +kernel
theorem dX5_opening_13 : decode cX5_opening 13 = .ok (.iconst 0, 1) := by decide +kernel
theorem dX5_opening_14 : decode cX5_opening 14 = .ok (.iload_n 2, 1) := by decide +kernel
theorem dX5_opening_15 : decode cX5_opening 15 = .ok (.iconst 1, 1) := by decide +kernel
theorem dX5_opening_16 : decode cX5_opening 16 = .ok (.invokestatic 248, 3) := by decide +kernel
theorem dX5_opening_19 : decode cX5_opening 19 = .ok (.goto 4, 3) := by decide +kernel
theorem dX5_opening_22 : decode cX5_opening 22 = .ok (.iconst (-1), 1) := by decide +kernel
theorem dX5_opening_23 : decode cX5_opening 23 = .ok (.istore_n 3, 1) := by decide +kernel
theorem dX5_opening_24 : decode cX5_opening 24 = .ok (.iload_n 3, 1) := by decide +kernel
theorem dX5_opening_25 : decode cX5_opening 25 = .ok (.ifCond .ge 9, 3) := by decide +kernel
theorem dX5_opening_28 : decode cX5_opening 28 = .ok (.aload_n 0, 1) := by decide +kernel
theorem dX5_opening_29 : decode cX5_opening 29 = .ok (.iload_n 3, 1) := by decide +kernel
theorem dX5_opening_30 : decode cX5_opening 30 = .ok (.invokevirtual 129, 3) := by decide +kernel
theorem dX5_opening_33 : decode cX5_opening 33 = .ok (.ireturn, 1) := by decide +kernel
theorem dX5_opening_34 : decode cX5_opening 34 = .ok (.iconst 0, 1) := by decide +kernel
theorem dX5_opening_35 : decode cX5_opening 35 = .ok (.istore 4, 2) := by decide +kernel
theorem dX5_opening_37 : decode cX5_opening 37 = .ok (.iconst (-1), 1) := by decide +kernel
theorem dX5_opening_38 : decode cX5_opening 38 = .ok (.istore 5, 2) := by decide +kernel
theorem dX5_opening_40 : decode cX5_opening 40 = .ok (.aload_n 0, 1) := by decide +kernel
theorem dX5_opening_41 : decode cX5_opening 41 = .ok (.invokevirtual 254, 3) := by decide +kernel
theorem dX5_opening_44 : decode cX5_opening 44 = .ok (.iconst 0, 1) := by decide +kernel
theorem dX5_opening_45 : decode cX5_opening 45 = .ok (.istore 6, 2) := by decide +kernel
theorem dX5_opening_47 : decode cX5_opening 47 = .ok (.iload 6, 2) := by decide +kernel
theorem dX5_opening_49 : decode cX5_opening 49 = .ok (.bipush 24, 2) := by decide +kernel
theorem dX5_opening_51 : decode cX5_opening 51 = .ok (.if_icmp .ge 57, 3) := by decide +kernel
theorem dX5_opening_54 : decode cX5_opening 54 = .ok (.aload_n 0, 1) := by decide +kernel
theorem dX5_opening_55 : decode cX5_opening 55 = .ok (.getfield 13, 3) := by decide +kernel
theorem dX5_opening_58 : decode cX5_opening 58 = .ok (.iload_n 1, 1) := by decide +kernel
theorem dX5_opening_59 : decode cX5_opening 59 = .ok (.iconst 1, 1) := by decide +kernel
theorem dX5_opening_60 : decode cX5_opening 60 = .ok (.iload 6, 2) := by decide +kernel
theorem dX5_opening_62 : decode cX5_opening 62 = .ok (.ishl, 1) := by decide +kernel
theorem dX5_opening_63 : decode cX5_opening 63 = .ok (.iastore, 1) := by decide +kernel
theorem dX5_opening_64 : decode cX5_opening 64 = .ok (.aload_n 0, 1) := by decide +kernel
theorem dX5_opening_65 : decode cX5_opening 65 = .ok (.invokevirtual 245, 3) := by decide +kernel
theorem dX5_opening_68 : decode cX5_opening 68 = .ok (.istore 7, 2) := by decide +kernel
theorem dX5_opening_70 : decode cX5_opening 70 = .ok (.iload 7, 2) := by decide +kernel
theorem dX5_opening_72 : decode cX5_opening 72 = .ok (.iload 5, 2) := by decide +kernel
theorem dX5_opening_74 : decode cX5_opening 74 = .ok (.if_icmp .le 8, 3) := by decide +kernel
theorem dX5_opening_77 : decode cX5_opening 77 = .ok (.iload 6, 2) := by decide +kernel
theorem dX5_opening_79 : decode cX5_opening 79 = .ok (.goto 5, 3) := by decide +kernel
theorem dX5_opening_82 : decode cX5_opening 82 = .ok (.iload 4, 2) := by decide +kernel
theorem dX5_opening_84 : decode cX5_opening 84 = .ok (.istore 4, 2) := by decide +kernel
theorem dX5_opening_86 : decode cX5_opening 86 = .ok (.iload 7, 2) := by decide +kernel
theorem dX5_opening_88 : decode cX5_opening 88 = .ok (.iload 5, 2) := by decide +kernel
theorem dX5_opening_90 : decode cX5_opening 90 = .ok (.if_icmp .le 8, 3) := by decide +kernel
theorem dX5_opening_93 : decode cX5_opening 93 = .ok (.iload 7, 2) := by decide +kernel
theorem dX5_opening_95 : decode cX5_opening 95 = .ok (.goto 5, 3) := by decide +kernel
theorem dX5_opening_98 : decode cX5_opening 98 = .ok (.iload 5, 2) := by decide +kernel
theorem dX5_opening_100 : decode cX5_opening 100 = .ok (.istore 5, 2) := by decide +kernel
theorem dX5_opening_102 : decode cX5_opening 102 = .ok (.iinc 6 1, 3) := by decide +kernel
theorem dX5_opening_105 : decode cX5_opening 105 = .ok (.goto (-58), 3) := by decide +kernel
theorem dX5_opening_108 : decode cX5_opening 108 = .ok (.aload_n 0, 1) := by decide +kernel
theorem dX5_opening_109 : decode cX5_opening 109 = .ok (.invokevirtual 260, 3) := by decide +kernel
theorem dX5_opening_112 : decode cX5_opening 112 = .ok (.iload_n 2, 1) := by decide +kernel
theorem dX5_opening_113 : decode cX5_opening 113 = .ok (.ifCond .ne 8, 3) := by decide +kernel
theorem dX5_opening_116 : decode cX5_opening 116 = .ok (.iload 4, 2) := by decide +kernel
theorem dX5_opening_118 : decode cX5_opening 118 = .ok (.goto 5, 3) := by decide +kernel
theorem dX5_opening_121 : decode cX5_opening 121 = .ok (.iload 5, 2) := by decide +kernel
theorem dX5_opening_123 : decode cX5_opening 123 = .ok (.ireturn, 1) := by decide +kernel
theorem dX5_change_0 : decode cX5_change 0 = .ok (.aload_n 0, 1) := by decide +kernel
theorem dX5_change_1 : decode cX5_change 1 = .ok (.getfield 7, 3) := by decide +kernel
theorem dX5_change_4 : decode cX5_change 4 = .ok (.iload_n 1, 1) := by decide +kernel
theorem dX5_change_5 : decode cX5_change 5 = .ok (.iaload, 1) := by decide +kernel
theorem dX5_change_6 : decode cX5_change 6 = .ok (.istore_n 3, 1) := by decide +kernel
theorem dX5_change_7 : decode cX5_change 7 = .ok (.aload_n 0, 1) := by decide +kernel
theorem dX5_change_8 : decode cX5_change 8 = .ok (.getfield 13, 3) := by decide +kernel
theorem dX5_change_11 : decode cX5_change 11 = .ok (.iload_n 1, 1) := by decide +kernel
theorem dX5_change_12 : decode cX5_change 12 = .ok (.iaload, 1) := by decide +kernel
theorem dX5_change_13 : decode cX5_change 13 = .ok (.istore 4, 2) := by decide +kernel
theorem dX5_change_15 : decode cX5_change 15 = .ok (.aload_n 0, 1) := by decide +kernel
theorem dX5_change_16 : decode cX5_change 16 = .ok (.getfield 16, 3) := by decide +kernel
theorem dX5_change_19 : decode cX5_change 19 = .ok (.iload_n 1, 1) := by decide +kernel
theorem dX5_change_20 : decode cX5_change 20 = .ok (.iaload, 1) := by decide +kernel
theorem dX5_change_21 : decode cX5_change 21 = .ok (.istore 5, 2) := by decide +kernel
theorem dX5_change_23 : decode cX5_change 23 = .ok (.aload_n 0, 1) := by decide +kernel
theorem dX5_change_24 : decode cX5_change 24 = .ok (.getfield 19, 3) := by decide +kernel
theorem dX5_change_27 : decode cX5_change 27 = .ok (.iload_n 1, 1) := by decide +kernel
theorem dX5_change_28 : decode cX5_change 28 = .ok (.iaload, 1) := by decide +kernel
theorem dX5_change_29 : decode cX5_change 29 = .ok (.istore 6, 2) := by decide +kernel
theorem dX5_change_31 : decode cX5_change 31 = .ok (.aload_n 0, 1) := by decide +kernel
theorem dX5_change_32 : decode cX5_change 32 = .ok (.getfield 7, 3) := by decide +kernel
theorem dX5_change_35 : decode cX5_change 35 = .ok (.iload_n 1, 1) := by decide +kernel
theorem dX5_change_36 : decode cX5_change 36 = .ok (.aload_n 0, 1) := by decide +kernel
theorem dX5_change_37 : decode cX5_change 37 = .ok (.getfield 7, 3) := by decide +kernel
theorem dX5_change_40 : decode cX5_change 40 = .ok (.iload_n 2, 1) := by decide +kernel
theorem dX5_change_41 : decode cX5_change 41 = .ok (.iaload, 1) := by decide +kernel
theorem dX5_change_42 : decode cX5_change 42 = .ok (.iastore, 1) := by decide +kernel
theorem dX5_change_43 : decode cX5_change 43 = .ok (.aload_n 0, 1) := by decide +kernel
theorem dX5_change_44 : decode cX5_change 44 = .ok (.getfield 13, 3) := by decide +kernel
theorem dX5_change_47 : decode cX5_change 47 = .ok (.iload_n 1, 1) := by decide +kernel
theorem dX5_change_48 : decode cX5_change 48 = .ok (.aload_n 0, 1) := by decide +kernel
theorem dX5_change_49 : decode cX5_change 49 = .ok (.getfield 13, 3) := by decide +kernel
theorem dX5_change_52 : decode cX5_change 52 = .ok (.iload_n 2, 1) := by decide +kernel
theorem dX5_change_53 : decode cX5_change 53 = .ok (.iaload, 1) := by decide +kernel
theorem dX5_change_54 : decode cX5_change 54 = .ok (.iastore, 1) := by decide +kernel
theorem dX5_change_55 : decode cX5_change 55 = .ok (.aload_n 0, 1) := by decide +kernel
theorem dX5_change_56 : decode cX5_change 56 = .ok (.getfield 16, 3) := by decide +kernel
theorem dX5_change_59 : decode cX5_change 59 = .ok (.iload_n 1, 1) := by decide +kernel
theorem dX5_change_60 : decode cX5_change 60 = .ok (.aload_n 0, 1) := by decide +kernel
theorem dX5_change_61 : decode cX5_change 61 = .ok (.getfield 16, 3) := by decide +kernel
theorem dX5_change_64 : decode cX5_change 64 = .ok (.iload_n 2, 1) := by decide +kernel
theorem dX5_change_65 : decode cX5_change 65 = .ok (.iaload, 1) := by decide +kernel
theorem dX5_change_66 : decode cX5_change 66 = .ok (.iastore, 1) := by decide +kernel
theorem dX5_change_67 : decode cX5_change 67 = .ok (.aload_n 0, 1) := by decide +kernel
theorem dX5_change_68 : decode cX5_change 68 = .ok (.getfield 19, 3) := by decide +kernel
theorem dX5_change_71 : decode cX5_change 71 = .ok (.iload_n 1, 1) := by decide +kernel
theorem dX5_change_72 : decode cX5_change 72 = .ok (.aload_n 0, 1) := by decide +kernel
theorem dX5_change_73 : decode cX5_change 73 = .ok (.getfield 19, 3) := by decide +kernel
theorem dX5_change_76 : decode cX5_change 76 = .ok (.iload_n 2, 1) := by decide +kernel
theorem dX5_change_77 : decode cX5_change 77 = .ok (.iaload, 1) := by decide +kernel
theorem dX5_change_78 : decode cX5_change 78 = .ok (.iastore, 1) := by decide +kernel
theorem dX5_change_79 : decode cX5_change 79 = .ok (.aload_n 0, 1) := by decide +kernel
theorem dX5_change_80 : decode cX5_change 80 = .ok (.getfield 7, 3) := by decide +kernel
theorem dX5_change_83 : decode cX5_change 83 = .ok (.iload_n 2, 1) := by decide +kernel
theorem dX5_change_84 : decode cX5_change 84 = .ok (.iload_n 3, 1) := by decide +kernel
theorem dX5_change_85 : decode cX5_change 85 = .ok (.iastore, 1) := by decide +kernel
theorem dX5_change_86 : decode cX5_change 86 = .ok (.aload_n 0, 1) := by decide +kernel
theorem dX5_change_87 : decode cX5_change 87 = .ok (.getfield 13, 3) := by decide +kernel
theorem dX5_change_90 : decode cX5_change 90 = .ok (.iload_n 2, 1) := by decide +kernel
theorem dX5_change_91 : decode cX5_change 91 = .ok (.iload 4, 2) := by decide +kernel
theorem dX5_change_93 : decode cX5_change 93 = .ok (.iastore, 1) := by decide +kernel
theorem dX5_change_94 : decode cX5_change 94 = .ok (.aload_n 0, 1) := by decide +kernel
theorem dX5_change_95 : decode cX5_change 95 = .ok (.getfield 16, 3) := by decide +kernel
theorem dX5_change_98 : decode cX5_change 98 = .ok (.iload_n 2, 1) := by decide +kernel
theorem dX5_change_99 : decode cX5_change 99 = .ok (.iload 5, 2) := by decide +kernel
theorem dX5_change_101 : decode cX5_change 101 = .ok (.iastore, 1) := by decide +kernel
theorem dX5_change_102 : decode cX5_change 102 = .ok (.aload_n 0, 1) := by decide +kernel
theorem dX5_change_103 : decode cX5_change 103 = .ok (.getfield 19, 3) := by decide +kernel
theorem dX5_change_106 : decode cX5_change 106 = .ok (.iload_n 2, 1) := by decide +kernel
theorem dX5_change_107 : decode cX5_change 107 = .ok (.iload 6, 2) := by decide +kernel
theorem dX5_change_109 : decode cX5_change 109 = .ok (.iastore, 1) := by decide +kernel
theorem dX5_change_110 : decode cX5_change 110 = .ok (.return_, 1) := by decide +kernel
theorem dX5_seat_0 : decode cX5_seat 0 = .ok (.aload_n 0, 1) := by decide +kernel
theorem dX5_seat_1 : decode cX5_seat 1 = .ok (.iconst 0, 1) := by decide +kernel
theorem dX5_seat_2 : decode cX5_seat 2 = .ok (.putfield 73, 3) := by decide +kernel
theorem dX5_seat_5 : decode cX5_seat 5 = .ok (.aload_n 0, 1) := by decide +kernel
theorem dX5_seat_6 : decode cX5_seat 6 = .ok (.invokevirtual 245, 3) := by decide +kernel
theorem dX5_seat_9 : decode cX5_seat 9 = .ok (.istore_n 1, 1) := by decide +kernel
theorem dX5_seat_10 : decode cX5_seat 10 = .ok (.bipush (-9), 2) := by decide +kernel
theorem dX5_seat_12 : decode cX5_seat 12 = .ok (.istore_n 2, 1) := by decide +kernel
theorem dX5_seat_13 : decode cX5_seat 13 = .ok (.iconst 0, 1) := by decide +kernel
theorem dX5_seat_14 : decode cX5_seat 14 = .ok (.istore_n 3, 1) := by decide +kernel
theorem dX5_seat_15 : decode cX5_seat 15 = .ok (.iload_n 3, 1) := by decide +kernel
theorem dX5_seat_16 : decode cX5_seat 16 = .ok (.aload_n 0, 1) := by decide +kernel
theorem dX5_seat_17 : decode cX5_seat 17 = .ok (.getfield 77, 3) := by decide +kernel
theorem dX5_seat_20 : decode cX5_seat 20 = .ok (.if_icmp .ge 80, 3) := by decide +kernel
theorem dX5_seat_23 : decode cX5_seat 23 = .ok (.iload_n 3, 1) := by decide +kernel
theorem dX5_seat_24 : decode cX5_seat 24 = .ok (.iconst 1, 1) := by decide +kernel
theorem dX5_seat_25 : decode cX5_seat 25 = .ok (.iadd, 1) := by decide +kernel
theorem dX5_seat_26 : decode cX5_seat 26 = .ok (.istore 4, 2) := by decide +kernel
theorem dX5_seat_28 : decode cX5_seat 28 = .ok (.iload 4, 2) := by decide +kernel
theorem dX5_seat_30 : decode cX5_seat 30 = .ok (.aload_n 0, 1) := by decide +kernel
theorem dX5_seat_31 : decode cX5_seat 31 = .ok (.getfield 77, 3) := by decide +kernel
theorem dX5_seat_34 : decode cX5_seat 34 = .ok (.if_icmp .ge 60, 3) := by decide +kernel
theorem dX5_seat_37 : decode cX5_seat 37 = .ok (.aload_n 0, 1) := by decide +kernel
theorem dX5_seat_38 : decode cX5_seat 38 = .ok (.iload_n 3, 1) := by decide +kernel
theorem dX5_seat_39 : decode cX5_seat 39 = .ok (.iload 4, 2) := by decide +kernel
theorem dX5_seat_41 : decode cX5_seat 41 = .ok (.invokevirtual 264, 3) := by decide +kernel
theorem dX5_seat_44 : decode cX5_seat 44 = .ok (.aload_n 0, 1) := by decide +kernel
theorem dX5_seat_45 : decode cX5_seat 45 = .ok (.invokevirtual 245, 3) := by decide +kernel
theorem dX5_seat_48 : decode cX5_seat 48 = .ok (.istore 5, 2) := by decide +kernel
theorem dX5_seat_50 : decode cX5_seat 50 = .ok (.aload_n 0, 1) := by decide +kernel
theorem dX5_seat_51 : decode cX5_seat 51 = .ok (.iload_n 3, 1) := by decide +kernel
theorem dX5_seat_52 : decode cX5_seat 52 = .ok (.iload 4, 2) := by decide +kernel
theorem dX5_seat_54 : decode cX5_seat 54 = .ok (.invokevirtual 264, 3) := by decide +kernel
theorem dX5_seat_57 : decode cX5_seat 57 = .ok (.iload 5, 2) := by decide +kernel
theorem dX5_seat_59 : decode cX5_seat 59 = .ok (.iload_n 1, 1) := by decide +kernel
theorem dX5_seat_60 : decode cX5_seat 60 = .ok (.if_icmp .le 13, 3) := by decide +kernel
theorem dX5_seat_63 : decode cX5_seat 63 = .ok (.bipush 10, 2) := by decide +kernel
theorem dX5_seat_65 : decode cX5_seat 65 = .ok (.iload_n 3, 1) := by decide +kernel
theorem dX5_seat_66 : decode cX5_seat 66 = .ok (.imul, 1) := by decide +kernel
theorem dX5_seat_67 : decode cX5_seat 67 = .ok (.iload 4, 2) := by decide +kernel
theorem dX5_seat_69 : decode cX5_seat 69 = .ok (.iadd, 1) := by decide +kernel
theorem dX5_seat_70 : decode cX5_seat 70 = .ok (.goto 4, 3) := by decide +kernel
theorem dX5_seat_73 : decode cX5_seat 73 = .ok (.iload_n 2, 1) := by decide +kernel
theorem dX5_seat_74 : decode cX5_seat 74 = .ok (.istore_n 2, 1) := by decide +kernel
theorem dX5_seat_75 : decode cX5_seat 75 = .ok (.iload 5, 2) := by decide +kernel
theorem dX5_seat_77 : decode cX5_seat 77 = .ok (.iload_n 1, 1) := by decide +kernel
theorem dX5_seat_78 : decode cX5_seat 78 = .ok (.if_icmp .le 8, 3) := by decide +kernel
theorem dX5_seat_81 : decode cX5_seat 81 = .ok (.iload 5, 2) := by decide +kernel
theorem dX5_seat_83 : decode cX5_seat 83 = .ok (.goto 4, 3) := by decide +kernel
theorem dX5_seat_86 : decode cX5_seat 86 = .ok (.iload_n 1, 1) := by decide +kernel
theorem dX5_seat_87 : decode cX5_seat 87 = .ok (.istore_n 1, 1) := by decide +kernel
theorem dX5_seat_88 : decode cX5_seat 88 = .ok (.iinc 4 1, 3) := by decide +kernel
theorem dX5_seat_91 : decode cX5_seat 91 = .ok (.goto (-63), 3) := by decide +kernel
theorem dX5_seat_94 : decode cX5_seat 94 = .ok (.iinc 3 1, 3) := by decide +kernel
theorem dX5_seat_97 : decode cX5_seat 97 = .ok (.goto (-82), 3) := by decide +kernel
theorem dX5_seat_100 : decode cX5_seat 100 = .ok (.iload_n 2, 1) := by decide +kernel
theorem dX5_seat_101 : decode cX5_seat 101 = .ok (.ireturn, 1) := by decide +kernel
theorem dX5_saidBy_0 : decode cX5_saidBy 0 = .ok (.iconst 0, 1) := by decide +kernel
theorem dX5_saidBy_1 : decode cX5_saidBy 1 = .ok (.istore_n 3, 1) := by decide +kernel
theorem dX5_saidBy_2 : decode cX5_saidBy 2 = .ok (.iconst 0, 1) := by decide +kernel
theorem dX5_saidBy_3 : decode cX5_saidBy 3 = .ok (.istore 4, 2) := by decide +kernel
theorem dX5_saidBy_5 : decode cX5_saidBy 5 = .ok (.iload 4, 2) := by decide +kernel
theorem dX5_saidBy_7 : decode cX5_saidBy 7 = .ok (.aload_n 0, 1) := by decide +kernel
theorem dX5_saidBy_8 : decode cX5_saidBy 8 = .ok (.getfield 84, 3) := by decide +kernel
theorem dX5_saidBy_11 : decode cX5_saidBy 11 = .ok (.if_icmp .ge 41, 3) := by decide +kernel
theorem dX5_saidBy_14 : decode cX5_saidBy 14 = .ok (.iload_n 3, 1) := by decide +kernel
theorem dX5_saidBy_15 : decode cX5_saidBy 15 = .ok (.aload_n 0, 1) := by decide +kernel
theorem dX5_saidBy_16 : decode cX5_saidBy 16 = .ok (.getfield 40, 3) := by decide +kernel
theorem dX5_saidBy_19 : decode cX5_saidBy 19 = .ok (.bipush 6, 2) := by decide +kernel
theorem dX5_saidBy_21 : decode cX5_saidBy 21 = .ok (.iload_n 2, 1) := by decide +kernel
theorem dX5_saidBy_22 : decode cX5_saidBy 22 = .ok (.imul, 1) := by decide +kernel
theorem dX5_saidBy_23 : decode cX5_saidBy 23 = .ok (.iload 4, 2) := by decide +kernel
theorem dX5_saidBy_25 : decode cX5_saidBy 25 = .ok (.iadd, 1) := by decide +kernel
theorem dX5_saidBy_26 : decode cX5_saidBy 26 = .ok (.iaload, 1) := by decide +kernel
theorem dX5_saidBy_27 : decode cX5_saidBy 27 = .ok (.iload_n 1, 1) := by decide +kernel
theorem dX5_saidBy_28 : decode cX5_saidBy 28 = .ok (.if_icmp .ne 15, 3) := by decide +kernel
theorem dX5_saidBy_31 : decode cX5_saidBy 31 = .ok (.iconst 1, 1) := by decide +kernel
theorem dX5_saidBy_32 : decode cX5_saidBy 32 = .ok (.aload_n 0, 1) := by decide +kernel
theorem dX5_saidBy_33 : decode cX5_saidBy 33 = .ok (.getfield 28, 3) := by decide +kernel
theorem dX5_saidBy_36 : decode cX5_saidBy 36 = .ok (.iload 4, 2) := by decide +kernel
theorem dX5_saidBy_38 : decode cX5_saidBy 38 = .ok (.iaload, 1) := by decide +kernel
theorem dX5_saidBy_39 : decode cX5_saidBy 39 = .ok (.ishl, 1) := by decide +kernel
theorem dX5_saidBy_40 : decode cX5_saidBy 40 = .ok (.goto 4, 3) := by decide +kernel
theorem dX5_saidBy_43 : decode cX5_saidBy 43 = .ok (.iconst 0, 1) := by decide +kernel
theorem dX5_saidBy_44 : decode cX5_saidBy 44 = .ok (.ior, 1) := by decide +kernel
theorem dX5_saidBy_45 : decode cX5_saidBy 45 = .ok (.istore_n 3, 1) := by decide +kernel
theorem dX5_saidBy_46 : decode cX5_saidBy 46 = .ok (.iinc 4 1, 3) := by decide +kernel
theorem dX5_saidBy_49 : decode cX5_saidBy 49 = .ok (.goto (-44), 3) := by decide +kernel
theorem dX5_saidBy_52 : decode cX5_saidBy 52 = .ok (.iload_n 3, 1) := by decide +kernel
theorem dX5_saidBy_53 : decode cX5_saidBy 53 = .ok (.ireturn, 1) := by decide +kernel
theorem dX5_can_0 : decode cX5_can 0 = .ok (.aload_n 0, 1) := by decide +kernel
theorem dX5_can_1 : decode cX5_can 1 = .ok (.iconst 0, 1) := by decide +kernel
theorem dX5_can_2 : decode cX5_can 2 = .ok (.putfield 73, 3) := by decide +kernel
theorem dX5_can_5 : decode cX5_can 5 = .ok (.aload_n 0, 1) := by decide +kernel
theorem dX5_can_6 : decode cX5_can 6 = .ok (.iload_n 1, 1) := by decide +kernel
theorem dX5_can_7 : decode cX5_can 7 = .ok (.invokevirtual 164, 3) := by decide +kernel
theorem dX5_can_10 : decode cX5_can 10 = .ok (.ifCond .eq 17, 3) := by decide +kernel
theorem dX5_can_13 : decode cX5_can 13 = .ok (.iload_n 2, 1) := by decide +kernel
theorem dX5_can_14 : decode cX5_can 14 = .ok (.invokestatic 225, 3) := by decide +kernel
theorem dX5_can_17 : decode cX5_can 17 = .ok (.ifCond .eq 10, 3) := by decide +kernel
theorem dX5_can_20 : decode cX5_can 20 = .ok (.iload_n 3, 1) := by decide +kernel
theorem dX5_can_21 : decode cX5_can 21 = .ok (.invokestatic 219, 3) := by decide +kernel
theorem dX5_can_24 : decode cX5_can 24 = .ok (.ifCond .ne 9, 3) := by decide +kernel
theorem dX5_can_27 : decode cX5_can 27 = .ok (.aload_n 0, 1) := by decide +kernel
theorem dX5_can_28 : decode cX5_can 28 = .ok (.iconst (-1), 1) := by decide +kernel
theorem dX5_can_29 : decode cX5_can 29 = .ok (.invokevirtual 129, 3) := by decide +kernel
theorem dX5_can_32 : decode cX5_can 32 = .ok (.ireturn, 1) := by decide +kernel
theorem dX5_can_33 : decode cX5_can 33 = .ok (.aload_n 0, 1) := by decide +kernel
theorem dX5_can_34 : decode cX5_can 34 = .ok (.invokevirtual 123, 3) := by decide +kernel
theorem dX5_can_37 : decode cX5_can 37 = .ok (.aload_n 0, 1) := by decide +kernel
theorem dX5_can_38 : decode cX5_can 38 = .ok (.iload_n 1, 1) := by decide +kernel
theorem dX5_can_39 : decode cX5_can 39 = .ok (.iload_n 3, 1) := by decide +kernel
theorem dX5_can_40 : decode cX5_can 40 = .ok (.invokevirtual 267, 3) := by decide +kernel
theorem dX5_can_43 : decode cX5_can 43 = .ok (.iload_n 2, 1) := by decide +kernel
theorem dX5_can_44 : decode cX5_can 44 = .ok (.ishr, 1) := by decide +kernel
theorem dX5_can_45 : decode cX5_can 45 = .ok (.iconst 1, 1) := by decide +kernel
theorem dX5_can_46 : decode cX5_can 46 = .ok (.iand, 1) := by decide +kernel
theorem dX5_can_47 : decode cX5_can 47 = .ok (.ireturn, 1) := by decide +kernel
theorem dX5_sham_0 : decode cX5_sham 0 = .ok (.aload_n 0, 1) := by decide +kernel
theorem dX5_sham_1 : decode cX5_sham 1 = .ok (.iconst 0, 1) := by decide +kernel
theorem dX5_sham_2 : decode cX5_sham 2 = .ok (.putfield 73, 3) := by decide +kernel
theorem dX5_sham_5 : decode cX5_sham 5 = .ok (.aload_n 0, 1) := by decide +kernel
theorem dX5_sham_6 : decode cX5_sham 6 = .ok (.iload_n 1, 1) := by decide +kernel
theorem dX5_sham_7 : decode cX5_sham 7 = .ok (.invokevirtual 164, 3) := by decide +kernel
theorem dX5_sham_10 : decode cX5_sham 10 = .ok (.ifCond .eq 7, 3) := by decide +kernel
theorem dX5_sham_13 : decode cX5_sham 13 = .ok (.iconst 0, 1) := by decide +kernel
theorem dX5_sham_14 : decode cX5_sham 14 = .ok (.goto 4, 3) := by decide +kernel
theorem dX5_sham_17 : decode cX5_sham 17 = .ok (.iconst (-1), 1) := by decide +kernel
theorem dX5_sham_18 : decode cX5_sham 18 = .ok (.istore_n 2, 1) := by decide +kernel
theorem dX5_sham_19 : decode cX5_sham 19 = .ok (.iconst 0, 1) := by decide +kernel
theorem dX5_sham_20 : decode cX5_sham 20 = .ok (.istore_n 3, 1) := by decide +kernel
theorem dX5_sham_21 : decode cX5_sham 21 = .ok (.iload_n 3, 1) := by decide +kernel
theorem dX5_sham_22 : decode cX5_sham 22 = .ok (.aload_n 0, 1) := by decide +kernel
theorem dX5_sham_23 : decode cX5_sham 23 = .ok (.getfield 270, 3) := by decide +kernel
theorem dX5_sham_26 : decode cX5_sham 26 = .ok (.if_icmp .ge 31, 3) := by decide +kernel
theorem dX5_sham_29 : decode cX5_sham 29 = .ok (.iload_n 2, 1) := by decide +kernel
theorem dX5_sham_30 : decode cX5_sham 30 = .ok (.ifCond .ne 19, 3) := by decide +kernel
theorem dX5_sham_33 : decode cX5_sham 33 = .ok (.aload_n 0, 1) := by decide +kernel
theorem dX5_sham_34 : decode cX5_sham 34 = .ok (.getfield 70, 3) := by decide +kernel
theorem dX5_sham_37 : decode cX5_sham 37 = .ok (.iload_n 3, 1) := by decide +kernel
theorem dX5_sham_38 : decode cX5_sham 38 = .ok (.iaload, 1) := by decide +kernel
theorem dX5_sham_39 : decode cX5_sham 39 = .ok (.bipush 10, 2) := by decide +kernel
theorem dX5_sham_41 : decode cX5_sham 41 = .ok (.if_icmp .le 8, 3) := by decide +kernel
theorem dX5_sham_44 : decode cX5_sham 44 = .ok (.bipush (-3), 2) := by decide +kernel
theorem dX5_sham_46 : decode cX5_sham 46 = .ok (.goto 4, 3) := by decide +kernel
theorem dX5_sham_49 : decode cX5_sham 49 = .ok (.iload_n 2, 1) := by decide +kernel
theorem dX5_sham_50 : decode cX5_sham 50 = .ok (.istore_n 2, 1) := by decide +kernel
theorem dX5_sham_51 : decode cX5_sham 51 = .ok (.iinc 3 1, 3) := by decide +kernel
theorem dX5_sham_54 : decode cX5_sham 54 = .ok (.goto (-33), 3) := by decide +kernel
theorem dX5_sham_57 : decode cX5_sham 57 = .ok (.iload_n 2, 1) := by decide +kernel
theorem dX5_sham_58 : decode cX5_sham 58 = .ok (.ifCond .ge 9, 3) := by decide +kernel
theorem dX5_sham_61 : decode cX5_sham 61 = .ok (.aload_n 0, 1) := by decide +kernel
theorem dX5_sham_62 : decode cX5_sham 62 = .ok (.iload_n 2, 1) := by decide +kernel
theorem dX5_sham_63 : decode cX5_sham 63 = .ok (.invokevirtual 129, 3) := by decide +kernel
theorem dX5_sham_66 : decode cX5_sham 66 = .ok (.ireturn, 1) := by decide +kernel
theorem dX5_sham_67 : decode cX5_sham 67 = .ok (.aload_n 0, 1) := by decide +kernel
theorem dX5_sham_68 : decode cX5_sham 68 = .ok (.invokevirtual 123, 3) := by decide +kernel
theorem dX5_sham_71 : decode cX5_sham 71 = .ok (.iconst 0, 1) := by decide +kernel
theorem dX5_sham_72 : decode cX5_sham 72 = .ok (.istore_n 3, 1) := by decide +kernel
theorem dX5_sham_73 : decode cX5_sham 73 = .ok (.iload_n 3, 1) := by decide +kernel
theorem dX5_sham_74 : decode cX5_sham 74 = .ok (.aload_n 0, 1) := by decide +kernel
theorem dX5_sham_75 : decode cX5_sham 75 = .ok (.getfield 270, 3) := by decide +kernel
theorem dX5_sham_78 : decode cX5_sham 78 = .ok (.if_icmp .ge 61, 3) := by decide +kernel
theorem dX5_sham_81 : decode cX5_sham 81 = .ok (.aload_n 0, 1) := by decide +kernel
theorem dX5_sham_82 : decode cX5_sham 82 = .ok (.iload_n 1, 1) := by decide +kernel
theorem dX5_sham_83 : decode cX5_sham 83 = .ok (.iload_n 3, 1) := by decide +kernel
theorem dX5_sham_84 : decode cX5_sham 84 = .ok (.invokevirtual 267, 3) := by decide +kernel
theorem dX5_sham_87 : decode cX5_sham 87 = .ok (.istore 4, 2) := by decide +kernel
theorem dX5_sham_89 : decode cX5_sham 89 = .ok (.aload_n 0, 1) := by decide +kernel
theorem dX5_sham_90 : decode cX5_sham 90 = .ok (.getfield 70, 3) := by decide +kernel
theorem dX5_sham_93 : decode cX5_sham 93 = .ok (.iload_n 3, 1) := by decide +kernel
theorem dX5_sham_94 : decode cX5_sham 94 = .ok (.iaload, 1) := by decide +kernel
theorem dX5_sham_95 : decode cX5_sham 95 = .ok (.bipush 10, 2) := by decide +kernel
theorem dX5_sham_97 : decode cX5_sham 97 = .ok (.if_icmp .ne 16, 3) := by decide +kernel
theorem dX5_sham_100 : decode cX5_sham 100 = .ok (.iload 4, 2) := by decide +kernel
theorem dX5_sham_102 : decode cX5_sham 102 = .ok (.ifCond .ne 7, 3) := by decide +kernel
theorem dX5_sham_105 : decode cX5_sham 105 = .ok (.iconst 1, 1) := by decide +kernel
theorem dX5_sham_106 : decode cX5_sham 106 = .ok (.goto 18, 3) := by decide +kernel
theorem dX5_sham_109 : decode cX5_sham 109 = .ok (.iconst 0, 1) := by decide +kernel
theorem dX5_sham_110 : decode cX5_sham 110 = .ok (.goto 14, 3) := by decide +kernel
theorem dX5_sham_113 : decode cX5_sham 113 = .ok (.iload 4, 2) := by decide +kernel
theorem dX5_sham_115 : decode cX5_sham 115 = .ok (.aload_n 0, 1) := by decide +kernel
theorem dX5_sham_116 : decode cX5_sham 116 = .ok (.getfield 70, 3) := by decide +kernel
theorem dX5_sham_119 : decode cX5_sham 119 = .ok (.iload_n 3, 1) := by decide +kernel
theorem dX5_sham_120 : decode cX5_sham 120 = .ok (.iaload, 1) := by decide +kernel
theorem dX5_sham_121 : decode cX5_sham 121 = .ok (.invokestatic 95, 3) := by decide +kernel
theorem dX5_sham_124 : decode cX5_sham 124 = .ok (.istore 5, 2) := by decide +kernel
theorem dX5_sham_126 : decode cX5_sham 126 = .ok (.iload 5, 2) := by decide +kernel
theorem dX5_sham_128 : decode cX5_sham 128 = .ok (.ifCond .ne 5, 3) := by decide +kernel
theorem dX5_sham_131 : decode cX5_sham 131 = .ok (.iload_n 3, 1) := by decide +kernel
theorem dX5_sham_132 : decode cX5_sham 132 = .ok (.ireturn, 1) := by decide +kernel
theorem dX5_sham_133 : decode cX5_sham 133 = .ok (.iinc 3 1, 3) := by decide +kernel
theorem dX5_sham_136 : decode cX5_sham 136 = .ok (.goto (-63), 3) := by decide +kernel
theorem dX5_sham_139 : decode cX5_sham 139 = .ok (.bipush (-9), 2) := by decide +kernel
theorem dX5_sham_141 : decode cX5_sham 141 = .ok (.ireturn, 1) := by decide +kernel
theorem dX5_who_0 : decode cX5_who 0 = .ok (.aload_n 0, 1) := by decide +kernel
theorem dX5_who_1 : decode cX5_who 1 = .ok (.iconst 0, 1) := by decide +kernel
theorem dX5_who_2 : decode cX5_who 2 = .ok (.putfield 73, 3) := by decide +kernel
theorem dX5_who_5 : decode cX5_who 5 = .ok (.aload_n 0, 1) := by decide +kernel
theorem dX5_who_6 : decode cX5_who 6 = .ok (.iload_n 1, 1) := by decide +kernel
theorem dX5_who_7 : decode cX5_who 7 = .ok (.invokevirtual 164, 3) := by decide +kernel
theorem dX5_who_10 : decode cX5_who 10 = .ok (.ifCond .eq 13, 3) := by decide +kernel
theorem dX5_who_13 : decode cX5_who 13 = .ok (.iload_n 2, 1) := by decide +kernel
theorem dX5_who_14 : decode cX5_who 14 = .ok (.iconst 0, 1) := by decide +kernel
theorem dX5_who_15 : decode cX5_who 15 = .ok (.bipush 24, 2) := by decide +kernel
theorem dX5_who_17 : decode cX5_who 17 = .ok (.invokestatic 213, 3) := by decide +kernel
theorem dX5_who_20 : decode cX5_who 20 = .ok (.goto 4, 3) := by decide +kernel
theorem dX5_who_23 : decode cX5_who 23 = .ok (.iconst (-1), 1) := by decide +kernel
theorem dX5_who_24 : decode cX5_who 24 = .ok (.istore_n 3, 1) := by decide +kernel
theorem dX5_who_25 : decode cX5_who 25 = .ok (.iload_n 3, 1) := by decide +kernel
theorem dX5_who_26 : decode cX5_who 26 = .ok (.ifCond .ge 9, 3) := by decide +kernel
theorem dX5_who_29 : decode cX5_who 29 = .ok (.aload_n 0, 1) := by decide +kernel
theorem dX5_who_30 : decode cX5_who 30 = .ok (.iload_n 3, 1) := by decide +kernel
theorem dX5_who_31 : decode cX5_who 31 = .ok (.invokevirtual 129, 3) := by decide +kernel
theorem dX5_who_34 : decode cX5_who 34 = .ok (.ireturn, 1) := by decide +kernel
theorem dX5_who_35 : decode cX5_who 35 = .ok (.aload_n 0, 1) := by decide +kernel
theorem dX5_who_36 : decode cX5_who 36 = .ok (.invokevirtual 123, 3) := by decide +kernel
theorem dX5_who_39 : decode cX5_who 39 = .ok (.iconst 0, 1) := by decide +kernel
theorem dX5_who_40 : decode cX5_who 40 = .ok (.istore 4, 2) := by decide +kernel
theorem dX5_who_42 : decode cX5_who 42 = .ok (.iconst 0, 1) := by decide +kernel
theorem dX5_who_43 : decode cX5_who 43 = .ok (.istore 5, 2) := by decide +kernel
theorem dX5_who_45 : decode cX5_who 45 = .ok (.iload 5, 2) := by decide +kernel
theorem dX5_who_47 : decode cX5_who 47 = .ok (.aload_n 0, 1) := by decide +kernel
theorem dX5_who_48 : decode cX5_who 48 = .ok (.getfield 84, 3) := by decide +kernel
theorem dX5_who_51 : decode cX5_who 51 = .ok (.if_icmp .ge 74, 3) := by decide +kernel
theorem dX5_who_54 : decode cX5_who 54 = .ok (.iconst 0, 1) := by decide +kernel
theorem dX5_who_55 : decode cX5_who 55 = .ok (.istore 6, 2) := by decide +kernel
theorem dX5_who_57 : decode cX5_who 57 = .ok (.iconst 0, 1) := by decide +kernel
theorem dX5_who_58 : decode cX5_who 58 = .ok (.istore 7, 2) := by decide +kernel
theorem dX5_who_60 : decode cX5_who 60 = .ok (.iload 7, 2) := by decide +kernel
theorem dX5_who_62 : decode cX5_who 62 = .ok (.bipush 24, 2) := by decide +kernel
theorem dX5_who_64 : decode cX5_who 64 = .ok (.if_icmp .ge 36, 3) := by decide +kernel
theorem dX5_who_67 : decode cX5_who 67 = .ok (.iload 6, 2) := by decide +kernel
theorem dX5_who_69 : decode cX5_who 69 = .ok (.aload_n 0, 1) := by decide +kernel
theorem dX5_who_70 : decode cX5_who 70 = .ok (.getfield 40, 3) := by decide +kernel
theorem dX5_who_73 : decode cX5_who 73 = .ok (.bipush 6, 2) := by decide +kernel
theorem dX5_who_75 : decode cX5_who 75 = .ok (.iload 7, 2) := by decide +kernel
theorem dX5_who_77 : decode cX5_who 77 = .ok (.imul, 1) := by decide +kernel
theorem dX5_who_78 : decode cX5_who 78 = .ok (.iload 5, 2) := by decide +kernel
theorem dX5_who_80 : decode cX5_who 80 = .ok (.iadd, 1) := by decide +kernel
theorem dX5_who_81 : decode cX5_who 81 = .ok (.iaload, 1) := by decide +kernel
theorem dX5_who_82 : decode cX5_who 82 = .ok (.iload_n 1, 1) := by decide +kernel
theorem dX5_who_83 : decode cX5_who 83 = .ok (.if_icmp .ne 7, 3) := by decide +kernel
theorem dX5_who_86 : decode cX5_who 86 = .ok (.iconst 1, 1) := by decide +kernel
theorem dX5_who_87 : decode cX5_who 87 = .ok (.goto 4, 3) := by decide +kernel
theorem dX5_who_90 : decode cX5_who 90 = .ok (.iconst 0, 1) := by decide +kernel
theorem dX5_who_91 : decode cX5_who 91 = .ok (.iadd, 1) := by decide +kernel
theorem dX5_who_92 : decode cX5_who 92 = .ok (.istore 6, 2) := by decide +kernel
theorem dX5_who_94 : decode cX5_who 94 = .ok (.iinc 7 1, 3) := by decide +kernel
theorem dX5_who_97 : decode cX5_who 97 = .ok (.goto (-37), 3) := by decide +kernel
theorem dX5_who_100 : decode cX5_who 100 = .ok (.iload 4, 2) := by decide +kernel
theorem dX5_who_102 : decode cX5_who 102 = .ok (.iload 6, 2) := by decide +kernel
theorem dX5_who_104 : decode cX5_who 104 = .ok (.iload_n 2, 1) := by decide +kernel
theorem dX5_who_105 : decode cX5_who 105 = .ok (.if_icmp .ne 10, 3) := by decide +kernel
theorem dX5_who_108 : decode cX5_who 108 = .ok (.iconst 1, 1) := by decide +kernel
theorem dX5_who_109 : decode cX5_who 109 = .ok (.iload 5, 2) := by decide +kernel
theorem dX5_who_111 : decode cX5_who 111 = .ok (.ishl, 1) := by decide +kernel
theorem dX5_who_112 : decode cX5_who 112 = .ok (.goto 4, 3) := by decide +kernel
theorem dX5_who_115 : decode cX5_who 115 = .ok (.iconst 0, 1) := by decide +kernel
theorem dX5_who_116 : decode cX5_who 116 = .ok (.ior, 1) := by decide +kernel
theorem dX5_who_117 : decode cX5_who 117 = .ok (.istore 4, 2) := by decide +kernel
theorem dX5_who_119 : decode cX5_who 119 = .ok (.iinc 5 1, 3) := by decide +kernel
theorem dX5_who_122 : decode cX5_who 122 = .ok (.goto (-77), 3) := by decide +kernel
theorem dX5_who_125 : decode cX5_who 125 = .ok (.iload 4, 2) := by decide +kernel
theorem dX5_who_127 : decode cX5_who 127 = .ok (.ireturn, 1) := by decide +kernel
theorem dX5_questions_0 : decode cX5_questions 0 = .ok (.aload_n 0, 1) := by decide +kernel
theorem dX5_questions_1 : decode cX5_questions 1 = .ok (.iconst 0, 1) := by decide +kernel
theorem dX5_questions_2 : decode cX5_questions 2 = .ok (.putfield 73, 3) := by decide +kernel
theorem dX5_questions_5 : decode cX5_questions 5 = .ok (.iconst 0, 1) := by decide +kernel
theorem dX5_questions_6 : decode cX5_questions 6 = .ok (.istore_n 1, 1) := by decide +kernel
theorem dX5_questions_7 : decode cX5_questions 7 = .ok (.iconst 0, 1) := by decide +kernel
theorem dX5_questions_8 : decode cX5_questions 8 = .ok (.istore_n 2, 1) := by decide +kernel
theorem dX5_questions_9 : decode cX5_questions 9 = .ok (.iconst 0, 1) := by decide +kernel
theorem dX5_questions_10 : decode cX5_questions 10 = .ok (.istore_n 3, 1) := by decide +kernel
theorem dX5_questions_11 : decode cX5_questions 11 = .ok (.iload_n 3, 1) := by decide +kernel
theorem dX5_questions_12 : decode cX5_questions 12 = .ok (.aload_n 0, 1) := by decide +kernel
theorem dX5_questions_13 : decode cX5_questions 13 = .ok (.getfield 84, 3) := by decide +kernel
theorem dX5_questions_16 : decode cX5_questions 16 = .ok (.if_icmp .ge 43, 3) := by decide +kernel
theorem dX5_questions_19 : decode cX5_questions 19 = .ok (.iload_n 1, 1) := by decide +kernel
theorem dX5_questions_20 : decode cX5_questions 20 = .ok (.iload_n 2, 1) := by decide +kernel
theorem dX5_questions_21 : decode cX5_questions 21 = .ok (.aload_n 0, 1) := by decide +kernel
theorem dX5_questions_22 : decode cX5_questions 22 = .ok (.getfield 28, 3) := by decide +kernel
theorem dX5_questions_25 : decode cX5_questions 25 = .ok (.iload_n 3, 1) := by decide +kernel
theorem dX5_questions_26 : decode cX5_questions 26 = .ok (.iaload, 1) := by decide +kernel
theorem dX5_questions_27 : decode cX5_questions 27 = .ok (.invokestatic 95, 3) := by decide +kernel
theorem dX5_questions_30 : decode cX5_questions 30 = .ok (.ifCond .eq 7, 3) := by decide +kernel
theorem dX5_questions_33 : decode cX5_questions 33 = .ok (.iconst 0, 1) := by decide +kernel
theorem dX5_questions_34 : decode cX5_questions 34 = .ok (.goto 6, 3) := by decide +kernel
theorem dX5_questions_37 : decode cX5_questions 37 = .ok (.iconst 1, 1) := by decide +kernel
theorem dX5_questions_38 : decode cX5_questions 38 = .ok (.iload_n 3, 1) := by decide +kernel
theorem dX5_questions_39 : decode cX5_questions 39 = .ok (.ishl, 1) := by decide +kernel
theorem dX5_questions_40 : decode cX5_questions 40 = .ok (.ior, 1) := by decide +kernel
theorem dX5_questions_41 : decode cX5_questions 41 = .ok (.istore_n 1, 1) := by decide +kernel
theorem dX5_questions_42 : decode cX5_questions 42 = .ok (.iload_n 2, 1) := by decide +kernel
theorem dX5_questions_43 : decode cX5_questions 43 = .ok (.iconst 1, 1) := by decide +kernel
theorem dX5_questions_44 : decode cX5_questions 44 = .ok (.aload_n 0, 1) := by decide +kernel
theorem dX5_questions_45 : decode cX5_questions 45 = .ok (.getfield 28, 3) := by decide +kernel
theorem dX5_questions_48 : decode cX5_questions 48 = .ok (.iload_n 3, 1) := by decide +kernel
theorem dX5_questions_49 : decode cX5_questions 49 = .ok (.iaload, 1) := by decide +kernel
theorem dX5_questions_50 : decode cX5_questions 50 = .ok (.ishl, 1) := by decide +kernel
theorem dX5_questions_51 : decode cX5_questions 51 = .ok (.ior, 1) := by decide +kernel
theorem dX5_questions_52 : decode cX5_questions 52 = .ok (.istore_n 2, 1) := by decide +kernel
theorem dX5_questions_53 : decode cX5_questions 53 = .ok (.iinc 3 1, 3) := by decide +kernel
theorem dX5_questions_56 : decode cX5_questions 56 = .ok (.goto (-45), 3) := by decide +kernel
theorem dX5_questions_59 : decode cX5_questions 59 = .ok (.iload_n 1, 1) := by decide +kernel
theorem dX5_questions_60 : decode cX5_questions 60 = .ok (.ireturn, 1) := by decide +kernel
theorem dX5_quarrelHours_0 : decode cX5_quarrelHours 0 = .ok (.aload_n 0, 1) := by decide +kernel
theorem dX5_quarrelHours_1 : decode cX5_quarrelHours 1 = .ok (.invokevirtual 123, 3) := by decide +kernel
theorem dX5_quarrelHours_4 : decode cX5_quarrelHours 4 = .ok (.iconst 0, 1) := by decide +kernel
theorem dX5_quarrelHours_5 : decode cX5_quarrelHours 5 = .ok (.istore_n 1, 1) := by decide +kernel
theorem dX5_quarrelHours_6 : decode cX5_quarrelHours 6 = .ok (.iconst 0, 1) := by decide +kernel
theorem dX5_quarrelHours_7 : decode cX5_quarrelHours 7 = .ok (.istore_n 2, 1) := by decide +kernel
theorem dX5_quarrelHours_8 : decode cX5_quarrelHours 8 = .ok (.iload_n 2, 1) := by decide +kernel
theorem dX5_quarrelHours_9 : decode cX5_quarrelHours 9 = .ok (.bipush 24, 2) := by decide +kernel
theorem dX5_quarrelHours_11 : decode cX5_quarrelHours 11 = .ok (.if_icmp .ge 76, 3) := by decide +kernel
theorem dX5_quarrelHours_14 : decode cX5_quarrelHours 14 = .ok (.iconst 0, 1) := by decide +kernel
theorem dX5_quarrelHours_15 : decode cX5_quarrelHours 15 = .ok (.istore_n 3, 1) := by decide +kernel
theorem dX5_quarrelHours_16 : decode cX5_quarrelHours 16 = .ok (.iconst 0, 1) := by decide +kernel
theorem dX5_quarrelHours_17 : decode cX5_quarrelHours 17 = .ok (.istore 4, 2) := by decide +kernel
theorem dX5_quarrelHours_19 : decode cX5_quarrelHours 19 = .ok (.iload 4, 2) := by decide +kernel
theorem dX5_quarrelHours_21 : decode cX5_quarrelHours 21 = .ok (.aload_n 0, 1) := by decide +kernel
theorem dX5_quarrelHours_22 : decode cX5_quarrelHours 22 = .ok (.getfield 84, 3) := by decide +kernel
theorem dX5_quarrelHours_25 : decode cX5_quarrelHours 25 = .ok (.if_icmp .ge 43, 3) := by decide +kernel
theorem dX5_quarrelHours_28 : decode cX5_quarrelHours 28 = .ok (.iload_n 3, 1) := by decide +kernel
theorem dX5_quarrelHours_29 : decode cX5_quarrelHours 29 = .ok (.aload_n 0, 1) := by decide +kernel
theorem dX5_quarrelHours_30 : decode cX5_quarrelHours 30 = .ok (.getfield 22, 3) := by decide +kernel
theorem dX5_quarrelHours_33 : decode cX5_quarrelHours 33 = .ok (.iload 4, 2) := by decide +kernel
theorem dX5_quarrelHours_35 : decode cX5_quarrelHours 35 = .ok (.iaload, 1) := by decide +kernel
theorem dX5_quarrelHours_36 : decode cX5_quarrelHours 36 = .ok (.iconst 3, 1) := by decide +kernel
theorem dX5_quarrelHours_37 : decode cX5_quarrelHours 37 = .ok (.if_icmp .ne 22, 3) := by decide +kernel
theorem dX5_quarrelHours_40 : decode cX5_quarrelHours 40 = .ok (.aload_n 0, 1) := by decide +kernel
theorem dX5_quarrelHours_41 : decode cX5_quarrelHours 41 = .ok (.getfield 40, 3) := by decide +kernel
theorem dX5_quarrelHours_44 : decode cX5_quarrelHours 44 = .ok (.bipush 6, 2) := by decide +kernel
theorem dX5_quarrelHours_46 : decode cX5_quarrelHours 46 = .ok (.iload_n 2, 1) := by decide +kernel
theorem dX5_quarrelHours_47 : decode cX5_quarrelHours 47 = .ok (.imul, 1) := by decide +kernel
theorem dX5_quarrelHours_48 : decode cX5_quarrelHours 48 = .ok (.iload 4, 2) := by decide +kernel
theorem dX5_quarrelHours_50 : decode cX5_quarrelHours 50 = .ok (.iadd, 1) := by decide +kernel
theorem dX5_quarrelHours_51 : decode cX5_quarrelHours 51 = .ok (.iaload, 1) := by decide +kernel
theorem dX5_quarrelHours_52 : decode cX5_quarrelHours 52 = .ok (.ifCond .lt 7, 3) := by decide +kernel
theorem dX5_quarrelHours_55 : decode cX5_quarrelHours 55 = .ok (.iconst 1, 1) := by decide +kernel
theorem dX5_quarrelHours_56 : decode cX5_quarrelHours 56 = .ok (.goto 4, 3) := by decide +kernel
theorem dX5_quarrelHours_59 : decode cX5_quarrelHours 59 = .ok (.iconst 0, 1) := by decide +kernel
theorem dX5_quarrelHours_60 : decode cX5_quarrelHours 60 = .ok (.iadd, 1) := by decide +kernel
theorem dX5_quarrelHours_61 : decode cX5_quarrelHours 61 = .ok (.istore_n 3, 1) := by decide +kernel
theorem dX5_quarrelHours_62 : decode cX5_quarrelHours 62 = .ok (.iinc 4 1, 3) := by decide +kernel
theorem dX5_quarrelHours_65 : decode cX5_quarrelHours 65 = .ok (.goto (-46), 3) := by decide +kernel
theorem dX5_quarrelHours_68 : decode cX5_quarrelHours 68 = .ok (.iload_n 1, 1) := by decide +kernel
theorem dX5_quarrelHours_69 : decode cX5_quarrelHours 69 = .ok (.iload_n 3, 1) := by decide +kernel
theorem dX5_quarrelHours_70 : decode cX5_quarrelHours 70 = .ok (.iconst 1, 1) := by decide +kernel
theorem dX5_quarrelHours_71 : decode cX5_quarrelHours 71 = .ok (.if_icmp .le 7, 3) := by decide +kernel
theorem dX5_quarrelHours_74 : decode cX5_quarrelHours 74 = .ok (.iconst 1, 1) := by decide +kernel
theorem dX5_quarrelHours_75 : decode cX5_quarrelHours 75 = .ok (.goto 4, 3) := by decide +kernel
theorem dX5_quarrelHours_78 : decode cX5_quarrelHours 78 = .ok (.iconst 0, 1) := by decide +kernel
theorem dX5_quarrelHours_79 : decode cX5_quarrelHours 79 = .ok (.iadd, 1) := by decide +kernel
theorem dX5_quarrelHours_80 : decode cX5_quarrelHours 80 = .ok (.istore_n 1, 1) := by decide +kernel
theorem dX5_quarrelHours_81 : decode cX5_quarrelHours 81 = .ok (.iinc 2 1, 3) := by decide +kernel
theorem dX5_quarrelHours_84 : decode cX5_quarrelHours 84 = .ok (.goto (-76), 3) := by decide +kernel
theorem dX5_quarrelHours_87 : decode cX5_quarrelHours 87 = .ok (.iload_n 1, 1) := by decide +kernel
theorem dX5_quarrelHours_88 : decode cX5_quarrelHours 88 = .ok (.ireturn, 1) := by decide +kernel
theorem dX5_quarrels_0 : decode cX5_quarrels 0 = .ok (.aload_n 0, 1) := by decide +kernel
theorem dX5_quarrels_1 : decode cX5_quarrels 1 = .ok (.iconst 0, 1) := by decide +kernel
theorem dX5_quarrels_2 : decode cX5_quarrels 2 = .ok (.putfield 73, 3) := by decide +kernel
theorem dX5_quarrels_5 : decode cX5_quarrels 5 = .ok (.iload_n 1, 1) := by decide +kernel
theorem dX5_quarrels_6 : decode cX5_quarrels 6 = .ok (.i2l, 1) := by decide +kernel
theorem dX5_quarrels_7 : decode cX5_quarrels 7 = .ok (.lconst 0, 1) := by decide +kernel
theorem dX5_quarrels_8 : decode cX5_quarrels 8 = .ok (.lconst 1, 1) := by decide +kernel
theorem dX5_quarrels_9 : decode cX5_quarrels 9 = .ok (.invokestatic 80, 3) := by decide +kernel
theorem dX5_quarrels_12 : decode cX5_quarrels 12 = .ok (.ifCond .ne 10, 3) := by decide +kernel
theorem dX5_quarrels_15 : decode cX5_quarrels 15 = .ok (.aload_n 0, 1) := by decide +kernel
theorem dX5_quarrels_16 : decode cX5_quarrels 16 = .ok (.bipush (-2), 2) := by decide +kernel
theorem dX5_quarrels_18 : decode cX5_quarrels 18 = .ok (.invokevirtual 129, 3) := by decide +kernel
theorem dX5_quarrels_21 : decode cX5_quarrels 21 = .ok (.ireturn, 1) := by decide +kernel
theorem dX5_quarrels_22 : decode cX5_quarrels 22 = .ok (.iload_n 1, 1) := by decide +kernel
theorem dX5_quarrels_23 : decode cX5_quarrels 23 = .ok (.ifCond .ne 8, 3) := by decide +kernel
theorem dX5_quarrels_26 : decode cX5_quarrels 26 = .ok (.aload_n 0, 1) := by decide +kernel
theorem dX5_quarrels_27 : decode cX5_quarrels 27 = .ok (.invokevirtual 273, 3) := by decide +kernel
theorem dX5_quarrels_30 : decode cX5_quarrels 30 = .ok (.ireturn, 1) := by decide +kernel
theorem dX5_quarrels_31 : decode cX5_quarrels 31 = .ok (.iconst 0, 1) := by decide +kernel
theorem dX5_quarrels_32 : decode cX5_quarrels 32 = .ok (.istore_n 2, 1) := by decide +kernel
theorem dX5_quarrels_33 : decode cX5_quarrels 33 = .ok (.iconst 0, 1) := by decide +kernel
theorem dX5_quarrels_34 : decode cX5_quarrels 34 = .ok (.istore_n 3, 1) := by decide +kernel
theorem dX5_quarrels_35 : decode cX5_quarrels 35 = .ok (.iload_n 3, 1) := by decide +kernel
theorem dX5_quarrels_36 : decode cX5_quarrels 36 = .ok (.aload_n 0, 1) := by decide +kernel
theorem dX5_quarrels_37 : decode cX5_quarrels 37 = .ok (.getfield 84, 3) := by decide +kernel
theorem dX5_quarrels_40 : decode cX5_quarrels 40 = .ok (.if_icmp .ge 29, 3) := by decide +kernel
theorem dX5_quarrels_43 : decode cX5_quarrels 43 = .ok (.iload_n 2, 1) := by decide +kernel
theorem dX5_quarrels_44 : decode cX5_quarrels 44 = .ok (.aload_n 0, 1) := by decide +kernel
theorem dX5_quarrels_45 : decode cX5_quarrels 45 = .ok (.getfield 22, 3) := by decide +kernel
theorem dX5_quarrels_48 : decode cX5_quarrels 48 = .ok (.iload_n 3, 1) := by decide +kernel
theorem dX5_quarrels_49 : decode cX5_quarrels 49 = .ok (.iaload, 1) := by decide +kernel
theorem dX5_quarrels_50 : decode cX5_quarrels 50 = .ok (.iconst 3, 1) := by decide +kernel
theorem dX5_quarrels_51 : decode cX5_quarrels 51 = .ok (.if_icmp .ne 9, 3) := by decide +kernel
theorem dX5_quarrels_54 : decode cX5_quarrels 54 = .ok (.iconst 1, 1) := by decide +kernel
theorem dX5_quarrels_55 : decode cX5_quarrels 55 = .ok (.iload_n 3, 1) := by decide +kernel
theorem dX5_quarrels_56 : decode cX5_quarrels 56 = .ok (.ishl, 1) := by decide +kernel
theorem dX5_quarrels_57 : decode cX5_quarrels 57 = .ok (.goto 4, 3) := by decide +kernel
theorem dX5_quarrels_60 : decode cX5_quarrels 60 = .ok (.iconst 0, 1) := by decide +kernel
theorem dX5_quarrels_61 : decode cX5_quarrels 61 = .ok (.ior, 1) := by decide +kernel
theorem dX5_quarrels_62 : decode cX5_quarrels 62 = .ok (.istore_n 2, 1) := by decide +kernel
theorem dX5_quarrels_63 : decode cX5_quarrels 63 = .ok (.iinc 3 1, 3) := by decide +kernel
theorem dX5_quarrels_66 : decode cX5_quarrels 66 = .ok (.goto (-31), 3) := by decide +kernel
theorem dX5_quarrels_69 : decode cX5_quarrels 69 = .ok (.iconst (-1), 1) := by decide +kernel
theorem dX5_quarrels_70 : decode cX5_quarrels 70 = .ok (.istore_n 3, 1) := by decide +kernel
theorem dX5_quarrels_71 : decode cX5_quarrels 71 = .ok (.iconst 0, 1) := by decide +kernel
theorem dX5_quarrels_72 : decode cX5_quarrels 72 = .ok (.istore 4, 2) := by decide +kernel
theorem dX5_quarrels_74 : decode cX5_quarrels 74 = .ok (.iload 4, 2) := by decide +kernel
theorem dX5_quarrels_76 : decode cX5_quarrels 76 = .ok (.iload_n 2, 1) := by decide +kernel
theorem dX5_quarrels_77 : decode cX5_quarrels 77 = .ok (.if_icmp .gt 54, 3) := by decide +kernel
theorem dX5_quarrels_80 : decode cX5_quarrels 80 = .ok (.iload 4, 2) := by decide +kernel
theorem dX5_quarrels_82 : decode cX5_quarrels 82 = .ok (.iload_n 2, 1) := by decide +kernel
theorem dX5_quarrels_83 : decode cX5_quarrels 83 = .ok (.iconst (-1), 1) := by decide +kernel
theorem dX5_quarrels_84 : decode cX5_quarrels 84 = .ok (.ixor, 1) := by decide +kernel
theorem dX5_quarrels_85 : decode cX5_quarrels 85 = .ok (.iand, 1) := by decide +kernel
theorem dX5_quarrels_86 : decode cX5_quarrels 86 = .ok (.ifCond .ne 39, 3) := by decide +kernel
theorem dX5_quarrels_89 : decode cX5_quarrels 89 = .ok (.iload_n 3, 1) := by decide +kernel
theorem dX5_quarrels_90 : decode cX5_quarrels 90 = .ok (.ifCond .lt 15, 3) := by decide +kernel
theorem dX5_quarrels_93 : decode cX5_quarrels 93 = .ok (.iload 4, 2) := by decide +kernel
theorem dX5_quarrels_95 : decode cX5_quarrels 95 = .ok (.invokestatic 120, 3) := by decide +kernel
theorem dX5_quarrels_98 : decode cX5_quarrels 98 = .ok (.iload_n 3, 1) := by decide +kernel
theorem dX5_quarrels_99 : decode cX5_quarrels 99 = .ok (.invokestatic 120, 3) := by decide +kernel
theorem dX5_quarrels_102 : decode cX5_quarrels 102 = .ok (.if_icmp .ge 23, 3) := by decide +kernel
theorem dX5_quarrels_105 : decode cX5_quarrels 105 = .ok (.aload_n 0, 1) := by decide +kernel
theorem dX5_quarrels_106 : decode cX5_quarrels 106 = .ok (.iload 4, 2) := by decide +kernel
theorem dX5_quarrels_108 : decode cX5_quarrels 108 = .ok (.putfield 109, 3) := by decide +kernel
theorem dX5_quarrels_111 : decode cX5_quarrels 111 = .ok (.aload_n 0, 1) := by decide +kernel
theorem dX5_quarrels_112 : decode cX5_quarrels 112 = .ok (.invokevirtual 273, 3) := by decide +kernel
theorem dX5_quarrels_115 : decode cX5_quarrels 115 = .ok (.ifCond .ne 8, 3) := by decide +kernel
theorem dX5_quarrels_118 : decode cX5_quarrels 118 = .ok (.iload 4, 2) := by decide +kernel
theorem dX5_quarrels_120 : decode cX5_quarrels 120 = .ok (.goto 4, 3) := by decide +kernel
theorem dX5_quarrels_123 : decode cX5_quarrels 123 = .ok (.iload_n 3, 1) := by decide +kernel
theorem dX5_quarrels_124 : decode cX5_quarrels 124 = .ok (.istore_n 3, 1) := by decide +kernel
theorem dX5_quarrels_125 : decode cX5_quarrels 125 = .ok (.iinc 4 1, 3) := by decide +kernel
theorem dX5_quarrels_128 : decode cX5_quarrels 128 = .ok (.goto (-54), 3) := by decide +kernel
theorem dX5_quarrels_131 : decode cX5_quarrels 131 = .ok (.aload_n 0, 1) := by decide +kernel
theorem dX5_quarrels_132 : decode cX5_quarrels 132 = .ok (.iconst 0, 1) := by decide +kernel
theorem dX5_quarrels_133 : decode cX5_quarrels 133 = .ok (.putfield 109, 3) := by decide +kernel
theorem dX5_quarrels_136 : decode cX5_quarrels 136 = .ok (.iload_n 3, 1) := by decide +kernel
theorem dX5_quarrels_137 : decode cX5_quarrels 137 = .ok (.ireturn, 1) := by decide +kernel
theorem dX5_silent_0 : decode cX5_silent 0 = .ok (.aload_n 0, 1) := by decide +kernel
theorem dX5_silent_1 : decode cX5_silent 1 = .ok (.iconst 0, 1) := by decide +kernel
theorem dX5_silent_2 : decode cX5_silent 2 = .ok (.putfield 73, 3) := by decide +kernel
theorem dX5_silent_5 : decode cX5_silent 5 = .ok (.iload_n 1, 1) := by decide +kernel
theorem dX5_silent_6 : decode cX5_silent 6 = .ok (.i2l, 1) := by decide +kernel
theorem dX5_silent_7 : decode cX5_silent 7 = .ok (.lconst 0, 1) := by decide +kernel
theorem dX5_silent_8 : decode cX5_silent 8 = .ok (.ldc2_w 211, 3) := by decide +kernel
theorem dX5_silent_11 : decode cX5_silent 11 = .ok (.invokestatic 80, 3) := by decide +kernel
theorem dX5_silent_14 : decode cX5_silent 14 = .ok (.ifCond .ne 10, 3) := by decide +kernel
theorem dX5_silent_17 : decode cX5_silent 17 = .ok (.aload_n 0, 1) := by decide +kernel
theorem dX5_silent_18 : decode cX5_silent 18 = .ok (.bipush (-2), 2) := by decide +kernel
theorem dX5_silent_20 : decode cX5_silent 20 = .ok (.invokevirtual 129, 3) := by decide +kernel
theorem dX5_silent_23 : decode cX5_silent 23 = .ok (.ireturn, 1) := by decide +kernel
theorem dX5_silent_24 : decode cX5_silent 24 = .ok (.aload_n 0, 1) := by decide +kernel
theorem dX5_silent_25 : decode cX5_silent 25 = .ok (.invokevirtual 123, 3) := by decide +kernel
theorem dX5_silent_28 : decode cX5_silent 28 = .ok (.iconst 0, 1) := by decide +kernel
theorem dX5_silent_29 : decode cX5_silent 29 = .ok (.istore_n 2, 1) := by decide +kernel
theorem dX5_silent_30 : decode cX5_silent 30 = .ok (.iconst 0, 1) := by decide +kernel
theorem dX5_silent_31 : decode cX5_silent 31 = .ok (.istore_n 3, 1) := by decide +kernel
theorem dX5_silent_32 : decode cX5_silent 32 = .ok (.iconst 0, 1) := by decide +kernel
theorem dX5_silent_33 : decode cX5_silent 33 = .ok (.istore 4, 2) := by decide +kernel
theorem dX5_silent_35 : decode cX5_silent 35 = .ok (.bipush (-9), 2) := by decide +kernel
theorem dX5_silent_37 : decode cX5_silent 37 = .ok (.istore 5, 2) := by decide +kernel
theorem dX5_silent_39 : decode cX5_silent 39 = .ok (.iconst 0, 1) := by decide +kernel
theorem dX5_silent_40 : decode cX5_silent 40 = .ok (.istore 6, 2) := by decide +kernel
theorem dX5_silent_42 : decode cX5_silent 42 = .ok (.iload 6, 2) := by decide +kernel
theorem dX5_silent_44 : decode cX5_silent 44 = .ok (.bipush 24, 2) := by decide +kernel
theorem dX5_silent_46 : decode cX5_silent 46 = .ok (.if_icmp .ge 85, 3) := by decide +kernel
theorem dX5_silent_49 : decode cX5_silent 49 = .ok (.aload_n 0, 1) := by decide +kernel
theorem dX5_silent_50 : decode cX5_silent 50 = .ok (.iconst (-1), 1) := by decide +kernel
theorem dX5_silent_51 : decode cX5_silent 51 = .ok (.iload 6, 2) := by decide +kernel
theorem dX5_silent_53 : decode cX5_silent 53 = .ok (.invokevirtual 233, 3) := by decide +kernel
theorem dX5_silent_56 : decode cX5_silent 56 = .ok (.ifCond .ne 7, 3) := by decide +kernel
theorem dX5_silent_59 : decode cX5_silent 59 = .ok (.iconst 1, 1) := by decide +kernel
theorem dX5_silent_60 : decode cX5_silent 60 = .ok (.goto 4, 3) := by decide +kernel
theorem dX5_silent_63 : decode cX5_silent 63 = .ok (.iconst 0, 1) := by decide +kernel
theorem dX5_silent_64 : decode cX5_silent 64 = .ok (.istore 7, 2) := by decide +kernel
theorem dX5_silent_66 : decode cX5_silent 66 = .ok (.iload_n 2, 1) := by decide +kernel
theorem dX5_silent_67 : decode cX5_silent 67 = .ok (.iload 7, 2) := by decide +kernel
theorem dX5_silent_69 : decode cX5_silent 69 = .ok (.ifCond .eq 7, 3) := by decide +kernel
theorem dX5_silent_72 : decode cX5_silent 72 = .ok (.iconst 1, 1) := by decide +kernel
theorem dX5_silent_73 : decode cX5_silent 73 = .ok (.goto 4, 3) := by decide +kernel
theorem dX5_silent_76 : decode cX5_silent 76 = .ok (.iconst 0, 1) := by decide +kernel
theorem dX5_silent_77 : decode cX5_silent 77 = .ok (.iadd, 1) := by decide +kernel
theorem dX5_silent_78 : decode cX5_silent 78 = .ok (.istore_n 2, 1) := by decide +kernel
theorem dX5_silent_79 : decode cX5_silent 79 = .ok (.iload 7, 2) := by decide +kernel
theorem dX5_silent_81 : decode cX5_silent 81 = .ok (.ifCond .eq 9, 3) := by decide +kernel
theorem dX5_silent_84 : decode cX5_silent 84 = .ok (.iload_n 3, 1) := by decide +kernel
theorem dX5_silent_85 : decode cX5_silent 85 = .ok (.iconst 1, 1) := by decide +kernel
theorem dX5_silent_86 : decode cX5_silent 86 = .ok (.iadd, 1) := by decide +kernel
theorem dX5_silent_87 : decode cX5_silent 87 = .ok (.goto 4, 3) := by decide +kernel
theorem dX5_silent_90 : decode cX5_silent 90 = .ok (.iconst 0, 1) := by decide +kernel
theorem dX5_silent_91 : decode cX5_silent 91 = .ok (.istore_n 3, 1) := by decide +kernel
theorem dX5_silent_92 : decode cX5_silent 92 = .ok (.iload_n 3, 1) := by decide +kernel
theorem dX5_silent_93 : decode cX5_silent 93 = .ok (.iload 4, 2) := by decide +kernel
theorem dX5_silent_95 : decode cX5_silent 95 = .ok (.if_icmp .le 12, 3) := by decide +kernel
theorem dX5_silent_98 : decode cX5_silent 98 = .ok (.iload 6, 2) := by decide +kernel
theorem dX5_silent_100 : decode cX5_silent 100 = .ok (.iload_n 3, 1) := by decide +kernel
theorem dX5_silent_101 : decode cX5_silent 101 = .ok (.isub, 1) := by decide +kernel
theorem dX5_silent_102 : decode cX5_silent 102 = .ok (.iconst 1, 1) := by decide +kernel
theorem dX5_silent_103 : decode cX5_silent 103 = .ok (.iadd, 1) := by decide +kernel
theorem dX5_silent_104 : decode cX5_silent 104 = .ok (.goto 5, 3) := by decide +kernel
theorem dX5_silent_107 : decode cX5_silent 107 = .ok (.iload 5, 2) := by decide +kernel
theorem dX5_silent_109 : decode cX5_silent 109 = .ok (.istore 5, 2) := by decide +kernel
theorem dX5_silent_111 : decode cX5_silent 111 = .ok (.iload_n 3, 1) := by decide +kernel
theorem dX5_silent_112 : decode cX5_silent 112 = .ok (.iload 4, 2) := by decide +kernel
theorem dX5_silent_114 : decode cX5_silent 114 = .ok (.if_icmp .le 7, 3) := by decide +kernel
theorem dX5_silent_117 : decode cX5_silent 117 = .ok (.iload_n 3, 1) := by decide +kernel
theorem dX5_silent_118 : decode cX5_silent 118 = .ok (.goto 5, 3) := by decide +kernel
theorem dX5_silent_121 : decode cX5_silent 121 = .ok (.iload 4, 2) := by decide +kernel
theorem dX5_silent_123 : decode cX5_silent 123 = .ok (.istore 4, 2) := by decide +kernel
theorem dX5_silent_125 : decode cX5_silent 125 = .ok (.iinc 6 1, 3) := by decide +kernel
theorem dX5_silent_128 : decode cX5_silent 128 = .ok (.goto (-86), 3) := by decide +kernel
theorem dX5_silent_131 : decode cX5_silent 131 = .ok (.iload_n 1, 1) := by decide +kernel
theorem dX5_silent_132 : decode cX5_silent 132 = .ok (.ifCond .ne 7, 3) := by decide +kernel
theorem dX5_silent_135 : decode cX5_silent 135 = .ok (.iload_n 2, 1) := by decide +kernel
theorem dX5_silent_136 : decode cX5_silent 136 = .ok (.goto 15, 3) := by decide +kernel
theorem dX5_silent_139 : decode cX5_silent 139 = .ok (.iload_n 1, 1) := by decide +kernel
theorem dX5_silent_140 : decode cX5_silent 140 = .ok (.iconst 1, 1) := by decide +kernel
theorem dX5_silent_141 : decode cX5_silent 141 = .ok (.if_icmp .ne 8, 3) := by decide +kernel
theorem dX5_silent_144 : decode cX5_silent 144 = .ok (.iload 4, 2) := by decide +kernel
theorem dX5_silent_146 : decode cX5_silent 146 = .ok (.goto 5, 3) := by decide +kernel
theorem dX5_silent_149 : decode cX5_silent 149 = .ok (.iload 5, 2) := by decide +kernel
theorem dX5_silent_151 : decode cX5_silent 151 = .ok (.ireturn, 1) := by decide +kernel
theorem dX5_divisor_0 : decode cX5_divisor 0 = .ok (.lload_n 0, 1) := by decide +kernel
theorem dX5_divisor_1 : decode cX5_divisor 1 = .ok (.lstore 4, 2) := by decide +kernel
theorem dX5_divisor_3 : decode cX5_divisor 3 = .ok (.lload_n 2, 1) := by decide +kernel
theorem dX5_divisor_4 : decode cX5_divisor 4 = .ok (.lstore 6, 2) := by decide +kernel
theorem dX5_divisor_6 : decode cX5_divisor 6 = .ok (.lload 6, 2) := by decide +kernel
theorem dX5_divisor_8 : decode cX5_divisor 8 = .ok (.lconst 0, 1) := by decide +kernel
theorem dX5_divisor_9 : decode cX5_divisor 9 = .ok (.lcmp, 1) := by decide +kernel
theorem dX5_divisor_10 : decode cX5_divisor 10 = .ok (.ifCond .eq 21, 3) := by decide +kernel
theorem dX5_divisor_13 : decode cX5_divisor 13 = .ok (.lload 4, 2) := by decide +kernel
theorem dX5_divisor_15 : decode cX5_divisor 15 = .ok (.lload 6, 2) := by decide +kernel
theorem dX5_divisor_17 : decode cX5_divisor 17 = .ok (.lrem, 1) := by decide +kernel
theorem dX5_divisor_18 : decode cX5_divisor 18 = .ok (.lstore 8, 2) := by decide +kernel
theorem dX5_divisor_20 : decode cX5_divisor 20 = .ok (.lload 6, 2) := by decide +kernel
theorem dX5_divisor_22 : decode cX5_divisor 22 = .ok (.lstore 4, 2) := by decide +kernel
theorem dX5_divisor_24 : decode cX5_divisor 24 = .ok (.lload 8, 2) := by decide +kernel
theorem dX5_divisor_26 : decode cX5_divisor 26 = .ok (.lstore 6, 2) := by decide +kernel
theorem dX5_divisor_28 : decode cX5_divisor 28 = .ok (.goto (-22), 3) := by decide +kernel
theorem dX5_divisor_31 : decode cX5_divisor 31 = .ok (.lload 4, 2) := by decide +kernel
theorem dX5_divisor_33 : decode cX5_divisor 33 = .ok (.lreturn, 1) := by decide +kernel
theorem dX5_colds_0 : decode cX5_colds 0 = .ok (.aload_n 0, 1) := by decide +kernel
theorem dX5_colds_1 : decode cX5_colds 1 = .ok (.iconst 0, 1) := by decide +kernel
theorem dX5_colds_2 : decode cX5_colds 2 = .ok (.putfield 73, 3) := by decide +kernel
theorem dX5_colds_5 : decode cX5_colds 5 = .ok (.aload_n 0, 1) := by decide +kernel
theorem dX5_colds_6 : decode cX5_colds 6 = .ok (.iload_n 1, 1) := by decide +kernel
theorem dX5_colds_7 : decode cX5_colds 7 = .ok (.invokevirtual 164, 3) := by decide +kernel
theorem dX5_colds_10 : decode cX5_colds 10 = .ok (.ifCond .eq 20, 3) := by decide +kernel
theorem dX5_colds_13 : decode cX5_colds 13 = .ok (.iload_n 2, 1) := by decide +kernel
theorem dX5_colds_14 : decode cX5_colds 14 = .ok (.invokestatic 225, 3) := by decide +kernel
theorem dX5_colds_17 : decode cX5_colds 17 = .ok (.ifCond .eq 13, 3) := by decide +kernel
theorem dX5_colds_20 : decode cX5_colds 20 = .ok (.iload_n 3, 1) := by decide +kernel
theorem dX5_colds_21 : decode cX5_colds 21 = .ok (.iconst 2, 1) := by decide +kernel
theorem dX5_colds_22 : decode cX5_colds 22 = .ok (.bipush 20, 2) := by decide +kernel
theorem dX5_colds_24 : decode cX5_colds 24 = .ok (.invokestatic 213, 3) := by decide +kernel
theorem dX5_colds_27 : decode cX5_colds 27 = .ok (.goto 4, 3) := by decide +kernel
theorem dX5_colds_30 : decode cX5_colds 30 = .ok (.iconst (-1), 1) := by decide +kernel
theorem dX5_colds_31 : decode cX5_colds 31 = .ok (.iload 4, 2) := by decide +kernel
theorem dX5_colds_33 : decode cX5_colds 33 = .ok (.iconst 1, 1) := by decide +kernel
theorem dX5_colds_34 : decode cX5_colds 34 = .ok (.invokestatic 248, 3) := by decide +kernel
theorem dX5_colds_37 : decode cX5_colds 37 = .ok (.istore 5, 2) := by decide +kernel
theorem dX5_colds_39 : decode cX5_colds 39 = .ok (.iload 5, 2) := by decide +kernel
theorem dX5_colds_41 : decode cX5_colds 41 = .ok (.ifCond .ge 15, 3) := by decide +kernel
theorem dX5_colds_44 : decode cX5_colds 44 = .ok (.ldc2_w 276, 3) := by decide +kernel
theorem dX5_colds_47 : decode cX5_colds 47 = .ok (.aload_n 0, 1) := by decide +kernel
theorem dX5_colds_48 : decode cX5_colds 48 = .ok (.iload 5, 2) := by decide +kernel
theorem dX5_colds_50 : decode cX5_colds 50 = .ok (.invokevirtual 129, 3) := by decide +kernel
theorem dX5_colds_53 : decode cX5_colds 53 = .ok (.i2l, 1) := by decide +kernel
theorem dX5_colds_54 : decode cX5_colds 54 = .ok (.lsub, 1) := by decide +kernel
theorem dX5_colds_55 : decode cX5_colds 55 = .ok (.lreturn, 1) := by decide +kernel
theorem dX5_colds_56 : decode cX5_colds 56 = .ok (.aload_n 0, 1) := by decide +kernel
theorem dX5_colds_57 : decode cX5_colds 57 = .ok (.invokevirtual 251, 3) := by decide +kernel
theorem dX5_colds_60 : decode cX5_colds 60 = .ok (.istore 6, 2) := by decide +kernel
theorem dX5_colds_62 : decode cX5_colds 62 = .ok (.lconst 0, 1) := by decide +kernel
theorem dX5_colds_63 : decode cX5_colds 63 = .ok (.lstore 7, 2) := by decide +kernel
theorem dX5_colds_65 : decode cX5_colds 65 = .ok (.lconst 1, 1) := by decide +kernel
theorem dX5_colds_66 : decode cX5_colds 66 = .ok (.lstore 9, 2) := by decide +kernel
theorem dX5_colds_68 : decode cX5_colds 68 = .ok (.iconst 0, 1) := by decide +kernel
theorem dX5_colds_69 : decode cX5_colds 69 = .ok (.istore 11, 2) := by decide +kernel
theorem dX5_colds_71 : decode cX5_colds 71 = .ok (.iload 11, 2) := by decide +kernel
theorem dX5_colds_73 : decode cX5_colds 73 = .ok (.aload_n 0, 1) := by decide +kernel
theorem dX5_colds_74 : decode cX5_colds 74 = .ok (.getfield 77, 3) := by decide +kernel
theorem dX5_colds_77 : decode cX5_colds 77 = .ok (.if_icmp .ge 30, 3) := by decide +kernel
theorem dX5_colds_80 : decode cX5_colds 80 = .ok (.lload 9, 2) := by decide +kernel
theorem dX5_colds_82 : decode cX5_colds 82 = .ok (.iload 6, 2) := by decide +kernel
theorem dX5_colds_84 : decode cX5_colds 84 = .ok (.iload 11, 2) := by decide +kernel
theorem dX5_colds_86 : decode cX5_colds 86 = .ok (.invokestatic 95, 3) := by decide +kernel
theorem dX5_colds_89 : decode cX5_colds 89 = .ok (.ifCond .eq 7, 3) := by decide +kernel
theorem dX5_colds_92 : decode cX5_colds 92 = .ok (.lconst 1, 1) := by decide +kernel
theorem dX5_colds_93 : decode cX5_colds 93 = .ok (.goto 5, 3) := by decide +kernel
theorem dX5_colds_96 : decode cX5_colds 96 = .ok (.iload_n 3, 1) := by decide +kernel
theorem dX5_colds_97 : decode cX5_colds 97 = .ok (.i2l, 1) := by decide +kernel
theorem dX5_colds_98 : decode cX5_colds 98 = .ok (.lmul, 1) := by decide +kernel
theorem dX5_colds_99 : decode cX5_colds 99 = .ok (.lstore 9, 2) := by decide +kernel
theorem dX5_colds_101 : decode cX5_colds 101 = .ok (.iinc 11 1, 3) := by decide +kernel
theorem dX5_colds_104 : decode cX5_colds 104 = .ok (.goto (-33), 3) := by decide +kernel
theorem dX5_colds_107 : decode cX5_colds 107 = .ok (.aload_n 0, 1) := by decide +kernel
theorem dX5_colds_108 : decode cX5_colds 108 = .ok (.invokevirtual 254, 3) := by decide +kernel
theorem dX5_colds_111 : decode cX5_colds 111 = .ok (.iconst 0, 1) := by decide +kernel
theorem dX5_colds_112 : decode cX5_colds 112 = .ok (.istore 11, 2) := by decide +kernel
theorem dX5_colds_114 : decode cX5_colds 114 = .ok (.iload 11, 2) := by decide +kernel
theorem dX5_colds_116 : decode cX5_colds 116 = .ok (.iconst 1, 1) := by decide +kernel
theorem dX5_colds_117 : decode cX5_colds 117 = .ok (.aload_n 0, 1) := by decide +kernel
theorem dX5_colds_118 : decode cX5_colds 118 = .ok (.getfield 77, 3) := by decide +kernel
theorem dX5_colds_121 : decode cX5_colds 121 = .ok (.ishl, 1) := by decide +kernel
theorem dX5_colds_122 : decode cX5_colds 122 = .ok (.if_icmp .ge 108, 3) := by decide +kernel
theorem dX5_colds_125 : decode cX5_colds 125 = .ok (.iload 11, 2) := by decide +kernel
theorem dX5_colds_127 : decode cX5_colds 127 = .ok (.iload 6, 2) := by decide +kernel
theorem dX5_colds_129 : decode cX5_colds 129 = .ok (.iand, 1) := by decide +kernel
theorem dX5_colds_130 : decode cX5_colds 130 = .ok (.ifCond .ne 94, 3) := by decide +kernel
theorem dX5_colds_133 : decode cX5_colds 133 = .ok (.lconst 1, 1) := by decide +kernel
theorem dX5_colds_134 : decode cX5_colds 134 = .ok (.lstore 12, 2) := by decide +kernel
theorem dX5_colds_136 : decode cX5_colds 136 = .ok (.iconst 0, 1) := by decide +kernel
theorem dX5_colds_137 : decode cX5_colds 137 = .ok (.istore 14, 2) := by decide +kernel
theorem dX5_colds_139 : decode cX5_colds 139 = .ok (.iload 14, 2) := by decide +kernel
theorem dX5_colds_141 : decode cX5_colds 141 = .ok (.aload_n 0, 1) := by decide +kernel
theorem dX5_colds_142 : decode cX5_colds 142 = .ok (.getfield 77, 3) := by decide +kernel
theorem dX5_colds_145 : decode cX5_colds 145 = .ok (.if_icmp .ge 42, 3) := by decide +kernel
theorem dX5_colds_148 : decode cX5_colds 148 = .ok (.lload 12, 2) := by decide +kernel
theorem dX5_colds_150 : decode cX5_colds 150 = .ok (.iload 6, 2) := by decide +kernel
theorem dX5_colds_152 : decode cX5_colds 152 = .ok (.iload 14, 2) := by decide +kernel
theorem dX5_colds_154 : decode cX5_colds 154 = .ok (.invokestatic 95, 3) := by decide +kernel
theorem dX5_colds_157 : decode cX5_colds 157 = .ok (.ifCond .ne 13, 3) := by decide +kernel
theorem dX5_colds_160 : decode cX5_colds 160 = .ok (.iload 11, 2) := by decide +kernel
theorem dX5_colds_162 : decode cX5_colds 162 = .ok (.iload 14, 2) := by decide +kernel
theorem dX5_colds_164 : decode cX5_colds 164 = .ok (.invokestatic 95, 3) := by decide +kernel
theorem dX5_colds_167 : decode cX5_colds 167 = .ok (.ifCond .eq 7, 3) := by decide +kernel
theorem dX5_colds_170 : decode cX5_colds 170 = .ok (.lconst 1, 1) := by decide +kernel
theorem dX5_colds_171 : decode cX5_colds 171 = .ok (.goto 7, 3) := by decide +kernel
theorem dX5_colds_174 : decode cX5_colds 174 = .ok (.iload_n 3, 1) := by decide +kernel
theorem dX5_colds_175 : decode cX5_colds 175 = .ok (.iconst 1, 1) := by decide +kernel
theorem dX5_colds_176 : decode cX5_colds 176 = .ok (.isub, 1) := by decide +kernel
theorem dX5_colds_177 : decode cX5_colds 177 = .ok (.i2l, 1) := by decide +kernel
theorem dX5_colds_178 : decode cX5_colds 178 = .ok (.lmul, 1) := by decide +kernel
theorem dX5_colds_179 : decode cX5_colds 179 = .ok (.lstore 12, 2) := by decide +kernel
theorem dX5_colds_181 : decode cX5_colds 181 = .ok (.iinc 14 1, 3) := by decide +kernel
theorem dX5_colds_184 : decode cX5_colds 184 = .ok (.goto (-45), 3) := by decide +kernel
theorem dX5_colds_187 : decode cX5_colds 187 = .ok (.aload_n 0, 1) := by decide +kernel
theorem dX5_colds_188 : decode cX5_colds 188 = .ok (.iload 11, 2) := by decide +kernel
theorem dX5_colds_190 : decode cX5_colds 190 = .ok (.iload 6, 2) := by decide +kernel
theorem dX5_colds_192 : decode cX5_colds 192 = .ok (.ior, 1) := by decide +kernel
theorem dX5_colds_193 : decode cX5_colds 193 = .ok (.invokevirtual 257, 3) := by decide +kernel
theorem dX5_colds_196 : decode cX5_colds 196 = .ok (.aload_n 0, 1) := by decide +kernel
theorem dX5_colds_197 : decode cX5_colds 197 = .ok (.invokevirtual 123, 3) := by decide +kernel
theorem dX5_colds_200 : decode cX5_colds 200 = .ok (.lload 7, 2) := by decide +kernel
theorem dX5_colds_202 : decode cX5_colds 202 = .ok (.aload_n 0, 1) := by decide +kernel
theorem dX5_colds_203 : decode cX5_colds 203 = .ok (.getfield 34, 3) := by decide +kernel
theorem dX5_colds_206 : decode cX5_colds 206 = .ok (.iload_n 1, 1) := by decide +kernel
theorem dX5_colds_207 : decode cX5_colds 207 = .ok (.iaload, 1) := by decide +kernel
theorem dX5_colds_208 : decode cX5_colds 208 = .ok (.iload_n 2, 1) := by decide +kernel
theorem dX5_colds_209 : decode cX5_colds 209 = .ok (.invokestatic 95, 3) := by decide +kernel
theorem dX5_colds_212 : decode cX5_colds 212 = .ok (.ifCond .eq 8, 3) := by decide +kernel
theorem dX5_colds_215 : decode cX5_colds 215 = .ok (.lload 12, 2) := by decide +kernel
theorem dX5_colds_217 : decode cX5_colds 217 = .ok (.goto 4, 3) := by decide +kernel
theorem dX5_colds_220 : decode cX5_colds 220 = .ok (.lconst 0, 1) := by decide +kernel
theorem dX5_colds_221 : decode cX5_colds 221 = .ok (.ladd, 1) := by decide +kernel
theorem dX5_colds_222 : decode cX5_colds 222 = .ok (.lstore 7, 2) := by decide +kernel
theorem dX5_colds_224 : decode cX5_colds 224 = .ok (.iinc 11 1, 3) := by decide +kernel
theorem dX5_colds_227 : decode cX5_colds 227 = .ok (.goto (-113), 3) := by decide +kernel
theorem dX5_colds_230 : decode cX5_colds 230 = .ok (.aload_n 0, 1) := by decide +kernel
theorem dX5_colds_231 : decode cX5_colds 231 = .ok (.invokevirtual 260, 3) := by decide +kernel
theorem dX5_colds_234 : decode cX5_colds 234 = .ok (.lload 7, 2) := by decide +kernel
theorem dX5_colds_236 : decode cX5_colds 236 = .ok (.lconst 0, 1) := by decide +kernel
theorem dX5_colds_237 : decode cX5_colds 237 = .ok (.lcmp, 1) := by decide +kernel
theorem dX5_colds_238 : decode cX5_colds 238 = .ok (.ifCond .ne 7, 3) := by decide +kernel
theorem dX5_colds_241 : decode cX5_colds 241 = .ok (.iload 4, 2) := by decide +kernel
theorem dX5_colds_243 : decode cX5_colds 243 = .ok (.i2l, 1) := by decide +kernel
theorem dX5_colds_244 : decode cX5_colds 244 = .ok (.lreturn, 1) := by decide +kernel
theorem dX5_colds_245 : decode cX5_colds 245 = .ok (.lload 7, 2) := by decide +kernel
theorem dX5_colds_247 : decode cX5_colds 247 = .ok (.lload 9, 2) := by decide +kernel
theorem dX5_colds_249 : decode cX5_colds 249 = .ok (.invokestatic 278, 3) := by decide +kernel
theorem dX5_colds_252 : decode cX5_colds 252 = .ok (.lstore 11, 2) := by decide +kernel
theorem dX5_colds_254 : decode cX5_colds 254 = .ok (.iload 4, 2) := by decide +kernel
theorem dX5_colds_256 : decode cX5_colds 256 = .ok (.ifCond .ne 11, 3) := by decide +kernel
theorem dX5_colds_259 : decode cX5_colds 259 = .ok (.lload 7, 2) := by decide +kernel
theorem dX5_colds_261 : decode cX5_colds 261 = .ok (.lload 11, 2) := by decide +kernel
theorem dX5_colds_263 : decode cX5_colds 263 = .ok (.ldiv, 1) := by decide +kernel
theorem dX5_colds_264 : decode cX5_colds 264 = .ok (.goto 8, 3) := by decide +kernel
theorem dX5_colds_267 : decode cX5_colds 267 = .ok (.lload 9, 2) := by decide +kernel
theorem dX5_colds_269 : decode cX5_colds 269 = .ok (.lload 11, 2) := by decide +kernel
theorem dX5_colds_271 : decode cX5_colds 271 = .ok (.ldiv, 1) := by decide +kernel
theorem dX5_colds_272 : decode cX5_colds 272 = .ok (.lreturn, 1) := by decide +kernel
theorem dX5_list_0 : decode cX5_list 0 = .ok (.aload_n 0, 1) := by decide +kernel
theorem dX5_list_1 : decode cX5_list 1 = .ok (.iconst 0, 1) := by decide +kernel
theorem dX5_list_2 : decode cX5_list 2 = .ok (.putfield 73, 3) := by decide +kernel
theorem dX5_list_5 : decode cX5_list 5 = .ok (.aload_n 0, 1) := by decide +kernel
theorem dX5_list_6 : decode cX5_list 6 = .ok (.iload_n 1, 1) := by decide +kernel
theorem dX5_list_7 : decode cX5_list 7 = .ok (.invokevirtual 164, 3) := by decide +kernel
theorem dX5_list_10 : decode cX5_list 10 = .ok (.ifCond .eq 12, 3) := by decide +kernel
theorem dX5_list_13 : decode cX5_list 13 = .ok (.iconst 0, 1) := by decide +kernel
theorem dX5_list_14 : decode cX5_list 14 = .ok (.iload_n 2, 1) := by decide +kernel
theorem dX5_list_15 : decode cX5_list 15 = .ok (.iconst 1, 1) := by decide +kernel
theorem dX5_list_16 : decode cX5_list 16 = .ok (.invokestatic 248, 3) := by decide +kernel
theorem dX5_list_19 : decode cX5_list 19 = .ok (.goto 4, 3) := by decide +kernel
theorem dX5_list_22 : decode cX5_list 22 = .ok (.iconst (-1), 1) := by decide +kernel
theorem dX5_list_23 : decode cX5_list 23 = .ok (.istore_n 3, 1) := by decide +kernel
theorem dX5_list_24 : decode cX5_list 24 = .ok (.iload_n 3, 1) := by decide +kernel
theorem dX5_list_25 : decode cX5_list 25 = .ok (.ifCond .ge 9, 3) := by decide +kernel
theorem dX5_list_28 : decode cX5_list 28 = .ok (.aload_n 0, 1) := by decide +kernel
theorem dX5_list_29 : decode cX5_list 29 = .ok (.iload_n 3, 1) := by decide +kernel
theorem dX5_list_30 : decode cX5_list 30 = .ok (.invokevirtual 129, 3) := by decide +kernel
theorem dX5_list_33 : decode cX5_list 33 = .ok (.ireturn, 1) := by decide +kernel
theorem dX5_list_34 : decode cX5_list 34 = .ok (.aload_n 0, 1) := by decide +kernel
theorem dX5_list_35 : decode cX5_list 35 = .ok (.invokevirtual 123, 3) := by decide +kernel
theorem dX5_list_38 : decode cX5_list 38 = .ok (.aload_n 0, 1) := by decide +kernel
theorem dX5_list_39 : decode cX5_list 39 = .ok (.getfield 34, 3) := by decide +kernel
theorem dX5_list_42 : decode cX5_list 42 = .ok (.iload_n 1, 1) := by decide +kernel
theorem dX5_list_43 : decode cX5_list 43 = .ok (.iaload, 1) := by decide +kernel
theorem dX5_list_44 : decode cX5_list 44 = .ok (.aload_n 0, 1) := by decide +kernel
theorem dX5_list_45 : decode cX5_list 45 = .ok (.getfield 19, 3) := by decide +kernel
theorem dX5_list_48 : decode cX5_list 48 = .ok (.iload_n 1, 1) := by decide +kernel
theorem dX5_list_49 : decode cX5_list 49 = .ok (.iaload, 1) := by decide +kernel
theorem dX5_list_50 : decode cX5_list 50 = .ok (.iconst (-1), 1) := by decide +kernel
theorem dX5_list_51 : decode cX5_list 51 = .ok (.ixor, 1) := by decide +kernel
theorem dX5_list_52 : decode cX5_list 52 = .ok (.iand, 1) := by decide +kernel
theorem dX5_list_53 : decode cX5_list 53 = .ok (.istore 4, 2) := by decide +kernel
theorem dX5_list_55 : decode cX5_list 55 = .ok (.bipush (-9), 2) := by decide +kernel
theorem dX5_list_57 : decode cX5_list 57 = .ok (.istore 5, 2) := by decide +kernel
theorem dX5_list_59 : decode cX5_list 59 = .ok (.iconst 0, 1) := by decide +kernel
theorem dX5_list_60 : decode cX5_list 60 = .ok (.istore 6, 2) := by decide +kernel
theorem dX5_list_62 : decode cX5_list 62 = .ok (.iload 6, 2) := by decide +kernel
theorem dX5_list_64 : decode cX5_list 64 = .ok (.bipush 10, 2) := by decide +kernel
theorem dX5_list_66 : decode cX5_list 66 = .ok (.if_icmp .ge 45, 3) := by decide +kernel
theorem dX5_list_69 : decode cX5_list 69 = .ok (.iload 4, 2) := by decide +kernel
theorem dX5_list_71 : decode cX5_list 71 = .ok (.iload 6, 2) := by decide +kernel
theorem dX5_list_73 : decode cX5_list 73 = .ok (.invokestatic 95, 3) := by decide +kernel
theorem dX5_list_76 : decode cX5_list 76 = .ok (.ifCond .eq 25, 3) := by decide +kernel
theorem dX5_list_79 : decode cX5_list 79 = .ok (.aload_n 0, 1) := by decide +kernel
theorem dX5_list_80 : decode cX5_list 80 = .ok (.iload_n 1, 1) := by decide +kernel
theorem dX5_list_81 : decode cX5_list 81 = .ok (.iload 6, 2) := by decide +kernel
theorem dX5_list_83 : decode cX5_list 83 = .ok (.invokevirtual 236, 3) := by decide +kernel
theorem dX5_list_86 : decode cX5_list 86 = .ok (.iload 5, 2) := by decide +kernel
theorem dX5_list_88 : decode cX5_list 88 = .ok (.if_icmp .le 13, 3) := by decide +kernel
theorem dX5_list_91 : decode cX5_list 91 = .ok (.aload_n 0, 1) := by decide +kernel
theorem dX5_list_92 : decode cX5_list 92 = .ok (.iload_n 1, 1) := by decide +kernel
theorem dX5_list_93 : decode cX5_list 93 = .ok (.iload 6, 2) := by decide +kernel
theorem dX5_list_95 : decode cX5_list 95 = .ok (.invokevirtual 236, 3) := by decide +kernel
theorem dX5_list_98 : decode cX5_list 98 = .ok (.goto 5, 3) := by decide +kernel
theorem dX5_list_101 : decode cX5_list 101 = .ok (.iload 5, 2) := by decide +kernel
theorem dX5_list_103 : decode cX5_list 103 = .ok (.istore 5, 2) := by decide +kernel
theorem dX5_list_105 : decode cX5_list 105 = .ok (.iinc 6 1, 3) := by decide +kernel
theorem dX5_list_108 : decode cX5_list 108 = .ok (.goto (-46), 3) := by decide +kernel
theorem dX5_list_111 : decode cX5_list 111 = .ok (.iload_n 2, 1) := by decide +kernel
theorem dX5_list_112 : decode cX5_list 112 = .ok (.ifCond .ne 8, 3) := by decide +kernel
theorem dX5_list_115 : decode cX5_list 115 = .ok (.iload 4, 2) := by decide +kernel
theorem dX5_list_117 : decode cX5_list 117 = .ok (.goto 5, 3) := by decide +kernel
theorem dX5_list_120 : decode cX5_list 120 = .ok (.iload 5, 2) := by decide +kernel
theorem dX5_list_122 : decode cX5_list 122 = .ok (.ireturn, 1) := by decide +kernel
theorem dX5_days_0 : decode cX5_days 0 = .ok (.aload_n 0, 1) := by decide +kernel
theorem dX5_days_1 : decode cX5_days 1 = .ok (.iconst 0, 1) := by decide +kernel
theorem dX5_days_2 : decode cX5_days 2 = .ok (.putfield 73, 3) := by decide +kernel
theorem dX5_days_5 : decode cX5_days 5 = .ok (.iload_n 1, 1) := by decide +kernel
theorem dX5_days_6 : decode cX5_days 6 = .ok (.i2l, 1) := by decide +kernel
theorem dX5_days_7 : decode cX5_days 7 = .ok (.ldc2_w 231, 3) := by decide +kernel
theorem dX5_days_10 : decode cX5_days 10 = .ok (.aload_n 0, 1) := by decide +kernel
theorem dX5_days_11 : decode cX5_days 11 = .ok (.getfield 77, 3) := by decide +kernel
theorem dX5_days_14 : decode cX5_days 14 = .ok (.iconst 1, 1) := by decide +kernel
theorem dX5_days_15 : decode cX5_days 15 = .ok (.isub, 1) := by decide +kernel
theorem dX5_days_16 : decode cX5_days 16 = .ok (.i2l, 1) := by decide +kernel
theorem dX5_days_17 : decode cX5_days 17 = .ok (.invokestatic 80, 3) := by decide +kernel
theorem dX5_days_20 : decode cX5_days 20 = .ok (.ifCond .ne 9, 3) := by decide +kernel
theorem dX5_days_23 : decode cX5_days 23 = .ok (.aload_n 0, 1) := by decide +kernel
theorem dX5_days_24 : decode cX5_days 24 = .ok (.iconst (-1), 1) := by decide +kernel
theorem dX5_days_25 : decode cX5_days 25 = .ok (.invokevirtual 129, 3) := by decide +kernel
theorem dX5_days_28 : decode cX5_days 28 = .ok (.ireturn, 1) := by decide +kernel
theorem dX5_days_29 : decode cX5_days 29 = .ok (.iconst 0, 1) := by decide +kernel
theorem dX5_days_30 : decode cX5_days 30 = .ok (.istore_n 2, 1) := by decide +kernel
theorem dX5_days_31 : decode cX5_days 31 = .ok (.aload_n 0, 1) := by decide +kernel
theorem dX5_days_32 : decode cX5_days 32 = .ok (.invokevirtual 254, 3) := by decide +kernel
theorem dX5_days_35 : decode cX5_days 35 = .ok (.aload_n 0, 1) := by decide +kernel
theorem dX5_days_36 : decode cX5_days 36 = .ok (.invokevirtual 228, 3) := by decide +kernel
theorem dX5_days_39 : decode cX5_days 39 = .ok (.ifCond .le 9, 3) := by decide +kernel
theorem dX5_days_42 : decode cX5_days 42 = .ok (.iinc 2 1, 3) := by decide +kernel
theorem dX5_days_45 : decode cX5_days 45 = .ok (.goto (-10), 3) := by decide +kernel
theorem dX5_days_48 : decode cX5_days 48 = .ok (.iload_n 1, 1) := by decide +kernel
theorem dX5_days_49 : decode cX5_days 49 = .ok (.ifCond .ge 7, 3) := by decide +kernel
theorem dX5_days_52 : decode cX5_days 52 = .ok (.iconst 0, 1) := by decide +kernel
theorem dX5_days_53 : decode cX5_days 53 = .ok (.goto 9, 3) := by decide +kernel
theorem dX5_days_56 : decode cX5_days 56 = .ok (.aload_n 0, 1) := by decide +kernel
theorem dX5_days_57 : decode cX5_days 57 = .ok (.getfield 19, 3) := by decide +kernel
theorem dX5_days_60 : decode cX5_days 60 = .ok (.iload_n 1, 1) := by decide +kernel
theorem dX5_days_61 : decode cX5_days 61 = .ok (.iaload, 1) := by decide +kernel
theorem dX5_days_62 : decode cX5_days 62 = .ok (.istore_n 3, 1) := by decide +kernel
theorem dX5_days_63 : decode cX5_days 63 = .ok (.aload_n 0, 1) := by decide +kernel
theorem dX5_days_64 : decode cX5_days 64 = .ok (.invokevirtual 260, 3) := by decide +kernel
theorem dX5_days_67 : decode cX5_days 67 = .ok (.iload_n 1, 1) := by decide +kernel
theorem dX5_days_68 : decode cX5_days 68 = .ok (.ifCond .ge 7, 3) := by decide +kernel
theorem dX5_days_71 : decode cX5_days 71 = .ok (.iload_n 2, 1) := by decide +kernel
theorem dX5_days_72 : decode cX5_days 72 = .ok (.goto 4, 3) := by decide +kernel
theorem dX5_days_75 : decode cX5_days 75 = .ok (.iload_n 3, 1) := by decide +kernel
theorem dX5_days_76 : decode cX5_days 76 = .ok (.ireturn, 1) := by decide +kernel
theorem dX5_needed_0 : decode cX5_needed 0 = .ok (.aload_n 0, 1) := by decide +kernel
theorem dX5_needed_1 : decode cX5_needed 1 = .ok (.iconst 0, 1) := by decide +kernel
theorem dX5_needed_2 : decode cX5_needed 2 = .ok (.putfield 73, 3) := by decide +kernel
theorem dX5_needed_5 : decode cX5_needed 5 = .ok (.aload_n 0, 1) := by decide +kernel
theorem dX5_needed_6 : decode cX5_needed 6 = .ok (.invokevirtual 245, 3) := by decide +kernel
theorem dX5_needed_9 : decode cX5_needed 9 = .ok (.istore_n 1, 1) := by decide +kernel
theorem dX5_needed_10 : decode cX5_needed 10 = .ok (.iconst 0, 1) := by decide +kernel
theorem dX5_needed_11 : decode cX5_needed 11 = .ok (.istore_n 2, 1) := by decide +kernel
theorem dX5_needed_12 : decode cX5_needed 12 = .ok (.iconst 0, 1) := by decide +kernel
theorem dX5_needed_13 : decode cX5_needed 13 = .ok (.istore_n 3, 1) := by decide +kernel
theorem dX5_needed_14 : decode cX5_needed 14 = .ok (.iload_n 3, 1) := by decide +kernel
theorem dX5_needed_15 : decode cX5_needed 15 = .ok (.aload_n 0, 1) := by decide +kernel
theorem dX5_needed_16 : decode cX5_needed 16 = .ok (.getfield 84, 3) := by decide +kernel
theorem dX5_needed_19 : decode cX5_needed 19 = .ok (.if_icmp .ge 34, 3) := by decide +kernel
theorem dX5_needed_22 : decode cX5_needed 22 = .ok (.aload_n 0, 1) := by decide +kernel
theorem dX5_needed_23 : decode cX5_needed 23 = .ok (.iconst 1, 1) := by decide +kernel
theorem dX5_needed_24 : decode cX5_needed 24 = .ok (.iload_n 3, 1) := by decide +kernel
theorem dX5_needed_25 : decode cX5_needed 25 = .ok (.ishl, 1) := by decide +kernel
theorem dX5_needed_26 : decode cX5_needed 26 = .ok (.putfield 109, 3) := by decide +kernel
theorem dX5_needed_29 : decode cX5_needed 29 = .ok (.iload_n 2, 1) := by decide +kernel
theorem dX5_needed_30 : decode cX5_needed 30 = .ok (.aload_n 0, 1) := by decide +kernel
theorem dX5_needed_31 : decode cX5_needed 31 = .ok (.invokevirtual 245, 3) := by decide +kernel
theorem dX5_needed_34 : decode cX5_needed 34 = .ok (.iload_n 1, 1) := by decide +kernel
theorem dX5_needed_35 : decode cX5_needed 35 = .ok (.if_icmp .ge 9, 3) := by decide +kernel
theorem dX5_needed_38 : decode cX5_needed 38 = .ok (.iconst 1, 1) := by decide +kernel
theorem dX5_needed_39 : decode cX5_needed 39 = .ok (.iload_n 3, 1) := by decide +kernel
theorem dX5_needed_40 : decode cX5_needed 40 = .ok (.ishl, 1) := by decide +kernel
theorem dX5_needed_41 : decode cX5_needed 41 = .ok (.goto 4, 3) := by decide +kernel
theorem dX5_needed_44 : decode cX5_needed 44 = .ok (.iconst 0, 1) := by decide +kernel
theorem dX5_needed_45 : decode cX5_needed 45 = .ok (.ior, 1) := by decide +kernel
theorem dX5_needed_46 : decode cX5_needed 46 = .ok (.istore_n 2, 1) := by decide +kernel
theorem dX5_needed_47 : decode cX5_needed 47 = .ok (.iinc 3 1, 3) := by decide +kernel
theorem dX5_needed_50 : decode cX5_needed 50 = .ok (.goto (-36), 3) := by decide +kernel
theorem dX5_needed_53 : decode cX5_needed 53 = .ok (.aload_n 0, 1) := by decide +kernel
theorem dX5_needed_54 : decode cX5_needed 54 = .ok (.iconst 0, 1) := by decide +kernel
theorem dX5_needed_55 : decode cX5_needed 55 = .ok (.putfield 109, 3) := by decide +kernel
theorem dX5_needed_58 : decode cX5_needed 58 = .ok (.iload_n 2, 1) := by decide +kernel
theorem dX5_needed_59 : decode cX5_needed 59 = .ok (.ireturn, 1) := by decide +kernel
theorem dX5_loudest_0 : decode cX5_loudest 0 = .ok (.aload_n 0, 1) := by decide +kernel
theorem dX5_loudest_1 : decode cX5_loudest 1 = .ok (.iconst 0, 1) := by decide +kernel
theorem dX5_loudest_2 : decode cX5_loudest 2 = .ok (.putfield 73, 3) := by decide +kernel
theorem dX5_loudest_5 : decode cX5_loudest 5 = .ok (.iload_n 1, 1) := by decide +kernel
theorem dX5_loudest_6 : decode cX5_loudest 6 = .ok (.i2l, 1) := by decide +kernel
theorem dX5_loudest_7 : decode cX5_loudest 7 = .ok (.lconst 0, 1) := by decide +kernel
theorem dX5_loudest_8 : decode cX5_loudest 8 = .ok (.lconst 1, 1) := by decide +kernel
theorem dX5_loudest_9 : decode cX5_loudest 9 = .ok (.invokestatic 80, 3) := by decide +kernel
theorem dX5_loudest_12 : decode cX5_loudest 12 = .ok (.ifCond .ne 10, 3) := by decide +kernel
theorem dX5_loudest_15 : decode cX5_loudest 15 = .ok (.aload_n 0, 1) := by decide +kernel
theorem dX5_loudest_16 : decode cX5_loudest 16 = .ok (.bipush (-2), 2) := by decide +kernel
theorem dX5_loudest_18 : decode cX5_loudest 18 = .ok (.invokevirtual 129, 3) := by decide +kernel
theorem dX5_loudest_21 : decode cX5_loudest 21 = .ok (.ireturn, 1) := by decide +kernel
theorem dX5_loudest_22 : decode cX5_loudest 22 = .ok (.aload_n 0, 1) := by decide +kernel
theorem dX5_loudest_23 : decode cX5_loudest 23 = .ok (.invokevirtual 123, 3) := by decide +kernel
theorem dX5_loudest_26 : decode cX5_loudest 26 = .ok (.bipush (-9), 2) := by decide +kernel
theorem dX5_loudest_28 : decode cX5_loudest 28 = .ok (.istore_n 2, 1) := by decide +kernel
theorem dX5_loudest_29 : decode cX5_loudest 29 = .ok (.iconst 0, 1) := by decide +kernel
theorem dX5_loudest_30 : decode cX5_loudest 30 = .ok (.istore_n 3, 1) := by decide +kernel
theorem dX5_loudest_31 : decode cX5_loudest 31 = .ok (.iconst 0, 1) := by decide +kernel
theorem dX5_loudest_32 : decode cX5_loudest 32 = .ok (.istore 4, 2) := by decide +kernel
theorem dX5_loudest_34 : decode cX5_loudest 34 = .ok (.iload 4, 2) := by decide +kernel
theorem dX5_loudest_36 : decode cX5_loudest 36 = .ok (.aload_n 0, 1) := by decide +kernel
theorem dX5_loudest_37 : decode cX5_loudest 37 = .ok (.getfield 77, 3) := by decide +kernel
theorem dX5_loudest_40 : decode cX5_loudest 40 = .ok (.if_icmp .ge 70, 3) := by decide +kernel
theorem dX5_loudest_43 : decode cX5_loudest 43 = .ok (.iconst 0, 1) := by decide +kernel
theorem dX5_loudest_44 : decode cX5_loudest 44 = .ok (.istore 5, 2) := by decide +kernel
theorem dX5_loudest_46 : decode cX5_loudest 46 = .ok (.iconst 0, 1) := by decide +kernel
theorem dX5_loudest_47 : decode cX5_loudest 47 = .ok (.istore 6, 2) := by decide +kernel
theorem dX5_loudest_49 : decode cX5_loudest 49 = .ok (.iload 6, 2) := by decide +kernel
theorem dX5_loudest_51 : decode cX5_loudest 51 = .ok (.bipush 24, 2) := by decide +kernel
theorem dX5_loudest_53 : decode cX5_loudest 53 = .ok (.if_icmp .ge 25, 3) := by decide +kernel
theorem dX5_loudest_56 : decode cX5_loudest 56 = .ok (.iload 5, 2) := by decide +kernel
theorem dX5_loudest_58 : decode cX5_loudest 58 = .ok (.aload_n 0, 1) := by decide +kernel
theorem dX5_loudest_59 : decode cX5_loudest 59 = .ok (.iload 4, 2) := by decide +kernel
theorem dX5_loudest_61 : decode cX5_loudest 61 = .ok (.iload 6, 2) := by decide +kernel
theorem dX5_loudest_63 : decode cX5_loudest 63 = .ok (.invokevirtual 233, 3) := by decide +kernel
theorem dX5_loudest_66 : decode cX5_loudest 66 = .ok (.invokestatic 120, 3) := by decide +kernel
theorem dX5_loudest_69 : decode cX5_loudest 69 = .ok (.iadd, 1) := by decide +kernel
theorem dX5_loudest_70 : decode cX5_loudest 70 = .ok (.istore 5, 2) := by decide +kernel
theorem dX5_loudest_72 : decode cX5_loudest 72 = .ok (.iinc 6 1, 3) := by decide +kernel
theorem dX5_loudest_75 : decode cX5_loudest 75 = .ok (.goto (-26), 3) := by decide +kernel
theorem dX5_loudest_78 : decode cX5_loudest 78 = .ok (.iload 5, 2) := by decide +kernel
theorem dX5_loudest_80 : decode cX5_loudest 80 = .ok (.iload_n 3, 1) := by decide +kernel
theorem dX5_loudest_81 : decode cX5_loudest 81 = .ok (.if_icmp .le 8, 3) := by decide +kernel
theorem dX5_loudest_84 : decode cX5_loudest 84 = .ok (.iload 4, 2) := by decide +kernel
theorem dX5_loudest_86 : decode cX5_loudest 86 = .ok (.goto 4, 3) := by decide +kernel
theorem dX5_loudest_89 : decode cX5_loudest 89 = .ok (.iload_n 2, 1) := by decide +kernel
theorem dX5_loudest_90 : decode cX5_loudest 90 = .ok (.istore_n 2, 1) := by decide +kernel
theorem dX5_loudest_91 : decode cX5_loudest 91 = .ok (.iload 5, 2) := by decide +kernel
theorem dX5_loudest_93 : decode cX5_loudest 93 = .ok (.iload_n 3, 1) := by decide +kernel
theorem dX5_loudest_94 : decode cX5_loudest 94 = .ok (.if_icmp .le 8, 3) := by decide +kernel
theorem dX5_loudest_97 : decode cX5_loudest 97 = .ok (.iload 5, 2) := by decide +kernel
theorem dX5_loudest_99 : decode cX5_loudest 99 = .ok (.goto 4, 3) := by decide +kernel
theorem dX5_loudest_102 : decode cX5_loudest 102 = .ok (.iload_n 3, 1) := by decide +kernel
theorem dX5_loudest_103 : decode cX5_loudest 103 = .ok (.istore_n 3, 1) := by decide +kernel
theorem dX5_loudest_104 : decode cX5_loudest 104 = .ok (.iinc 4 1, 3) := by decide +kernel
theorem dX5_loudest_107 : decode cX5_loudest 107 = .ok (.goto (-73), 3) := by decide +kernel
theorem dX5_loudest_110 : decode cX5_loudest 110 = .ok (.iload_n 1, 1) := by decide +kernel
theorem dX5_loudest_111 : decode cX5_loudest 111 = .ok (.ifCond .ne 7, 3) := by decide +kernel
theorem dX5_loudest_114 : decode cX5_loudest 114 = .ok (.iload_n 2, 1) := by decide +kernel
theorem dX5_loudest_115 : decode cX5_loudest 115 = .ok (.goto 4, 3) := by decide +kernel
theorem dX5_loudest_118 : decode cX5_loudest 118 = .ok (.iload_n 3, 1) := by decide +kernel
theorem dX5_loudest_119 : decode cX5_loudest 119 = .ok (.ireturn, 1) := by decide +kernel
theorem dX5_narrow_0 : decode cX5_narrow 0 = .ok (.aload_n 0, 1) := by decide +kernel
theorem dX5_narrow_1 : decode cX5_narrow 1 = .ok (.iconst 0, 1) := by decide +kernel
theorem dX5_narrow_2 : decode cX5_narrow 2 = .ok (.putfield 73, 3) := by decide +kernel
theorem dX5_narrow_5 : decode cX5_narrow 5 = .ok (.aload_n 0, 1) := by decide +kernel
theorem dX5_narrow_6 : decode cX5_narrow 6 = .ok (.iload_n 1, 1) := by decide +kernel
theorem dX5_narrow_7 : decode cX5_narrow 7 = .ok (.invokevirtual 164, 3) := by decide +kernel
theorem dX5_narrow_10 : decode cX5_narrow 10 = .ok (.ifCond .eq 12, 3) := by decide +kernel
theorem dX5_narrow_13 : decode cX5_narrow 13 = .ok (.iconst 0, 1) := by decide +kernel
theorem dX5_narrow_14 : decode cX5_narrow 14 = .ok (.iload_n 2, 1) := by decide +kernel
theorem dX5_narrow_15 : decode cX5_narrow 15 = .ok (.iconst 1, 1) := by decide +kernel
theorem dX5_narrow_16 : decode cX5_narrow 16 = .ok (.invokestatic 248, 3) := by decide +kernel
theorem dX5_narrow_19 : decode cX5_narrow 19 = .ok (.goto 4, 3) := by decide +kernel
theorem dX5_narrow_22 : decode cX5_narrow 22 = .ok (.iconst (-1), 1) := by decide +kernel
theorem dX5_narrow_23 : decode cX5_narrow 23 = .ok (.istore_n 3, 1) := by decide +kernel
theorem dX5_narrow_24 : decode cX5_narrow 24 = .ok (.iload_n 3, 1) := by decide +kernel
theorem dX5_narrow_25 : decode cX5_narrow 25 = .ok (.ifCond .ge 9, 3) := by decide +kernel
theorem dX5_narrow_28 : decode cX5_narrow 28 = .ok (.aload_n 0, 1) := by decide +kernel
theorem dX5_narrow_29 : decode cX5_narrow 29 = .ok (.iload_n 3, 1) := by decide +kernel
theorem dX5_narrow_30 : decode cX5_narrow 30 = .ok (.invokevirtual 129, 3) := by decide +kernel
theorem dX5_narrow_33 : decode cX5_narrow 33 = .ok (.ireturn, 1) := by decide +kernel
theorem dX5_narrow_34 : decode cX5_narrow 34 = .ok (.aload_n 0, 1) := by decide +kernel
theorem dX5_narrow_35 : decode cX5_narrow 35 = .ok (.invokevirtual 245, 3) := by decide +kernel
theorem dX5_narrow_38 : decode cX5_narrow 38 = .ok (.istore 4, 2) := by decide +kernel
theorem dX5_narrow_40 : decode cX5_narrow 40 = .ok (.aload_n 0, 1) := by decide +kernel
theorem dX5_narrow_41 : decode cX5_narrow 41 = .ok (.getfield 13, 3) := by decide +kernel
theorem dX5_narrow_44 : decode cX5_narrow 44 = .ok (.iload_n 1, 1) := by decide +kernel
theorem dX5_narrow_45 : decode cX5_narrow 45 = .ok (.iaload, 1) := by decide +kernel
theorem dX5_narrow_46 : decode cX5_narrow 46 = .ok (.istore 5, 2) := by decide +kernel
theorem dX5_narrow_48 : decode cX5_narrow 48 = .ok (.iconst 0, 1) := by decide +kernel
theorem dX5_narrow_49 : decode cX5_narrow 49 = .ok (.istore 6, 2) := by decide +kernel
theorem dX5_narrow_51 : decode cX5_narrow 51 = .ok (.bipush (-9), 2) := by decide +kernel
theorem dX5_narrow_53 : decode cX5_narrow 53 = .ok (.istore 7, 2) := by decide +kernel
theorem dX5_narrow_55 : decode cX5_narrow 55 = .ok (.iconst 0, 1) := by decide +kernel
theorem dX5_narrow_56 : decode cX5_narrow 56 = .ok (.istore 8, 2) := by decide +kernel
theorem dX5_narrow_58 : decode cX5_narrow 58 = .ok (.iload 8, 2) := by decide +kernel
theorem dX5_narrow_60 : decode cX5_narrow 60 = .ok (.bipush 24, 2) := by decide +kernel
theorem dX5_narrow_62 : decode cX5_narrow 62 = .ok (.if_icmp .ge 84, 3) := by decide +kernel
theorem dX5_narrow_65 : decode cX5_narrow 65 = .ok (.iload 5, 2) := by decide +kernel
theorem dX5_narrow_67 : decode cX5_narrow 67 = .ok (.iload 8, 2) := by decide +kernel
theorem dX5_narrow_69 : decode cX5_narrow 69 = .ok (.invokestatic 95, 3) := by decide +kernel
theorem dX5_narrow_72 : decode cX5_narrow 72 = .ok (.ifCond .eq 68, 3) := by decide +kernel
theorem dX5_narrow_75 : decode cX5_narrow 75 = .ok (.aload_n 0, 1) := by decide +kernel
theorem dX5_narrow_76 : decode cX5_narrow 76 = .ok (.getfield 13, 3) := by decide +kernel
theorem dX5_narrow_79 : decode cX5_narrow 79 = .ok (.iload_n 1, 1) := by decide +kernel
theorem dX5_narrow_80 : decode cX5_narrow 80 = .ok (.iload 5, 2) := by decide +kernel
theorem dX5_narrow_82 : decode cX5_narrow 82 = .ok (.iconst 1, 1) := by decide +kernel
theorem dX5_narrow_83 : decode cX5_narrow 83 = .ok (.iload 8, 2) := by decide +kernel
theorem dX5_narrow_85 : decode cX5_narrow 85 = .ok (.ishl, 1) := by decide +kernel
theorem dX5_narrow_86 : decode cX5_narrow 86 = .ok (.iconst (-1), 1) := by decide +kernel
theorem dX5_narrow_87 : decode cX5_narrow 87 = .ok (.ixor, 1) := by decide +kernel
theorem dX5_narrow_88 : decode cX5_narrow 88 = .ok (.iand, 1) := by decide +kernel
theorem dX5_narrow_89 : decode cX5_narrow 89 = .ok (.iastore, 1) := by decide +kernel
theorem dX5_narrow_90 : decode cX5_narrow 90 = .ok (.aload_n 0, 1) := by decide +kernel
theorem dX5_narrow_91 : decode cX5_narrow 91 = .ok (.invokevirtual 245, 3) := by decide +kernel
theorem dX5_narrow_94 : decode cX5_narrow 94 = .ok (.iload 4, 2) := by decide +kernel
theorem dX5_narrow_96 : decode cX5_narrow 96 = .ok (.if_icmp .ne 7, 3) := by decide +kernel
theorem dX5_narrow_99 : decode cX5_narrow 99 = .ok (.iconst 1, 1) := by decide +kernel
theorem dX5_narrow_100 : decode cX5_narrow 100 = .ok (.goto 4, 3) := by decide +kernel
theorem dX5_narrow_103 : decode cX5_narrow 103 = .ok (.iconst 0, 1) := by decide +kernel
theorem dX5_narrow_104 : decode cX5_narrow 104 = .ok (.istore 9, 2) := by decide +kernel
theorem dX5_narrow_106 : decode cX5_narrow 106 = .ok (.iload 6, 2) := by decide +kernel
theorem dX5_narrow_108 : decode cX5_narrow 108 = .ok (.iload 9, 2) := by decide +kernel
theorem dX5_narrow_110 : decode cX5_narrow 110 = .ok (.ifCond .eq 7, 3) := by decide +kernel
theorem dX5_narrow_113 : decode cX5_narrow 113 = .ok (.iconst 1, 1) := by decide +kernel
theorem dX5_narrow_114 : decode cX5_narrow 114 = .ok (.goto 4, 3) := by decide +kernel
theorem dX5_narrow_117 : decode cX5_narrow 117 = .ok (.iconst 0, 1) := by decide +kernel
theorem dX5_narrow_118 : decode cX5_narrow 118 = .ok (.iadd, 1) := by decide +kernel
theorem dX5_narrow_119 : decode cX5_narrow 119 = .ok (.istore 6, 2) := by decide +kernel
theorem dX5_narrow_121 : decode cX5_narrow 121 = .ok (.iload 9, 2) := by decide +kernel
theorem dX5_narrow_123 : decode cX5_narrow 123 = .ok (.ifCond .eq 13, 3) := by decide +kernel
theorem dX5_narrow_126 : decode cX5_narrow 126 = .ok (.iload 7, 2) := by decide +kernel
theorem dX5_narrow_128 : decode cX5_narrow 128 = .ok (.ifCond .ge 8, 3) := by decide +kernel
theorem dX5_narrow_131 : decode cX5_narrow 131 = .ok (.iload 8, 2) := by decide +kernel
theorem dX5_narrow_133 : decode cX5_narrow 133 = .ok (.goto 5, 3) := by decide +kernel
theorem dX5_narrow_136 : decode cX5_narrow 136 = .ok (.iload 7, 2) := by decide +kernel
theorem dX5_narrow_138 : decode cX5_narrow 138 = .ok (.istore 7, 2) := by decide +kernel
theorem dX5_narrow_140 : decode cX5_narrow 140 = .ok (.iinc 8 1, 3) := by decide +kernel
theorem dX5_narrow_143 : decode cX5_narrow 143 = .ok (.goto (-85), 3) := by decide +kernel
theorem dX5_narrow_146 : decode cX5_narrow 146 = .ok (.aload_n 0, 1) := by decide +kernel
theorem dX5_narrow_147 : decode cX5_narrow 147 = .ok (.getfield 13, 3) := by decide +kernel
theorem dX5_narrow_150 : decode cX5_narrow 150 = .ok (.iload_n 1, 1) := by decide +kernel
theorem dX5_narrow_151 : decode cX5_narrow 151 = .ok (.iload 5, 2) := by decide +kernel
theorem dX5_narrow_153 : decode cX5_narrow 153 = .ok (.iastore, 1) := by decide +kernel
theorem dX5_narrow_154 : decode cX5_narrow 154 = .ok (.iload_n 2, 1) := by decide +kernel
theorem dX5_narrow_155 : decode cX5_narrow 155 = .ok (.ifCond .ne 8, 3) := by decide +kernel
theorem dX5_narrow_158 : decode cX5_narrow 158 = .ok (.iload 6, 2) := by decide +kernel
theorem dX5_narrow_160 : decode cX5_narrow 160 = .ok (.goto 5, 3) := by decide +kernel
theorem dX5_narrow_163 : decode cX5_narrow 163 = .ok (.iload 7, 2) := by decide +kernel
theorem dX5_narrow_165 : decode cX5_narrow 165 = .ok (.ireturn, 1) := by decide +kernel
theorem dX5_key_0 : decode cX5_key 0 = .ok (.aload_n 0, 1) := by decide +kernel
theorem dX5_key_1 : decode cX5_key 1 = .ok (.iconst 0, 1) := by decide +kernel
theorem dX5_key_2 : decode cX5_key 2 = .ok (.putfield 73, 3) := by decide +kernel
theorem dX5_key_5 : decode cX5_key 5 = .ok (.iconst 0, 1) := by decide +kernel
theorem dX5_key_6 : decode cX5_key 6 = .ok (.istore_n 1, 1) := by decide +kernel
theorem dX5_key_7 : decode cX5_key 7 = .ok (.iconst (-1), 1) := by decide +kernel
theorem dX5_key_8 : decode cX5_key 8 = .ok (.istore_n 2, 1) := by decide +kernel
theorem dX5_key_9 : decode cX5_key 9 = .ok (.aload_n 0, 1) := by decide +kernel
theorem dX5_key_10 : decode cX5_key 10 = .ok (.invokevirtual 254, 3) := by decide +kernel
theorem dX5_key_13 : decode cX5_key 13 = .ok (.iconst 0, 1) := by decide +kernel
theorem dX5_key_14 : decode cX5_key 14 = .ok (.istore_n 3, 1) := by decide +kernel
theorem dX5_key_15 : decode cX5_key 15 = .ok (.iload_n 3, 1) := by decide +kernel
theorem dX5_key_16 : decode cX5_key 16 = .ok (.bipush 10, 2) := by decide +kernel
theorem dX5_key_18 : decode cX5_key 18 = .ok (.if_icmp .ge 75, 3) := by decide +kernel
theorem dX5_key_21 : decode cX5_key 21 = .ok (.iconst 0, 1) := by decide +kernel
theorem dX5_key_22 : decode cX5_key 22 = .ok (.istore 4, 2) := by decide +kernel
theorem dX5_key_24 : decode cX5_key 24 = .ok (.iload 4, 2) := by decide +kernel
theorem dX5_key_26 : decode cX5_key 26 = .ok (.aload_n 0, 1) := by decide +kernel
theorem dX5_key_27 : decode cX5_key 27 = .ok (.getfield 77, 3) := by decide +kernel
theorem dX5_key_30 : decode cX5_key 30 = .ok (.if_icmp .ge 22, 3) := by decide +kernel
theorem dX5_key_33 : decode cX5_key 33 = .ok (.aload_n 0, 1) := by decide +kernel
theorem dX5_key_34 : decode cX5_key 34 = .ok (.getfield 19, 3) := by decide +kernel
theorem dX5_key_37 : decode cX5_key 37 = .ok (.iload 4, 2) := by decide +kernel
theorem dX5_key_39 : decode cX5_key 39 = .ok (.dup2, 1) := by decide +kernel
theorem dX5_key_40 : decode cX5_key 40 = .ok (.iaload, 1) := by decide +kernel
theorem dX5_key_41 : decode cX5_key 41 = .ok (.iconst 1, 1) := by decide +kernel
theorem dX5_key_42 : decode cX5_key 42 = .ok (.iload_n 3, 1) := by decide +kernel
theorem dX5_key_43 : decode cX5_key 43 = .ok (.ishl, 1) := by decide +kernel
theorem dX5_key_44 : decode cX5_key 44 = .ok (.ior, 1) := by decide +kernel
theorem dX5_key_45 : decode cX5_key 45 = .ok (.iastore, 1) := by decide +kernel
theorem dX5_key_46 : decode cX5_key 46 = .ok (.iinc 4 1, 3) := by decide +kernel
theorem dX5_key_49 : decode cX5_key 49 = .ok (.goto (-25), 3) := by decide +kernel
theorem dX5_key_52 : decode cX5_key 52 = .ok (.aload_n 0, 1) := by decide +kernel
theorem dX5_key_53 : decode cX5_key 53 = .ok (.invokevirtual 245, 3) := by decide +kernel
theorem dX5_key_56 : decode cX5_key 56 = .ok (.istore 4, 2) := by decide +kernel
theorem dX5_key_58 : decode cX5_key 58 = .ok (.aload_n 0, 1) := by decide +kernel
theorem dX5_key_59 : decode cX5_key 59 = .ok (.invokevirtual 260, 3) := by decide +kernel
theorem dX5_key_62 : decode cX5_key 62 = .ok (.iload 4, 2) := by decide +kernel
theorem dX5_key_64 : decode cX5_key 64 = .ok (.iload_n 2, 1) := by decide +kernel
theorem dX5_key_65 : decode cX5_key 65 = .ok (.if_icmp .le 7, 3) := by decide +kernel
theorem dX5_key_68 : decode cX5_key 68 = .ok (.iload_n 3, 1) := by decide +kernel
theorem dX5_key_69 : decode cX5_key 69 = .ok (.goto 4, 3) := by decide +kernel
theorem dX5_key_72 : decode cX5_key 72 = .ok (.iload_n 1, 1) := by decide +kernel
theorem dX5_key_73 : decode cX5_key 73 = .ok (.istore_n 1, 1) := by decide +kernel
theorem dX5_key_74 : decode cX5_key 74 = .ok (.iload 4, 2) := by decide +kernel
theorem dX5_key_76 : decode cX5_key 76 = .ok (.iload_n 2, 1) := by decide +kernel
theorem dX5_key_77 : decode cX5_key 77 = .ok (.if_icmp .le 8, 3) := by decide +kernel
theorem dX5_key_80 : decode cX5_key 80 = .ok (.iload 4, 2) := by decide +kernel
theorem dX5_key_82 : decode cX5_key 82 = .ok (.goto 4, 3) := by decide +kernel
theorem dX5_key_85 : decode cX5_key 85 = .ok (.iload_n 2, 1) := by decide +kernel
theorem dX5_key_86 : decode cX5_key 86 = .ok (.istore_n 2, 1) := by decide +kernel
theorem dX5_key_87 : decode cX5_key 87 = .ok (.iinc 3 1, 3) := by decide +kernel
theorem dX5_key_90 : decode cX5_key 90 = .ok (.goto (-75), 3) := by decide +kernel
theorem dX5_key_93 : decode cX5_key 93 = .ok (.iload_n 1, 1) := by decide +kernel
theorem dX5_key_94 : decode cX5_key 94 = .ok (.ireturn, 1) := by decide +kernel
theorem dX5_half_0 : decode cX5_half 0 = .ok (.aload_n 0, 1) := by decide +kernel
theorem dX5_half_1 : decode cX5_half 1 = .ok (.iconst 0, 1) := by decide +kernel
theorem dX5_half_2 : decode cX5_half 2 = .ok (.putfield 73, 3) := by decide +kernel
theorem dX5_half_5 : decode cX5_half 5 = .ok (.aload_n 0, 1) := by decide +kernel
theorem dX5_half_6 : decode cX5_half 6 = .ok (.invokevirtual 245, 3) := by decide +kernel
theorem dX5_half_9 : decode cX5_half 9 = .ok (.istore_n 1, 1) := by decide +kernel
theorem dX5_half_10 : decode cX5_half 10 = .ok (.iconst 0, 1) := by decide +kernel
theorem dX5_half_11 : decode cX5_half 11 = .ok (.istore_n 2, 1) := by decide +kernel
theorem dX5_half_12 : decode cX5_half 12 = .ok (.iconst 2, 1) := by decide +kernel
theorem dX5_half_13 : decode cX5_half 13 = .ok (.aload_n 0, 1) := by decide +kernel
theorem dX5_half_14 : decode cX5_half 14 = .ok (.iload_n 2, 1) := by decide +kernel
theorem dX5_half_15 : decode cX5_half 15 = .ok (.invokevirtual 126, 3) := by decide +kernel
theorem dX5_half_18 : decode cX5_half 18 = .ok (.imul, 1) := by decide +kernel
theorem dX5_half_19 : decode cX5_half 19 = .ok (.iload_n 1, 1) := by decide +kernel
theorem dX5_half_20 : decode cX5_half 20 = .ok (.if_icmp .ge 9, 3) := by decide +kernel
theorem dX5_half_23 : decode cX5_half 23 = .ok (.iinc 2 1, 3) := by decide +kernel
theorem dX5_half_26 : decode cX5_half 26 = .ok (.goto (-14), 3) := by decide +kernel
theorem dX5_half_29 : decode cX5_half 29 = .ok (.iload_n 2, 1) := by decide +kernel
theorem dX5_half_30 : decode cX5_half 30 = .ok (.ireturn, 1) := by decide +kernel
theorem dX5_turned_0 : decode cX5_turned 0 = .ok (.aload_n 0, 1) := by decide +kernel
theorem dX5_turned_1 : decode cX5_turned 1 = .ok (.iconst 0, 1) := by decide +kernel
theorem dX5_turned_2 : decode cX5_turned 2 = .ok (.putfield 73, 3) := by decide +kernel
theorem dX5_turned_5 : decode cX5_turned 5 = .ok (.aload_n 0, 1) := by decide +kernel
theorem dX5_turned_6 : decode cX5_turned 6 = .ok (.invokevirtual 254, 3) := by decide +kernel
theorem dX5_turned_9 : decode cX5_turned 9 = .ok (.iconst 0, 1) := by decide +kernel
theorem dX5_turned_10 : decode cX5_turned 10 = .ok (.istore_n 1, 1) := by decide +kernel
theorem dX5_turned_11 : decode cX5_turned 11 = .ok (.iload_n 1, 1) := by decide +kernel
theorem dX5_turned_12 : decode cX5_turned 12 = .ok (.aload_n 0, 1) := by decide +kernel
theorem dX5_turned_13 : decode cX5_turned 13 = .ok (.getfield 77, 3) := by decide +kernel
theorem dX5_turned_16 : decode cX5_turned 16 = .ok (.if_icmp .ge 58, 3) := by decide +kernel
theorem dX5_turned_19 : decode cX5_turned 19 = .ok (.iconst 0, 1) := by decide +kernel
theorem dX5_turned_20 : decode cX5_turned 20 = .ok (.istore_n 2, 1) := by decide +kernel
theorem dX5_turned_21 : decode cX5_turned 21 = .ok (.iconst 0, 1) := by decide +kernel
theorem dX5_turned_22 : decode cX5_turned 22 = .ok (.istore_n 3, 1) := by decide +kernel
theorem dX5_turned_23 : decode cX5_turned 23 = .ok (.iload_n 3, 1) := by decide +kernel
theorem dX5_turned_24 : decode cX5_turned 24 = .ok (.bipush 24, 2) := by decide +kernel
theorem dX5_turned_26 : decode cX5_turned 26 = .ok (.if_icmp .ge 35, 3) := by decide +kernel
theorem dX5_turned_29 : decode cX5_turned 29 = .ok (.iload_n 2, 1) := by decide +kernel
theorem dX5_turned_30 : decode cX5_turned 30 = .ok (.aload_n 0, 1) := by decide +kernel
theorem dX5_turned_31 : decode cX5_turned 31 = .ok (.getfield 13, 3) := by decide +kernel
theorem dX5_turned_34 : decode cX5_turned 34 = .ok (.iload_n 1, 1) := by decide +kernel
theorem dX5_turned_35 : decode cX5_turned 35 = .ok (.iaload, 1) := by decide +kernel
theorem dX5_turned_36 : decode cX5_turned 36 = .ok (.iload_n 3, 1) := by decide +kernel
theorem dX5_turned_37 : decode cX5_turned 37 = .ok (.invokestatic 95, 3) := by decide +kernel
theorem dX5_turned_40 : decode cX5_turned 40 = .ok (.ifCond .eq 12, 3) := by decide +kernel
theorem dX5_turned_43 : decode cX5_turned 43 = .ok (.iconst 1, 1) := by decide +kernel
theorem dX5_turned_44 : decode cX5_turned 44 = .ok (.bipush 23, 2) := by decide +kernel
theorem dX5_turned_46 : decode cX5_turned 46 = .ok (.iload_n 3, 1) := by decide +kernel
theorem dX5_turned_47 : decode cX5_turned 47 = .ok (.isub, 1) := by decide +kernel
theorem dX5_turned_48 : decode cX5_turned 48 = .ok (.ishl, 1) := by decide +kernel
theorem dX5_turned_49 : decode cX5_turned 49 = .ok (.goto 4, 3) := by decide +kernel
theorem dX5_turned_52 : decode cX5_turned 52 = .ok (.iconst 0, 1) := by decide +kernel
theorem dX5_turned_53 : decode cX5_turned 53 = .ok (.ior, 1) := by decide +kernel
theorem dX5_turned_54 : decode cX5_turned 54 = .ok (.istore_n 2, 1) := by decide +kernel
theorem dX5_turned_55 : decode cX5_turned 55 = .ok (.iinc 3 1, 3) := by decide +kernel
theorem dX5_turned_58 : decode cX5_turned 58 = .ok (.goto (-35), 3) := by decide +kernel
theorem dX5_turned_61 : decode cX5_turned 61 = .ok (.aload_n 0, 1) := by decide +kernel
theorem dX5_turned_62 : decode cX5_turned 62 = .ok (.getfield 13, 3) := by decide +kernel
theorem dX5_turned_65 : decode cX5_turned 65 = .ok (.iload_n 1, 1) := by decide +kernel
theorem dX5_turned_66 : decode cX5_turned 66 = .ok (.iload_n 2, 1) := by decide +kernel
theorem dX5_turned_67 : decode cX5_turned 67 = .ok (.iastore, 1) := by decide +kernel
theorem dX5_turned_68 : decode cX5_turned 68 = .ok (.iinc 1 1, 3) := by decide +kernel
theorem dX5_turned_71 : decode cX5_turned 71 = .ok (.goto (-60), 3) := by decide +kernel
theorem dX5_turned_74 : decode cX5_turned 74 = .ok (.aload_n 0, 1) := by decide +kernel
theorem dX5_turned_75 : decode cX5_turned 75 = .ok (.invokevirtual 245, 3) := by decide +kernel
theorem dX5_turned_78 : decode cX5_turned 78 = .ok (.istore_n 1, 1) := by decide +kernel
theorem dX5_turned_79 : decode cX5_turned 79 = .ok (.aload_n 0, 1) := by decide +kernel
theorem dX5_turned_80 : decode cX5_turned 80 = .ok (.invokevirtual 260, 3) := by decide +kernel
theorem dX5_turned_83 : decode cX5_turned 83 = .ok (.iload_n 1, 1) := by decide +kernel
theorem dX5_turned_84 : decode cX5_turned 84 = .ok (.ireturn, 1) := by decide +kernel
theorem dX5_twin_0 : decode cX5_twin 0 = .ok (.aload_n 0, 1) := by decide +kernel
theorem dX5_twin_1 : decode cX5_twin 1 = .ok (.iconst 0, 1) := by decide +kernel
theorem dX5_twin_2 : decode cX5_twin 2 = .ok (.putfield 73, 3) := by decide +kernel
theorem dX5_twin_5 : decode cX5_twin 5 = .ok (.aload_n 0, 1) := by decide +kernel
theorem dX5_twin_6 : decode cX5_twin 6 = .ok (.invokevirtual 123, 3) := by decide +kernel
theorem dX5_twin_9 : decode cX5_twin 9 = .ok (.bipush (-9), 2) := by decide +kernel
theorem dX5_twin_11 : decode cX5_twin 11 = .ok (.istore_n 1, 1) := by decide +kernel
theorem dX5_twin_12 : decode cX5_twin 12 = .ok (.iconst 0, 1) := by decide +kernel
theorem dX5_twin_13 : decode cX5_twin 13 = .ok (.istore_n 2, 1) := by decide +kernel
theorem dX5_twin_14 : decode cX5_twin 14 = .ok (.iconst 0, 1) := by decide +kernel
theorem dX5_twin_15 : decode cX5_twin 15 = .ok (.istore_n 3, 1) := by decide +kernel
theorem dX5_twin_16 : decode cX5_twin 16 = .ok (.iload_n 3, 1) := by decide +kernel
theorem dX5_twin_17 : decode cX5_twin 17 = .ok (.aload_n 0, 1) := by decide +kernel
theorem dX5_twin_18 : decode cX5_twin 18 = .ok (.getfield 84, 3) := by decide +kernel
theorem dX5_twin_21 : decode cX5_twin 21 = .ok (.if_icmp .ge 120, 3) := by decide +kernel
theorem dX5_twin_24 : decode cX5_twin 24 = .ok (.iload_n 3, 1) := by decide +kernel
theorem dX5_twin_25 : decode cX5_twin 25 = .ok (.iconst 1, 1) := by decide +kernel
theorem dX5_twin_26 : decode cX5_twin 26 = .ok (.iadd, 1) := by decide +kernel
theorem dX5_twin_27 : decode cX5_twin 27 = .ok (.istore 4, 2) := by decide +kernel
theorem dX5_twin_29 : decode cX5_twin 29 = .ok (.iload 4, 2) := by decide +kernel
theorem dX5_twin_31 : decode cX5_twin 31 = .ok (.aload_n 0, 1) := by decide +kernel
theorem dX5_twin_32 : decode cX5_twin 32 = .ok (.getfield 84, 3) := by decide +kernel
theorem dX5_twin_35 : decode cX5_twin 35 = .ok (.if_icmp .ge 100, 3) := by decide +kernel
theorem dX5_twin_38 : decode cX5_twin 38 = .ok (.iconst 0, 1) := by decide +kernel
theorem dX5_twin_39 : decode cX5_twin 39 = .ok (.istore 5, 2) := by decide +kernel
theorem dX5_twin_41 : decode cX5_twin 41 = .ok (.iconst 0, 1) := by decide +kernel
theorem dX5_twin_42 : decode cX5_twin 42 = .ok (.istore 6, 2) := by decide +kernel
theorem dX5_twin_44 : decode cX5_twin 44 = .ok (.iload 6, 2) := by decide +kernel
theorem dX5_twin_46 : decode cX5_twin 46 = .ok (.bipush 24, 2) := by decide +kernel
theorem dX5_twin_48 : decode cX5_twin 48 = .ok (.if_icmp .ge 50, 3) := by decide +kernel
theorem dX5_twin_51 : decode cX5_twin 51 = .ok (.iload 5, 2) := by decide +kernel
theorem dX5_twin_53 : decode cX5_twin 53 = .ok (.aload_n 0, 1) := by decide +kernel
theorem dX5_twin_54 : decode cX5_twin 54 = .ok (.getfield 40, 3) := by decide +kernel
theorem dX5_twin_57 : decode cX5_twin 57 = .ok (.bipush 6, 2) := by decide +kernel
theorem dX5_twin_59 : decode cX5_twin 59 = .ok (.iload 6, 2) := by decide +kernel
theorem dX5_twin_61 : decode cX5_twin 61 = .ok (.imul, 1) := by decide +kernel
theorem dX5_twin_62 : decode cX5_twin 62 = .ok (.iload_n 3, 1) := by decide +kernel
theorem dX5_twin_63 : decode cX5_twin 63 = .ok (.iadd, 1) := by decide +kernel
theorem dX5_twin_64 : decode cX5_twin 64 = .ok (.iaload, 1) := by decide +kernel
theorem dX5_twin_65 : decode cX5_twin 65 = .ok (.ifCond .lt 23, 3) := by decide +kernel
theorem dX5_twin_68 : decode cX5_twin 68 = .ok (.aload_n 0, 1) := by decide +kernel
theorem dX5_twin_69 : decode cX5_twin 69 = .ok (.getfield 40, 3) := by decide +kernel
theorem dX5_twin_72 : decode cX5_twin 72 = .ok (.bipush 6, 2) := by decide +kernel
theorem dX5_twin_74 : decode cX5_twin 74 = .ok (.iload 6, 2) := by decide +kernel
theorem dX5_twin_76 : decode cX5_twin 76 = .ok (.imul, 1) := by decide +kernel
theorem dX5_twin_77 : decode cX5_twin 77 = .ok (.iload 4, 2) := by decide +kernel
theorem dX5_twin_79 : decode cX5_twin 79 = .ok (.iadd, 1) := by decide +kernel
theorem dX5_twin_80 : decode cX5_twin 80 = .ok (.iaload, 1) := by decide +kernel
theorem dX5_twin_81 : decode cX5_twin 81 = .ok (.ifCond .lt 7, 3) := by decide +kernel
theorem dX5_twin_84 : decode cX5_twin 84 = .ok (.iconst 1, 1) := by decide +kernel
theorem dX5_twin_85 : decode cX5_twin 85 = .ok (.goto 4, 3) := by decide +kernel
theorem dX5_twin_88 : decode cX5_twin 88 = .ok (.iconst 0, 1) := by decide +kernel
theorem dX5_twin_89 : decode cX5_twin 89 = .ok (.iadd, 1) := by decide +kernel
theorem dX5_twin_90 : decode cX5_twin 90 = .ok (.istore 5, 2) := by decide +kernel
theorem dX5_twin_92 : decode cX5_twin 92 = .ok (.iinc 6 1, 3) := by decide +kernel
theorem dX5_twin_95 : decode cX5_twin 95 = .ok (.goto (-51), 3) := by decide +kernel
theorem dX5_twin_98 : decode cX5_twin 98 = .ok (.iload 5, 2) := by decide +kernel
theorem dX5_twin_100 : decode cX5_twin 100 = .ok (.iload_n 2, 1) := by decide +kernel
theorem dX5_twin_101 : decode cX5_twin 101 = .ok (.if_icmp .le 13, 3) := by decide +kernel
theorem dX5_twin_104 : decode cX5_twin 104 = .ok (.bipush 10, 2) := by decide +kernel
theorem dX5_twin_106 : decode cX5_twin 106 = .ok (.iload_n 3, 1) := by decide +kernel
theorem dX5_twin_107 : decode cX5_twin 107 = .ok (.imul, 1) := by decide +kernel
theorem dX5_twin_108 : decode cX5_twin 108 = .ok (.iload 4, 2) := by decide +kernel
theorem dX5_twin_110 : decode cX5_twin 110 = .ok (.iadd, 1) := by decide +kernel
theorem dX5_twin_111 : decode cX5_twin 111 = .ok (.goto 4, 3) := by decide +kernel
theorem dX5_twin_114 : decode cX5_twin 114 = .ok (.iload_n 1, 1) := by decide +kernel
theorem dX5_twin_115 : decode cX5_twin 115 = .ok (.istore_n 1, 1) := by decide +kernel
theorem dX5_twin_116 : decode cX5_twin 116 = .ok (.iload 5, 2) := by decide +kernel
theorem dX5_twin_118 : decode cX5_twin 118 = .ok (.iload_n 2, 1) := by decide +kernel
theorem dX5_twin_119 : decode cX5_twin 119 = .ok (.if_icmp .le 8, 3) := by decide +kernel
theorem dX5_twin_122 : decode cX5_twin 122 = .ok (.iload 5, 2) := by decide +kernel
theorem dX5_twin_124 : decode cX5_twin 124 = .ok (.goto 4, 3) := by decide +kernel
theorem dX5_twin_127 : decode cX5_twin 127 = .ok (.iload_n 2, 1) := by decide +kernel
theorem dX5_twin_128 : decode cX5_twin 128 = .ok (.istore_n 2, 1) := by decide +kernel
theorem dX5_twin_129 : decode cX5_twin 129 = .ok (.iinc 4 1, 3) := by decide +kernel
theorem dX5_twin_132 : decode cX5_twin 132 = .ok (.goto (-103), 3) := by decide +kernel
theorem dX5_twin_135 : decode cX5_twin 135 = .ok (.iinc 3 1, 3) := by decide +kernel
theorem dX5_twin_138 : decode cX5_twin 138 = .ok (.goto (-122), 3) := by decide +kernel
theorem dX5_twin_141 : decode cX5_twin 141 = .ok (.iload_n 1, 1) := by decide +kernel
theorem dX5_twin_142 : decode cX5_twin 142 = .ok (.ireturn, 1) := by decide +kernel
theorem dX5_spreads_0 : decode cX5_spreads 0 = .ok (.aload_n 0, 1) := by decide +kernel
theorem dX5_spreads_1 : decode cX5_spreads 1 = .ok (.iconst 0, 1) := by decide +kernel
theorem dX5_spreads_2 : decode cX5_spreads 2 = .ok (.putfield 73, 3) := by decide +kernel
theorem dX5_spreads_5 : decode cX5_spreads 5 = .ok (.aload_n 0, 1) := by decide +kernel
theorem dX5_spreads_6 : decode cX5_spreads 6 = .ok (.iload_n 1, 1) := by decide +kernel
theorem dX5_spreads_7 : decode cX5_spreads 7 = .ok (.invokevirtual 164, 3) := by decide +kernel
theorem dX5_spreads_10 : decode cX5_spreads 10 = .ok (.ifCond .eq 10, 3) := by decide +kernel
theorem dX5_spreads_13 : decode cX5_spreads 13 = .ok (.iload_n 2, 1) := by decide +kernel
theorem dX5_spreads_14 : decode cX5_spreads 14 = .ok (.invokestatic 225, 3) := by decide +kernel
theorem dX5_spreads_17 : decode cX5_spreads 17 = .ok (.ifCond .ne 9, 3) := by decide +kernel
theorem dX5_spreads_20 : decode cX5_spreads 20 = .ok (.aload_n 0, 1) := by decide +kernel
theorem dX5_spreads_21 : decode cX5_spreads 21 = .ok (.iconst (-1), 1) := by decide +kernel
theorem dX5_spreads_22 : decode cX5_spreads 22 = .ok (.invokevirtual 129, 3) := by decide +kernel
theorem dX5_spreads_25 : decode cX5_spreads 25 = .ok (.ireturn, 1) := by decide +kernel
theorem dX5_spreads_26 : decode cX5_spreads 26 = .ok (.bipush (-9), 2) := by decide +kernel
theorem dX5_spreads_28 : decode cX5_spreads 28 = .ok (.istore_n 3, 1) := by decide +kernel
theorem dX5_spreads_29 : decode cX5_spreads 29 = .ok (.aload_n 0, 1) := by decide +kernel
theorem dX5_spreads_30 : decode cX5_spreads 30 = .ok (.invokevirtual 254, 3) := by decide +kernel
theorem dX5_spreads_33 : decode cX5_spreads 33 = .ok (.iconst 0, 1) := by decide +kernel
theorem dX5_spreads_34 : decode cX5_spreads 34 = .ok (.istore 4, 2) := by decide +kernel
theorem dX5_spreads_36 : decode cX5_spreads 36 = .ok (.iload 4, 2) := by decide +kernel
theorem dX5_spreads_38 : decode cX5_spreads 38 = .ok (.bipush 70, 2) := by decide +kernel
theorem dX5_spreads_40 : decode cX5_spreads 40 = .ok (.if_icmp .gt 39, 3) := by decide +kernel
theorem dX5_spreads_43 : decode cX5_spreads 43 = .ok (.iload_n 3, 1) := by decide +kernel
theorem dX5_spreads_44 : decode cX5_spreads 44 = .ok (.ifCond .ge 35, 3) := by decide +kernel
theorem dX5_spreads_47 : decode cX5_spreads 47 = .ok (.aload_n 0, 1) := by decide +kernel
theorem dX5_spreads_48 : decode cX5_spreads 48 = .ok (.getfield 19, 3) := by decide +kernel
theorem dX5_spreads_51 : decode cX5_spreads 51 = .ok (.iload_n 1, 1) := by decide +kernel
theorem dX5_spreads_52 : decode cX5_spreads 52 = .ok (.iaload, 1) := by decide +kernel
theorem dX5_spreads_53 : decode cX5_spreads 53 = .ok (.iload_n 2, 1) := by decide +kernel
theorem dX5_spreads_54 : decode cX5_spreads 54 = .ok (.invokestatic 95, 3) := by decide +kernel
theorem dX5_spreads_57 : decode cX5_spreads 57 = .ok (.ifCond .eq 8, 3) := by decide +kernel
theorem dX5_spreads_60 : decode cX5_spreads 60 = .ok (.iload 4, 2) := by decide +kernel
theorem dX5_spreads_62 : decode cX5_spreads 62 = .ok (.goto 5, 3) := by decide +kernel
theorem dX5_spreads_65 : decode cX5_spreads 65 = .ok (.bipush (-9), 2) := by decide +kernel
theorem dX5_spreads_67 : decode cX5_spreads 67 = .ok (.istore_n 3, 1) := by decide +kernel
theorem dX5_spreads_68 : decode cX5_spreads 68 = .ok (.aload_n 0, 1) := by decide +kernel
theorem dX5_spreads_69 : decode cX5_spreads 69 = .ok (.invokevirtual 228, 3) := by decide +kernel
theorem dX5_spreads_72 : decode cX5_spreads 72 = .ok (.pop, 1) := by decide +kernel
theorem dX5_spreads_73 : decode cX5_spreads 73 = .ok (.iinc 4 1, 3) := by decide +kernel
theorem dX5_spreads_76 : decode cX5_spreads 76 = .ok (.goto (-40), 3) := by decide +kernel
theorem dX5_spreads_79 : decode cX5_spreads 79 = .ok (.aload_n 0, 1) := by decide +kernel
theorem dX5_spreads_80 : decode cX5_spreads 80 = .ok (.invokevirtual 260, 3) := by decide +kernel
theorem dX5_spreads_83 : decode cX5_spreads 83 = .ok (.iload_n 3, 1) := by decide +kernel
theorem dX5_spreads_84 : decode cX5_spreads 84 = .ok (.ireturn, 1) := by decide +kernel
theorem dX5_keeper_0 : decode cX5_keeper 0 = .ok (.aload_n 0, 1) := by decide +kernel
theorem dX5_keeper_1 : decode cX5_keeper 1 = .ok (.iconst 0, 1) := by decide +kernel
theorem dX5_keeper_2 : decode cX5_keeper 2 = .ok (.putfield 73, 3) := by decide +kernel
theorem dX5_keeper_5 : decode cX5_keeper 5 = .ok (.iload_n 1, 1) := by decide +kernel
theorem dX5_keeper_6 : decode cX5_keeper 6 = .ok (.i2l, 1) := by decide +kernel
theorem dX5_keeper_7 : decode cX5_keeper 7 = .ok (.lconst 0, 1) := by decide +kernel
theorem dX5_keeper_8 : decode cX5_keeper 8 = .ok (.lconst 1, 1) := by decide +kernel
theorem dX5_keeper_9 : decode cX5_keeper 9 = .ok (.invokestatic 80, 3) := by decide +kernel
theorem dX5_keeper_12 : decode cX5_keeper 12 = .ok (.ifCond .ne 10, 3) := by decide +kernel
theorem dX5_keeper_15 : decode cX5_keeper 15 = .ok (.aload_n 0, 1) := by decide +kernel
theorem dX5_keeper_16 : decode cX5_keeper 16 = .ok (.bipush (-2), 2) := by decide +kernel
theorem dX5_keeper_18 : decode cX5_keeper 18 = .ok (.invokevirtual 129, 3) := by decide +kernel
theorem dX5_keeper_21 : decode cX5_keeper 21 = .ok (.ireturn, 1) := by decide +kernel
theorem dX5_keeper_22 : decode cX5_keeper 22 = .ok (.bipush (-9), 2) := by decide +kernel
theorem dX5_keeper_24 : decode cX5_keeper 24 = .ok (.istore_n 2, 1) := by decide +kernel
theorem dX5_keeper_25 : decode cX5_keeper 25 = .ok (.bipush (-9), 2) := by decide +kernel
theorem dX5_keeper_27 : decode cX5_keeper 27 = .ok (.istore_n 3, 1) := by decide +kernel
theorem dX5_keeper_28 : decode cX5_keeper 28 = .ok (.iconst 0, 1) := by decide +kernel
theorem dX5_keeper_29 : decode cX5_keeper 29 = .ok (.istore 4, 2) := by decide +kernel
theorem dX5_keeper_31 : decode cX5_keeper 31 = .ok (.iload 4, 2) := by decide +kernel
theorem dX5_keeper_33 : decode cX5_keeper 33 = .ok (.aload_n 0, 1) := by decide +kernel
theorem dX5_keeper_34 : decode cX5_keeper 34 = .ok (.getfield 77, 3) := by decide +kernel
theorem dX5_keeper_37 : decode cX5_keeper 37 = .ok (.if_icmp .ge 82, 3) := by decide +kernel
theorem dX5_keeper_40 : decode cX5_keeper 40 = .ok (.aload_n 0, 1) := by decide +kernel
theorem dX5_keeper_41 : decode cX5_keeper 41 = .ok (.getfield 16, 3) := by decide +kernel
theorem dX5_keeper_44 : decode cX5_keeper 44 = .ok (.iload 4, 2) := by decide +kernel
theorem dX5_keeper_46 : decode cX5_keeper 46 = .ok (.iaload, 1) := by decide +kernel
theorem dX5_keeper_47 : decode cX5_keeper 47 = .ok (.istore 5, 2) := by decide +kernel
theorem dX5_keeper_49 : decode cX5_keeper 49 = .ok (.aload_n 0, 1) := by decide +kernel
theorem dX5_keeper_50 : decode cX5_keeper 50 = .ok (.getfield 16, 3) := by decide +kernel
theorem dX5_keeper_53 : decode cX5_keeper 53 = .ok (.iload 4, 2) := by decide +kernel
theorem dX5_keeper_55 : decode cX5_keeper 55 = .ok (.iconst 1, 1) := by decide +kernel
theorem dX5_keeper_56 : decode cX5_keeper 56 = .ok (.iastore, 1) := by decide +kernel
theorem dX5_keeper_57 : decode cX5_keeper 57 = .ok (.aload_n 0, 1) := by decide +kernel
theorem dX5_keeper_58 : decode cX5_keeper 58 = .ok (.invokevirtual 245, 3) := by decide +kernel
theorem dX5_keeper_61 : decode cX5_keeper 61 = .ok (.istore 6, 2) := by decide +kernel
theorem dX5_keeper_63 : decode cX5_keeper 63 = .ok (.aload_n 0, 1) := by decide +kernel
theorem dX5_keeper_64 : decode cX5_keeper 64 = .ok (.getfield 16, 3) := by decide +kernel
theorem dX5_keeper_67 : decode cX5_keeper 67 = .ok (.iload 4, 2) := by decide +kernel
theorem dX5_keeper_69 : decode cX5_keeper 69 = .ok (.iload 5, 2) := by decide +kernel
theorem dX5_keeper_71 : decode cX5_keeper 71 = .ok (.iastore, 1) := by decide +kernel
theorem dX5_keeper_72 : decode cX5_keeper 72 = .ok (.iload_n 2, 1) := by decide +kernel
theorem dX5_keeper_73 : decode cX5_keeper 73 = .ok (.ifCond .lt 9, 3) := by decide +kernel
theorem dX5_keeper_76 : decode cX5_keeper 76 = .ok (.iload 6, 2) := by decide +kernel
theorem dX5_keeper_78 : decode cX5_keeper 78 = .ok (.iload_n 3, 1) := by decide +kernel
theorem dX5_keeper_79 : decode cX5_keeper 79 = .ok (.if_icmp .ge 7, 3) := by decide +kernel
theorem dX5_keeper_82 : decode cX5_keeper 82 = .ok (.iconst 1, 1) := by decide +kernel
theorem dX5_keeper_83 : decode cX5_keeper 83 = .ok (.goto 4, 3) := by decide +kernel
theorem dX5_keeper_86 : decode cX5_keeper 86 = .ok (.iconst 0, 1) := by decide +kernel
theorem dX5_keeper_87 : decode cX5_keeper 87 = .ok (.istore 7, 2) := by decide +kernel
theorem dX5_keeper_89 : decode cX5_keeper 89 = .ok (.iload 7, 2) := by decide +kernel
theorem dX5_keeper_91 : decode cX5_keeper 91 = .ok (.ifCond .eq 8, 3) := by decide +kernel
theorem dX5_keeper_94 : decode cX5_keeper 94 = .ok (.iload 4, 2) := by decide +kernel
theorem dX5_keeper_96 : decode cX5_keeper 96 = .ok (.goto 4, 3) := by decide +kernel
theorem dX5_keeper_99 : decode cX5_keeper 99 = .ok (.iload_n 2, 1) := by decide +kernel
theorem dX5_keeper_100 : decode cX5_keeper 100 = .ok (.istore_n 2, 1) := by decide +kernel
theorem dX5_keeper_101 : decode cX5_keeper 101 = .ok (.iload 7, 2) := by decide +kernel
theorem dX5_keeper_103 : decode cX5_keeper 103 = .ok (.ifCond .eq 8, 3) := by decide +kernel
theorem dX5_keeper_106 : decode cX5_keeper 106 = .ok (.iload 6, 2) := by decide +kernel
theorem dX5_keeper_108 : decode cX5_keeper 108 = .ok (.goto 4, 3) := by decide +kernel
theorem dX5_keeper_111 : decode cX5_keeper 111 = .ok (.iload_n 3, 1) := by decide +kernel
theorem dX5_keeper_112 : decode cX5_keeper 112 = .ok (.istore_n 3, 1) := by decide +kernel
theorem dX5_keeper_113 : decode cX5_keeper 113 = .ok (.iinc 4 1, 3) := by decide +kernel
theorem dX5_keeper_116 : decode cX5_keeper 116 = .ok (.goto (-85), 3) := by decide +kernel
theorem dX5_keeper_119 : decode cX5_keeper 119 = .ok (.iload_n 1, 1) := by decide +kernel
theorem dX5_keeper_120 : decode cX5_keeper 120 = .ok (.ifCond .ne 7, 3) := by decide +kernel
theorem dX5_keeper_123 : decode cX5_keeper 123 = .ok (.iload_n 2, 1) := by decide +kernel
theorem dX5_keeper_124 : decode cX5_keeper 124 = .ok (.goto 4, 3) := by decide +kernel
theorem dX5_keeper_127 : decode cX5_keeper 127 = .ok (.iload_n 3, 1) := by decide +kernel
theorem dX5_keeper_128 : decode cX5_keeper 128 = .ok (.ireturn, 1) := by decide +kernel
theorem dX5_openings_0 : decode cX5_openings 0 = .ok (.aload_n 0, 1) := by decide +kernel
theorem dX5_openings_1 : decode cX5_openings 1 = .ok (.iconst 0, 1) := by decide +kernel
theorem dX5_openings_2 : decode cX5_openings 2 = .ok (.putfield 73, 3) := by decide +kernel
theorem dX5_openings_5 : decode cX5_openings 5 = .ok (.aload_n 0, 1) := by decide +kernel
theorem dX5_openings_6 : decode cX5_openings 6 = .ok (.iload_n 1, 1) := by decide +kernel
theorem dX5_openings_7 : decode cX5_openings 7 = .ok (.invokevirtual 164, 3) := by decide +kernel
theorem dX5_openings_10 : decode cX5_openings 10 = .ok (.ifCond .eq 12, 3) := by decide +kernel
theorem dX5_openings_13 : decode cX5_openings 13 = .ok (.iconst 0, 1) := by decide +kernel
theorem dX5_openings_14 : decode cX5_openings 14 = .ok (.iload_n 2, 1) := by decide +kernel
theorem dX5_openings_15 : decode cX5_openings 15 = .ok (.iconst 1, 1) := by decide +kernel
theorem dX5_openings_16 : decode cX5_openings 16 = .ok (.invokestatic 248, 3) := by decide +kernel
theorem dX5_openings_19 : decode cX5_openings 19 = .ok (.goto 4, 3) := by decide +kernel
theorem dX5_openings_22 : decode cX5_openings 22 = .ok (.iconst (-1), 1) := by decide +kernel
theorem dX5_openings_23 : decode cX5_openings 23 = .ok (.istore_n 3, 1) := by decide +kernel
theorem dX5_openings_24 : decode cX5_openings 24 = .ok (.iload_n 3, 1) := by decide +kernel
theorem dX5_openings_25 : decode cX5_openings 25 = .ok (.ifCond .ge 9, 3) := by decide +kernel
theorem dX5_openings_28 : decode cX5_openings 28 = .ok (.aload_n 0, 1) := by decide +kernel
theorem dX5_openings_29 : decode cX5_openings 29 = .ok (.iload_n 3, 1) := by decide +kernel
theorem dX5_openings_30 : decode cX5_openings 30 = .ok (.invokevirtual 129, 3) := by decide +kernel
theorem dX5_openings_33 : decode cX5_openings 33 = .ok (.ireturn, 1) := by decide +kernel
theorem dX5_openings_34 : decode cX5_openings 34 = .ok (.aload_n 0, 1) := by decide +kernel
theorem dX5_openings_35 : decode cX5_openings 35 = .ok (.invokevirtual 245, 3) := by decide +kernel
theorem dX5_openings_38 : decode cX5_openings 38 = .ok (.istore 4, 2) := by decide +kernel
theorem dX5_openings_40 : decode cX5_openings 40 = .ok (.aload_n 0, 1) := by decide +kernel
theorem dX5_openings_41 : decode cX5_openings 41 = .ok (.getfield 13, 3) := by decide +kernel
theorem dX5_openings_44 : decode cX5_openings 44 = .ok (.iload_n 1, 1) := by decide +kernel
theorem dX5_openings_45 : decode cX5_openings 45 = .ok (.iaload, 1) := by decide +kernel
theorem dX5_openings_46 : decode cX5_openings 46 = .ok (.istore 5, 2) := by decide +kernel
theorem dX5_openings_48 : decode cX5_openings 48 = .ok (.iconst 0, 1) := by decide +kernel
theorem dX5_openings_49 : decode cX5_openings 49 = .ok (.istore 6, 2) := by decide +kernel
theorem dX5_openings_51 : decode cX5_openings 51 = .ok (.bipush (-9), 2) := by decide +kernel
theorem dX5_openings_53 : decode cX5_openings 53 = .ok (.istore 7, 2) := by decide +kernel
theorem dX5_openings_55 : decode cX5_openings 55 = .ok (.iconst 0, 1) := by decide +kernel
theorem dX5_openings_56 : decode cX5_openings 56 = .ok (.istore 8, 2) := by decide +kernel
theorem dX5_openings_58 : decode cX5_openings 58 = .ok (.iload 8, 2) := by decide +kernel
theorem dX5_openings_60 : decode cX5_openings 60 = .ok (.bipush 24, 2) := by decide +kernel
theorem dX5_openings_62 : decode cX5_openings 62 = .ok (.if_icmp .ge 82, 3) := by decide +kernel
theorem dX5_openings_65 : decode cX5_openings 65 = .ok (.iload 5, 2) := by decide +kernel
theorem dX5_openings_67 : decode cX5_openings 67 = .ok (.iload 8, 2) := by decide +kernel
theorem dX5_openings_69 : decode cX5_openings 69 = .ok (.invokestatic 95, 3) := by decide +kernel
theorem dX5_openings_72 : decode cX5_openings 72 = .ok (.ifCond .ne 66, 3) := by decide +kernel
theorem dX5_openings_75 : decode cX5_openings 75 = .ok (.aload_n 0, 1) := by decide +kernel
theorem dX5_openings_76 : decode cX5_openings 76 = .ok (.getfield 13, 3) := by decide +kernel
theorem dX5_openings_79 : decode cX5_openings 79 = .ok (.iload_n 1, 1) := by decide +kernel
theorem dX5_openings_80 : decode cX5_openings 80 = .ok (.iload 5, 2) := by decide +kernel
theorem dX5_openings_82 : decode cX5_openings 82 = .ok (.iconst 1, 1) := by decide +kernel
theorem dX5_openings_83 : decode cX5_openings 83 = .ok (.iload 8, 2) := by decide +kernel
theorem dX5_openings_85 : decode cX5_openings 85 = .ok (.ishl, 1) := by decide +kernel
theorem dX5_openings_86 : decode cX5_openings 86 = .ok (.ior, 1) := by decide +kernel
theorem dX5_openings_87 : decode cX5_openings 87 = .ok (.iastore, 1) := by decide +kernel
theorem dX5_openings_88 : decode cX5_openings 88 = .ok (.aload_n 0, 1) := by decide +kernel
theorem dX5_openings_89 : decode cX5_openings 89 = .ok (.invokevirtual 245, 3) := by decide +kernel
theorem dX5_openings_92 : decode cX5_openings 92 = .ok (.iload 4, 2) := by decide +kernel
theorem dX5_openings_94 : decode cX5_openings 94 = .ok (.if_icmp .le 7, 3) := by decide +kernel
theorem dX5_openings_97 : decode cX5_openings 97 = .ok (.iconst 1, 1) := by decide +kernel
theorem dX5_openings_98 : decode cX5_openings 98 = .ok (.goto 4, 3) := by decide +kernel
theorem dX5_openings_101 : decode cX5_openings 101 = .ok (.iconst 0, 1) := by decide +kernel
theorem dX5_openings_102 : decode cX5_openings 102 = .ok (.istore 9, 2) := by decide +kernel
theorem dX5_openings_104 : decode cX5_openings 104 = .ok (.iload 6, 2) := by decide +kernel
theorem dX5_openings_106 : decode cX5_openings 106 = .ok (.iload 9, 2) := by decide +kernel
theorem dX5_openings_108 : decode cX5_openings 108 = .ok (.ifCond .eq 7, 3) := by decide +kernel
theorem dX5_openings_111 : decode cX5_openings 111 = .ok (.iconst 1, 1) := by decide +kernel
theorem dX5_openings_112 : decode cX5_openings 112 = .ok (.goto 4, 3) := by decide +kernel
theorem dX5_openings_115 : decode cX5_openings 115 = .ok (.iconst 0, 1) := by decide +kernel
theorem dX5_openings_116 : decode cX5_openings 116 = .ok (.iadd, 1) := by decide +kernel
theorem dX5_openings_117 : decode cX5_openings 117 = .ok (.istore 6, 2) := by decide +kernel
theorem dX5_openings_119 : decode cX5_openings 119 = .ok (.iload 9, 2) := by decide +kernel
theorem dX5_openings_121 : decode cX5_openings 121 = .ok (.ifCond .eq 13, 3) := by decide +kernel
theorem dX5_openings_124 : decode cX5_openings 124 = .ok (.iload 7, 2) := by decide +kernel
theorem dX5_openings_126 : decode cX5_openings 126 = .ok (.ifCond .ge 8, 3) := by decide +kernel
theorem dX5_openings_129 : decode cX5_openings 129 = .ok (.iload 8, 2) := by decide +kernel
theorem dX5_openings_131 : decode cX5_openings 131 = .ok (.goto 5, 3) := by decide +kernel
theorem dX5_openings_134 : decode cX5_openings 134 = .ok (.iload 7, 2) := by decide +kernel
theorem dX5_openings_136 : decode cX5_openings 136 = .ok (.istore 7, 2) := by decide +kernel
theorem dX5_openings_138 : decode cX5_openings 138 = .ok (.iinc 8 1, 3) := by decide +kernel
theorem dX5_openings_141 : decode cX5_openings 141 = .ok (.goto (-83), 3) := by decide +kernel
theorem dX5_openings_144 : decode cX5_openings 144 = .ok (.aload_n 0, 1) := by decide +kernel
theorem dX5_openings_145 : decode cX5_openings 145 = .ok (.getfield 13, 3) := by decide +kernel
theorem dX5_openings_148 : decode cX5_openings 148 = .ok (.iload_n 1, 1) := by decide +kernel
theorem dX5_openings_149 : decode cX5_openings 149 = .ok (.iload 5, 2) := by decide +kernel
theorem dX5_openings_151 : decode cX5_openings 151 = .ok (.iastore, 1) := by decide +kernel
theorem dX5_openings_152 : decode cX5_openings 152 = .ok (.iload_n 2, 1) := by decide +kernel
theorem dX5_openings_153 : decode cX5_openings 153 = .ok (.ifCond .ne 8, 3) := by decide +kernel
theorem dX5_openings_156 : decode cX5_openings 156 = .ok (.iload 6, 2) := by decide +kernel
theorem dX5_openings_158 : decode cX5_openings 158 = .ok (.goto 5, 3) := by decide +kernel
theorem dX5_openings_161 : decode cX5_openings 161 = .ok (.iload 7, 2) := by decide +kernel
theorem dX5_openings_163 : decode cX5_openings 163 = .ok (.ireturn, 1) := by decide +kernel
theorem dX5_dinner_0 : decode cX5_dinner 0 = .ok (.aload_n 0, 1) := by decide +kernel
theorem dX5_dinner_1 : decode cX5_dinner 1 = .ok (.iconst 0, 1) := by decide +kernel
theorem dX5_dinner_2 : decode cX5_dinner 2 = .ok (.putfield 73, 3) := by decide +kernel
theorem dX5_dinner_5 : decode cX5_dinner 5 = .ok (.iload_n 1, 1) := by decide +kernel
theorem dX5_dinner_6 : decode cX5_dinner 6 = .ok (.iconst 1, 1) := by decide +kernel
theorem dX5_dinner_7 : decode cX5_dinner 7 = .ok (.bipush 12, 2) := by decide +kernel
theorem dX5_dinner_9 : decode cX5_dinner 9 = .ok (.invokestatic 213, 3) := by decide +kernel
theorem dX5_dinner_12 : decode cX5_dinner 12 = .ok (.iload_n 2, 1) := by decide +kernel
theorem dX5_dinner_13 : decode cX5_dinner 13 = .ok (.iconst 1, 1) := by decide +kernel
theorem dX5_dinner_14 : decode cX5_dinner 14 = .ok (.invokestatic 248, 3) := by decide +kernel
theorem dX5_dinner_17 : decode cX5_dinner 17 = .ok (.istore_n 3, 1) := by decide +kernel
theorem dX5_dinner_18 : decode cX5_dinner 18 = .ok (.iload_n 3, 1) := by decide +kernel
theorem dX5_dinner_19 : decode cX5_dinner 19 = .ok (.ifCond .ge 9, 3) := by decide +kernel
theorem dX5_dinner_22 : decode cX5_dinner 22 = .ok (.aload_n 0, 1) := by decide +kernel
theorem dX5_dinner_23 : decode cX5_dinner 23 = .ok (.iload_n 3, 1) := by decide +kernel
theorem dX5_dinner_24 : decode cX5_dinner 24 = .ok (.invokevirtual 129, 3) := by decide +kernel
theorem dX5_dinner_27 : decode cX5_dinner 27 = .ok (.ireturn, 1) := by decide +kernel
theorem dX5_dinner_28 : decode cX5_dinner 28 = .ok (.aload_n 0, 1) := by decide +kernel
theorem dX5_dinner_29 : decode cX5_dinner 29 = .ok (.invokevirtual 123, 3) := by decide +kernel
theorem dX5_dinner_32 : decode cX5_dinner 32 = .ok (.iconst 0, 1) := by decide +kernel
theorem dX5_dinner_33 : decode cX5_dinner 33 = .ok (.istore 4, 2) := by decide +kernel
theorem dX5_dinner_35 : decode cX5_dinner 35 = .ok (.sipush 999, 3) := by decide +kernel
theorem dX5_dinner_38 : decode cX5_dinner 38 = .ok (.istore 5, 2) := by decide +kernel
theorem dX5_dinner_40 : decode cX5_dinner 40 = .ok (.iconst 0, 1) := by decide +kernel
theorem dX5_dinner_41 : decode cX5_dinner 41 = .ok (.istore 6, 2) := by decide +kernel
theorem dX5_dinner_43 : decode cX5_dinner 43 = .ok (.iload 6, 2) := by decide +kernel
theorem dX5_dinner_45 : decode cX5_dinner 45 = .ok (.iload_n 1, 1) := by decide +kernel
theorem dX5_dinner_46 : decode cX5_dinner 46 = .ok (.iadd, 1) := by decide +kernel
theorem dX5_dinner_47 : decode cX5_dinner 47 = .ok (.bipush 24, 2) := by decide +kernel
theorem dX5_dinner_49 : decode cX5_dinner 49 = .ok (.if_icmp .gt 78, 3) := by decide +kernel
theorem dX5_dinner_52 : decode cX5_dinner 52 = .ok (.iconst 0, 1) := by decide +kernel
theorem dX5_dinner_53 : decode cX5_dinner 53 = .ok (.istore 7, 2) := by decide +kernel
theorem dX5_dinner_55 : decode cX5_dinner 55 = .ok (.iload 6, 2) := by decide +kernel
theorem dX5_dinner_57 : decode cX5_dinner 57 = .ok (.istore 8, 2) := by decide +kernel
theorem dX5_dinner_59 : decode cX5_dinner 59 = .ok (.iload 8, 2) := by decide +kernel
theorem dX5_dinner_61 : decode cX5_dinner 61 = .ok (.iload 6, 2) := by decide +kernel
theorem dX5_dinner_63 : decode cX5_dinner 63 = .ok (.iload_n 1, 1) := by decide +kernel
theorem dX5_dinner_64 : decode cX5_dinner 64 = .ok (.iadd, 1) := by decide +kernel
theorem dX5_dinner_65 : decode cX5_dinner 65 = .ok (.if_icmp .ge 24, 3) := by decide +kernel
theorem dX5_dinner_68 : decode cX5_dinner 68 = .ok (.iload 7, 2) := by decide +kernel
theorem dX5_dinner_70 : decode cX5_dinner 70 = .ok (.aload_n 0, 1) := by decide +kernel
theorem dX5_dinner_71 : decode cX5_dinner 71 = .ok (.iconst (-1), 1) := by decide +kernel
theorem dX5_dinner_72 : decode cX5_dinner 72 = .ok (.iload 8, 2) := by decide +kernel
theorem dX5_dinner_74 : decode cX5_dinner 74 = .ok (.invokevirtual 233, 3) := by decide +kernel
theorem dX5_dinner_77 : decode cX5_dinner 77 = .ok (.invokestatic 120, 3) := by decide +kernel
theorem dX5_dinner_80 : decode cX5_dinner 80 = .ok (.iadd, 1) := by decide +kernel
theorem dX5_dinner_81 : decode cX5_dinner 81 = .ok (.istore 7, 2) := by decide +kernel
theorem dX5_dinner_83 : decode cX5_dinner 83 = .ok (.iinc 8 1, 3) := by decide +kernel
theorem dX5_dinner_86 : decode cX5_dinner 86 = .ok (.goto (-27), 3) := by decide +kernel
theorem dX5_dinner_89 : decode cX5_dinner 89 = .ok (.iload 7, 2) := by decide +kernel
theorem dX5_dinner_91 : decode cX5_dinner 91 = .ok (.iload 5, 2) := by decide +kernel
theorem dX5_dinner_93 : decode cX5_dinner 93 = .ok (.if_icmp .ge 8, 3) := by decide +kernel
theorem dX5_dinner_96 : decode cX5_dinner 96 = .ok (.iload 6, 2) := by decide +kernel
theorem dX5_dinner_98 : decode cX5_dinner 98 = .ok (.goto 5, 3) := by decide +kernel
theorem dX5_dinner_101 : decode cX5_dinner 101 = .ok (.iload 4, 2) := by decide +kernel
theorem dX5_dinner_103 : decode cX5_dinner 103 = .ok (.istore 4, 2) := by decide +kernel
theorem dX5_dinner_105 : decode cX5_dinner 105 = .ok (.iload 7, 2) := by decide +kernel
theorem dX5_dinner_107 : decode cX5_dinner 107 = .ok (.iload 5, 2) := by decide +kernel
theorem dX5_dinner_109 : decode cX5_dinner 109 = .ok (.if_icmp .ge 8, 3) := by decide +kernel
theorem dX5_dinner_112 : decode cX5_dinner 112 = .ok (.iload 7, 2) := by decide +kernel
theorem dX5_dinner_114 : decode cX5_dinner 114 = .ok (.goto 5, 3) := by decide +kernel
theorem dX5_dinner_117 : decode cX5_dinner 117 = .ok (.iload 5, 2) := by decide +kernel
theorem dX5_dinner_119 : decode cX5_dinner 119 = .ok (.istore 5, 2) := by decide +kernel
theorem dX5_dinner_121 : decode cX5_dinner 121 = .ok (.iinc 6 1, 3) := by decide +kernel
theorem dX5_dinner_124 : decode cX5_dinner 124 = .ok (.goto (-81), 3) := by decide +kernel
theorem dX5_dinner_127 : decode cX5_dinner 127 = .ok (.iload_n 2, 1) := by decide +kernel
theorem dX5_dinner_128 : decode cX5_dinner 128 = .ok (.ifCond .ne 8, 3) := by decide +kernel
theorem dX5_dinner_131 : decode cX5_dinner 131 = .ok (.iload 4, 2) := by decide +kernel
theorem dX5_dinner_133 : decode cX5_dinner 133 = .ok (.goto 5, 3) := by decide +kernel
theorem dX5_dinner_136 : decode cX5_dinner 136 = .ok (.iload 5, 2) := by decide +kernel
theorem dX5_dinner_138 : decode cX5_dinner 138 = .ok (.ireturn, 1) := by decide +kernel
theorem dX5_share_0 : decode cX5_share 0 = .ok (.aload_n 0, 1) := by decide +kernel
theorem dX5_share_1 : decode cX5_share 1 = .ok (.iconst 0, 1) := by decide +kernel
theorem dX5_share_2 : decode cX5_share 2 = .ok (.putfield 73, 3) := by decide +kernel
theorem dX5_share_5 : decode cX5_share 5 = .ok (.aload_n 0, 1) := by decide +kernel
theorem dX5_share_6 : decode cX5_share 6 = .ok (.iload_n 1, 1) := by decide +kernel
theorem dX5_share_7 : decode cX5_share 7 = .ok (.invokevirtual 208, 3) := by decide +kernel
theorem dX5_share_10 : decode cX5_share 10 = .ok (.ifCond .eq 12, 3) := by decide +kernel
theorem dX5_share_13 : decode cX5_share 13 = .ok (.iconst 0, 1) := by decide +kernel
theorem dX5_share_14 : decode cX5_share 14 = .ok (.iload_n 2, 1) := by decide +kernel
theorem dX5_share_15 : decode cX5_share 15 = .ok (.iconst 1, 1) := by decide +kernel
theorem dX5_share_16 : decode cX5_share 16 = .ok (.invokestatic 248, 3) := by decide +kernel
theorem dX5_share_19 : decode cX5_share 19 = .ok (.goto 4, 3) := by decide +kernel
theorem dX5_share_22 : decode cX5_share 22 = .ok (.iconst (-1), 1) := by decide +kernel
theorem dX5_share_23 : decode cX5_share 23 = .ok (.istore_n 3, 1) := by decide +kernel
theorem dX5_share_24 : decode cX5_share 24 = .ok (.iload_n 3, 1) := by decide +kernel
theorem dX5_share_25 : decode cX5_share 25 = .ok (.ifCond .ge 14, 3) := by decide +kernel
theorem dX5_share_28 : decode cX5_share 28 = .ok (.ldc2_w 276, 3) := by decide +kernel
theorem dX5_share_31 : decode cX5_share 31 = .ok (.aload_n 0, 1) := by decide +kernel
theorem dX5_share_32 : decode cX5_share 32 = .ok (.iload_n 3, 1) := by decide +kernel
theorem dX5_share_33 : decode cX5_share 33 = .ok (.invokevirtual 129, 3) := by decide +kernel
theorem dX5_share_36 : decode cX5_share 36 = .ok (.i2l, 1) := by decide +kernel
theorem dX5_share_37 : decode cX5_share 37 = .ok (.lsub, 1) := by decide +kernel
theorem dX5_share_38 : decode cX5_share 38 = .ok (.lreturn, 1) := by decide +kernel
theorem dX5_share_39 : decode cX5_share 39 = .ok (.aload_n 0, 1) := by decide +kernel
theorem dX5_share_40 : decode cX5_share 40 = .ok (.invokevirtual 123, 3) := by decide +kernel
theorem dX5_share_43 : decode cX5_share 43 = .ok (.iconst 0, 1) := by decide +kernel
theorem dX5_share_44 : decode cX5_share 44 = .ok (.istore 4, 2) := by decide +kernel
theorem dX5_share_46 : decode cX5_share 46 = .ok (.iconst 0, 1) := by decide +kernel
theorem dX5_share_47 : decode cX5_share 47 = .ok (.istore 5, 2) := by decide +kernel
theorem dX5_share_49 : decode cX5_share 49 = .ok (.iload 5, 2) := by decide +kernel
theorem dX5_share_51 : decode cX5_share 51 = .ok (.aload_n 0, 1) := by decide +kernel
theorem dX5_share_52 : decode cX5_share 52 = .ok (.getfield 84, 3) := by decide +kernel
theorem dX5_share_55 : decode cX5_share 55 = .ok (.if_icmp .ge 20, 3) := by decide +kernel
theorem dX5_share_58 : decode cX5_share 58 = .ok (.iload 4, 2) := by decide +kernel
theorem dX5_share_60 : decode cX5_share 60 = .ok (.aload_n 0, 1) := by decide +kernel
theorem dX5_share_61 : decode cX5_share 61 = .ok (.iload 5, 2) := by decide +kernel
theorem dX5_share_63 : decode cX5_share 63 = .ok (.invokevirtual 239, 3) := by decide +kernel
theorem dX5_share_66 : decode cX5_share 66 = .ok (.iadd, 1) := by decide +kernel
theorem dX5_share_67 : decode cX5_share 67 = .ok (.istore 4, 2) := by decide +kernel
theorem dX5_share_69 : decode cX5_share 69 = .ok (.iinc 5 1, 3) := by decide +kernel
theorem dX5_share_72 : decode cX5_share 72 = .ok (.goto (-23), 3) := by decide +kernel
theorem dX5_share_75 : decode cX5_share 75 = .ok (.aload_n 0, 1) := by decide +kernel
theorem dX5_share_76 : decode cX5_share 76 = .ok (.iload_n 1, 1) := by decide +kernel
theorem dX5_share_77 : decode cX5_share 77 = .ok (.invokevirtual 239, 3) := by decide +kernel
theorem dX5_share_80 : decode cX5_share 80 = .ok (.ifCond .ne 6, 3) := by decide +kernel
theorem dX5_share_83 : decode cX5_share 83 = .ok (.iload_n 2, 1) := by decide +kernel
theorem dX5_share_84 : decode cX5_share 84 = .ok (.i2l, 1) := by decide +kernel
theorem dX5_share_85 : decode cX5_share 85 = .ok (.lreturn, 1) := by decide +kernel
theorem dX5_share_86 : decode cX5_share 86 = .ok (.aload_n 0, 1) := by decide +kernel
theorem dX5_share_87 : decode cX5_share 87 = .ok (.iload_n 1, 1) := by decide +kernel
theorem dX5_share_88 : decode cX5_share 88 = .ok (.invokevirtual 239, 3) := by decide +kernel
theorem dX5_share_91 : decode cX5_share 91 = .ok (.i2l, 1) := by decide +kernel
theorem dX5_share_92 : decode cX5_share 92 = .ok (.iload 4, 2) := by decide +kernel
theorem dX5_share_94 : decode cX5_share 94 = .ok (.i2l, 1) := by decide +kernel
theorem dX5_share_95 : decode cX5_share 95 = .ok (.invokestatic 278, 3) := by decide +kernel
theorem dX5_share_98 : decode cX5_share 98 = .ok (.lstore 5, 2) := by decide +kernel
theorem dX5_share_100 : decode cX5_share 100 = .ok (.iload_n 2, 1) := by decide +kernel
theorem dX5_share_101 : decode cX5_share 101 = .ok (.ifCond .ne 15, 3) := by decide +kernel
theorem dX5_share_104 : decode cX5_share 104 = .ok (.aload_n 0, 1) := by decide +kernel
theorem dX5_share_105 : decode cX5_share 105 = .ok (.iload_n 1, 1) := by decide +kernel
theorem dX5_share_106 : decode cX5_share 106 = .ok (.invokevirtual 239, 3) := by decide +kernel
theorem dX5_share_109 : decode cX5_share 109 = .ok (.i2l, 1) := by decide +kernel
theorem dX5_share_110 : decode cX5_share 110 = .ok (.lload 5, 2) := by decide +kernel
theorem dX5_share_112 : decode cX5_share 112 = .ok (.ldiv, 1) := by decide +kernel
theorem dX5_share_113 : decode cX5_share 113 = .ok (.goto 9, 3) := by decide +kernel
theorem dX5_share_116 : decode cX5_share 116 = .ok (.iload 4, 2) := by decide +kernel
theorem dX5_share_118 : decode cX5_share 118 = .ok (.i2l, 1) := by decide +kernel
theorem dX5_share_119 : decode cX5_share 119 = .ok (.lload 5, 2) := by decide +kernel
theorem dX5_share_121 : decode cX5_share 121 = .ok (.ldiv, 1) := by decide +kernel
theorem dX5_share_122 : decode cX5_share 122 = .ok (.lreturn, 1) := by decide +kernel
theorem dX5_bridge_0 : decode cX5_bridge 0 = .ok (.aload_n 0, 1) := by decide +kernel
theorem dX5_bridge_1 : decode cX5_bridge 1 = .ok (.iconst 0, 1) := by decide +kernel
theorem dX5_bridge_2 : decode cX5_bridge 2 = .ok (.putfield 73, 3) := by decide +kernel
theorem dX5_bridge_5 : decode cX5_bridge 5 = .ok (.bipush (-9), 2) := by decide +kernel
theorem dX5_bridge_7 : decode cX5_bridge 7 = .ok (.istore_n 1, 1) := by decide +kernel
theorem dX5_bridge_8 : decode cX5_bridge 8 = .ok (.sipush 999, 3) := by decide +kernel
theorem dX5_bridge_11 : decode cX5_bridge 11 = .ok (.istore_n 2, 1) := by decide +kernel
theorem dX5_bridge_12 : decode cX5_bridge 12 = .ok (.iconst 0, 1) := by decide +kernel
theorem dX5_bridge_13 : decode cX5_bridge 13 = .ok (.istore_n 3, 1) := by decide +kernel
theorem dX5_bridge_14 : decode cX5_bridge 14 = .ok (.iload_n 3, 1) := by decide +kernel
theorem dX5_bridge_15 : decode cX5_bridge 15 = .ok (.aload_n 0, 1) := by decide +kernel
theorem dX5_bridge_16 : decode cX5_bridge 16 = .ok (.getfield 84, 3) := by decide +kernel
theorem dX5_bridge_19 : decode cX5_bridge 19 = .ok (.if_icmp .ge 78, 3) := by decide +kernel
theorem dX5_bridge_22 : decode cX5_bridge 22 = .ok (.iload_n 3, 1) := by decide +kernel
theorem dX5_bridge_23 : decode cX5_bridge 23 = .ok (.iconst 1, 1) := by decide +kernel
theorem dX5_bridge_24 : decode cX5_bridge 24 = .ok (.iadd, 1) := by decide +kernel
theorem dX5_bridge_25 : decode cX5_bridge 25 = .ok (.istore 4, 2) := by decide +kernel
theorem dX5_bridge_27 : decode cX5_bridge 27 = .ok (.iload 4, 2) := by decide +kernel
theorem dX5_bridge_29 : decode cX5_bridge 29 = .ok (.aload_n 0, 1) := by decide +kernel
theorem dX5_bridge_30 : decode cX5_bridge 30 = .ok (.getfield 84, 3) := by decide +kernel
theorem dX5_bridge_33 : decode cX5_bridge 33 = .ok (.if_icmp .ge 58, 3) := by decide +kernel
theorem dX5_bridge_36 : decode cX5_bridge 36 = .ok (.aload_n 0, 1) := by decide +kernel
theorem dX5_bridge_37 : decode cX5_bridge 37 = .ok (.iconst 1, 1) := by decide +kernel
theorem dX5_bridge_38 : decode cX5_bridge 38 = .ok (.iload_n 3, 1) := by decide +kernel
theorem dX5_bridge_39 : decode cX5_bridge 39 = .ok (.ishl, 1) := by decide +kernel
theorem dX5_bridge_40 : decode cX5_bridge 40 = .ok (.iconst 1, 1) := by decide +kernel
theorem dX5_bridge_41 : decode cX5_bridge 41 = .ok (.iload 4, 2) := by decide +kernel
theorem dX5_bridge_43 : decode cX5_bridge 43 = .ok (.ishl, 1) := by decide +kernel
theorem dX5_bridge_44 : decode cX5_bridge 44 = .ok (.ior, 1) := by decide +kernel
theorem dX5_bridge_45 : decode cX5_bridge 45 = .ok (.putfield 109, 3) := by decide +kernel
theorem dX5_bridge_48 : decode cX5_bridge 48 = .ok (.aload_n 0, 1) := by decide +kernel
theorem dX5_bridge_49 : decode cX5_bridge 49 = .ok (.invokevirtual 245, 3) := by decide +kernel
theorem dX5_bridge_52 : decode cX5_bridge 52 = .ok (.istore 5, 2) := by decide +kernel
theorem dX5_bridge_54 : decode cX5_bridge 54 = .ok (.iload 5, 2) := by decide +kernel
theorem dX5_bridge_56 : decode cX5_bridge 56 = .ok (.iload_n 2, 1) := by decide +kernel
theorem dX5_bridge_57 : decode cX5_bridge 57 = .ok (.if_icmp .ge 13, 3) := by decide +kernel
theorem dX5_bridge_60 : decode cX5_bridge 60 = .ok (.bipush 10, 2) := by decide +kernel
theorem dX5_bridge_62 : decode cX5_bridge 62 = .ok (.iload_n 3, 1) := by decide +kernel
theorem dX5_bridge_63 : decode cX5_bridge 63 = .ok (.imul, 1) := by decide +kernel
theorem dX5_bridge_64 : decode cX5_bridge 64 = .ok (.iload 4, 2) := by decide +kernel
theorem dX5_bridge_66 : decode cX5_bridge 66 = .ok (.iadd, 1) := by decide +kernel
theorem dX5_bridge_67 : decode cX5_bridge 67 = .ok (.goto 4, 3) := by decide +kernel
theorem dX5_bridge_70 : decode cX5_bridge 70 = .ok (.iload_n 1, 1) := by decide +kernel
theorem dX5_bridge_71 : decode cX5_bridge 71 = .ok (.istore_n 1, 1) := by decide +kernel
theorem dX5_bridge_72 : decode cX5_bridge 72 = .ok (.iload 5, 2) := by decide +kernel
theorem dX5_bridge_74 : decode cX5_bridge 74 = .ok (.iload_n 2, 1) := by decide +kernel
theorem dX5_bridge_75 : decode cX5_bridge 75 = .ok (.if_icmp .ge 8, 3) := by decide +kernel
theorem dX5_bridge_78 : decode cX5_bridge 78 = .ok (.iload 5, 2) := by decide +kernel
theorem dX5_bridge_80 : decode cX5_bridge 80 = .ok (.goto 4, 3) := by decide +kernel
theorem dX5_bridge_83 : decode cX5_bridge 83 = .ok (.iload_n 2, 1) := by decide +kernel
theorem dX5_bridge_84 : decode cX5_bridge 84 = .ok (.istore_n 2, 1) := by decide +kernel
theorem dX5_bridge_85 : decode cX5_bridge 85 = .ok (.iinc 4 1, 3) := by decide +kernel
theorem dX5_bridge_88 : decode cX5_bridge 88 = .ok (.goto (-61), 3) := by decide +kernel
theorem dX5_bridge_91 : decode cX5_bridge 91 = .ok (.iinc 3 1, 3) := by decide +kernel
theorem dX5_bridge_94 : decode cX5_bridge 94 = .ok (.goto (-80), 3) := by decide +kernel
theorem dX5_bridge_97 : decode cX5_bridge 97 = .ok (.aload_n 0, 1) := by decide +kernel
theorem dX5_bridge_98 : decode cX5_bridge 98 = .ok (.iconst 0, 1) := by decide +kernel
theorem dX5_bridge_99 : decode cX5_bridge 99 = .ok (.putfield 109, 3) := by decide +kernel
theorem dX5_bridge_102 : decode cX5_bridge 102 = .ok (.iload_n 1, 1) := by decide +kernel
theorem dX5_bridge_103 : decode cX5_bridge 103 = .ok (.ireturn, 1) := by decide +kernel
theorem dX5_heir_0 : decode cX5_heir 0 = .ok (.aload_n 0, 1) := by decide +kernel
theorem dX5_heir_1 : decode cX5_heir 1 = .ok (.iconst 0, 1) := by decide +kernel
theorem dX5_heir_2 : decode cX5_heir 2 = .ok (.putfield 73, 3) := by decide +kernel
theorem dX5_heir_5 : decode cX5_heir 5 = .ok (.aload_n 0, 1) := by decide +kernel
theorem dX5_heir_6 : decode cX5_heir 6 = .ok (.iload_n 1, 1) := by decide +kernel
theorem dX5_heir_7 : decode cX5_heir 7 = .ok (.invokevirtual 208, 3) := by decide +kernel
theorem dX5_heir_10 : decode cX5_heir 10 = .ok (.ifCond .ne 9, 3) := by decide +kernel
theorem dX5_heir_13 : decode cX5_heir 13 = .ok (.aload_n 0, 1) := by decide +kernel
theorem dX5_heir_14 : decode cX5_heir 14 = .ok (.iconst (-1), 1) := by decide +kernel
theorem dX5_heir_15 : decode cX5_heir 15 = .ok (.invokevirtual 129, 3) := by decide +kernel
theorem dX5_heir_18 : decode cX5_heir 18 = .ok (.ireturn, 1) := by decide +kernel
theorem dX5_heir_19 : decode cX5_heir 19 = .ok (.aload_n 0, 1) := by decide +kernel
theorem dX5_heir_20 : decode cX5_heir 20 = .ok (.getfield 25, 3) := by decide +kernel
theorem dX5_heir_23 : decode cX5_heir 23 = .ok (.iload_n 1, 1) := by decide +kernel
theorem dX5_heir_24 : decode cX5_heir 24 = .ok (.iaload, 1) := by decide +kernel
theorem dX5_heir_25 : decode cX5_heir 25 = .ok (.istore_n 2, 1) := by decide +kernel
theorem dX5_heir_26 : decode cX5_heir 26 = .ok (.iconst 0, 1) := by decide +kernel
theorem dX5_heir_27 : decode cX5_heir 27 = .ok (.istore_n 3, 1) := by decide +kernel
theorem dX5_heir_28 : decode cX5_heir 28 = .ok (.iconst (-1), 1) := by decide +kernel
theorem dX5_heir_29 : decode cX5_heir 29 = .ok (.istore 4, 2) := by decide +kernel
theorem dX5_heir_31 : decode cX5_heir 31 = .ok (.iconst 0, 1) := by decide +kernel
theorem dX5_heir_32 : decode cX5_heir 32 = .ok (.istore 5, 2) := by decide +kernel
theorem dX5_heir_34 : decode cX5_heir 34 = .ok (.iload 5, 2) := by decide +kernel
theorem dX5_heir_36 : decode cX5_heir 36 = .ok (.bipush 9, 2) := by decide +kernel
theorem dX5_heir_38 : decode cX5_heir 38 = .ok (.if_icmp .gt 60, 3) := by decide +kernel
theorem dX5_heir_41 : decode cX5_heir 41 = .ok (.aload_n 0, 1) := by decide +kernel
theorem dX5_heir_42 : decode cX5_heir 42 = .ok (.getfield 25, 3) := by decide +kernel
theorem dX5_heir_45 : decode cX5_heir 45 = .ok (.iload_n 1, 1) := by decide +kernel
theorem dX5_heir_46 : decode cX5_heir 46 = .ok (.iload 5, 2) := by decide +kernel
theorem dX5_heir_48 : decode cX5_heir 48 = .ok (.iastore, 1) := by decide +kernel
theorem dX5_heir_49 : decode cX5_heir 49 = .ok (.aload_n 0, 1) := by decide +kernel
theorem dX5_heir_50 : decode cX5_heir 50 = .ok (.invokevirtual 123, 3) := by decide +kernel
theorem dX5_heir_53 : decode cX5_heir 53 = .ok (.aload_n 0, 1) := by decide +kernel
theorem dX5_heir_54 : decode cX5_heir 54 = .ok (.iload_n 1, 1) := by decide +kernel
theorem dX5_heir_55 : decode cX5_heir 55 = .ok (.invokevirtual 239, 3) := by decide +kernel
theorem dX5_heir_58 : decode cX5_heir 58 = .ok (.iload 4, 2) := by decide +kernel
theorem dX5_heir_60 : decode cX5_heir 60 = .ok (.if_icmp .le 8, 3) := by decide +kernel
theorem dX5_heir_63 : decode cX5_heir 63 = .ok (.iload 5, 2) := by decide +kernel
theorem dX5_heir_65 : decode cX5_heir 65 = .ok (.goto 4, 3) := by decide +kernel
theorem dX5_heir_68 : decode cX5_heir 68 = .ok (.iload_n 3, 1) := by decide +kernel
theorem dX5_heir_69 : decode cX5_heir 69 = .ok (.istore_n 3, 1) := by decide +kernel
theorem dX5_heir_70 : decode cX5_heir 70 = .ok (.aload_n 0, 1) := by decide +kernel
theorem dX5_heir_71 : decode cX5_heir 71 = .ok (.iload_n 1, 1) := by decide +kernel
theorem dX5_heir_72 : decode cX5_heir 72 = .ok (.invokevirtual 239, 3) := by decide +kernel
theorem dX5_heir_75 : decode cX5_heir 75 = .ok (.iload 4, 2) := by decide +kernel
theorem dX5_heir_77 : decode cX5_heir 77 = .ok (.if_icmp .le 11, 3) := by decide +kernel
theorem dX5_heir_80 : decode cX5_heir 80 = .ok (.aload_n 0, 1) := by decide +kernel
theorem dX5_heir_81 : decode cX5_heir 81 = .ok (.iload_n 1, 1) := by decide +kernel
theorem dX5_heir_82 : decode cX5_heir 82 = .ok (.invokevirtual 239, 3) := by decide +kernel
theorem dX5_heir_85 : decode cX5_heir 85 = .ok (.goto 5, 3) := by decide +kernel
theorem dX5_heir_88 : decode cX5_heir 88 = .ok (.iload 4, 2) := by decide +kernel
theorem dX5_heir_90 : decode cX5_heir 90 = .ok (.istore 4, 2) := by decide +kernel
theorem dX5_heir_92 : decode cX5_heir 92 = .ok (.iinc 5 1, 3) := by decide +kernel
theorem dX5_heir_95 : decode cX5_heir 95 = .ok (.goto (-61), 3) := by decide +kernel
theorem dX5_heir_98 : decode cX5_heir 98 = .ok (.aload_n 0, 1) := by decide +kernel
theorem dX5_heir_99 : decode cX5_heir 99 = .ok (.getfield 25, 3) := by decide +kernel
theorem dX5_heir_102 : decode cX5_heir 102 = .ok (.iload_n 1, 1) := by decide +kernel
theorem dX5_heir_103 : decode cX5_heir 103 = .ok (.iload_n 2, 1) := by decide +kernel
theorem dX5_heir_104 : decode cX5_heir 104 = .ok (.iastore, 1) := by decide +kernel
theorem dX5_heir_105 : decode cX5_heir 105 = .ok (.iload_n 3, 1) := by decide +kernel
theorem dX5_heir_106 : decode cX5_heir 106 = .ok (.ireturn, 1) := by decide +kernel
theorem dX5_secret_0 : decode cX5_secret 0 = .ok (.aload_n 0, 1) := by decide +kernel
theorem dX5_secret_1 : decode cX5_secret 1 = .ok (.iconst 0, 1) := by decide +kernel
theorem dX5_secret_2 : decode cX5_secret 2 = .ok (.putfield 73, 3) := by decide +kernel
theorem dX5_secret_5 : decode cX5_secret 5 = .ok (.aload_n 0, 1) := by decide +kernel
theorem dX5_secret_6 : decode cX5_secret 6 = .ok (.invokevirtual 123, 3) := by decide +kernel
theorem dX5_secret_9 : decode cX5_secret 9 = .ok (.iconst 0, 1) := by decide +kernel
theorem dX5_secret_10 : decode cX5_secret 10 = .ok (.istore_n 1, 1) := by decide +kernel
theorem dX5_secret_11 : decode cX5_secret 11 = .ok (.iconst 0, 1) := by decide +kernel
theorem dX5_secret_12 : decode cX5_secret 12 = .ok (.istore_n 2, 1) := by decide +kernel
theorem dX5_secret_13 : decode cX5_secret 13 = .ok (.iload_n 2, 1) := by decide +kernel
theorem dX5_secret_14 : decode cX5_secret 14 = .ok (.bipush 10, 2) := by decide +kernel
theorem dX5_secret_16 : decode cX5_secret 16 = .ok (.if_icmp .ge 40, 3) := by decide +kernel
theorem dX5_secret_19 : decode cX5_secret 19 = .ok (.aload_n 0, 1) := by decide +kernel
theorem dX5_secret_20 : decode cX5_secret 20 = .ok (.iload_n 2, 1) := by decide +kernel
theorem dX5_secret_21 : decode cX5_secret 21 = .ok (.invokevirtual 242, 3) := by decide +kernel
theorem dX5_secret_24 : decode cX5_secret 24 = .ok (.invokestatic 120, 3) := by decide +kernel
theorem dX5_secret_27 : decode cX5_secret 27 = .ok (.istore_n 3, 1) := by decide +kernel
theorem dX5_secret_28 : decode cX5_secret 28 = .ok (.iload_n 1, 1) := by decide +kernel
theorem dX5_secret_29 : decode cX5_secret 29 = .ok (.iload_n 3, 1) := by decide +kernel
theorem dX5_secret_30 : decode cX5_secret 30 = .ok (.ifCond .le 17, 3) := by decide +kernel
theorem dX5_secret_33 : decode cX5_secret 33 = .ok (.iload_n 3, 1) := by decide +kernel
theorem dX5_secret_34 : decode cX5_secret 34 = .ok (.aload_n 0, 1) := by decide +kernel
theorem dX5_secret_35 : decode cX5_secret 35 = .ok (.getfield 77, 3) := by decide +kernel
theorem dX5_secret_38 : decode cX5_secret 38 = .ok (.if_icmp .ge 9, 3) := by decide +kernel
theorem dX5_secret_41 : decode cX5_secret 41 = .ok (.iconst 1, 1) := by decide +kernel
theorem dX5_secret_42 : decode cX5_secret 42 = .ok (.iload_n 2, 1) := by decide +kernel
theorem dX5_secret_43 : decode cX5_secret 43 = .ok (.ishl, 1) := by decide +kernel
theorem dX5_secret_44 : decode cX5_secret 44 = .ok (.goto 4, 3) := by decide +kernel
theorem dX5_secret_47 : decode cX5_secret 47 = .ok (.iconst 0, 1) := by decide +kernel
theorem dX5_secret_48 : decode cX5_secret 48 = .ok (.ior, 1) := by decide +kernel
theorem dX5_secret_49 : decode cX5_secret 49 = .ok (.istore_n 1, 1) := by decide +kernel
theorem dX5_secret_50 : decode cX5_secret 50 = .ok (.iinc 2 1, 3) := by decide +kernel
theorem dX5_secret_53 : decode cX5_secret 53 = .ok (.goto (-40), 3) := by decide +kernel
theorem dX5_secret_56 : decode cX5_secret 56 = .ok (.iload_n 1, 1) := by decide +kernel
theorem dX5_secret_57 : decode cX5_secret 57 = .ok (.ireturn, 1) := by decide +kernel
theorem dX5_synod_0 : decode cX5_synod 0 = .ok (.aload_n 0, 1) := by decide +kernel
theorem dX5_synod_1 : decode cX5_synod 1 = .ok (.iconst 0, 1) := by decide +kernel
theorem dX5_synod_2 : decode cX5_synod 2 = .ok (.putfield 73, 3) := by decide +kernel
theorem dX5_synod_5 : decode cX5_synod 5 = .ok (.aload_n 0, 1) := by decide +kernel
theorem dX5_synod_6 : decode cX5_synod 6 = .ok (.invokevirtual 123, 3) := by decide +kernel
theorem dX5_synod_9 : decode cX5_synod 9 = .ok (.iconst 0, 1) := by decide +kernel
theorem dX5_synod_10 : decode cX5_synod 10 = .ok (.istore_n 1, 1) := by decide +kernel
theorem dX5_synod_11 : decode cX5_synod 11 = .ok (.iconst 0, 1) := by decide +kernel
theorem dX5_synod_12 : decode cX5_synod 12 = .ok (.istore_n 2, 1) := by decide +kernel
theorem dX5_synod_13 : decode cX5_synod 13 = .ok (.iload_n 2, 1) := by decide +kernel
theorem dX5_synod_14 : decode cX5_synod 14 = .ok (.aload_n 0, 1) := by decide +kernel
theorem dX5_synod_15 : decode cX5_synod 15 = .ok (.getfield 77, 3) := by decide +kernel
theorem dX5_synod_18 : decode cX5_synod 18 = .ok (.if_icmp .ge 18, 3) := by decide +kernel
theorem dX5_synod_21 : decode cX5_synod 21 = .ok (.iload_n 1, 1) := by decide +kernel
theorem dX5_synod_22 : decode cX5_synod 22 = .ok (.aload_n 0, 1) := by decide +kernel
theorem dX5_synod_23 : decode cX5_synod 23 = .ok (.getfield 34, 3) := by decide +kernel
theorem dX5_synod_26 : decode cX5_synod 26 = .ok (.iload_n 2, 1) := by decide +kernel
theorem dX5_synod_27 : decode cX5_synod 27 = .ok (.iaload, 1) := by decide +kernel
theorem dX5_synod_28 : decode cX5_synod 28 = .ok (.ior, 1) := by decide +kernel
theorem dX5_synod_29 : decode cX5_synod 29 = .ok (.istore_n 1, 1) := by decide +kernel
theorem dX5_synod_30 : decode cX5_synod 30 = .ok (.iinc 2 1, 3) := by decide +kernel
theorem dX5_synod_33 : decode cX5_synod 33 = .ok (.goto (-20), 3) := by decide +kernel
theorem dX5_synod_36 : decode cX5_synod 36 = .ok (.iconst 1, 1) := by decide +kernel
theorem dX5_synod_37 : decode cX5_synod 37 = .ok (.aload_n 0, 1) := by decide +kernel
theorem dX5_synod_38 : decode cX5_synod 38 = .ok (.getfield 77, 3) := by decide +kernel
theorem dX5_synod_41 : decode cX5_synod 41 = .ok (.ishl, 1) := by decide +kernel
theorem dX5_synod_42 : decode cX5_synod 42 = .ok (.iconst 1, 1) := by decide +kernel
theorem dX5_synod_43 : decode cX5_synod 43 = .ok (.isub, 1) := by decide +kernel
theorem dX5_synod_44 : decode cX5_synod 44 = .ok (.istore_n 2, 1) := by decide +kernel
theorem dX5_synod_45 : decode cX5_synod 45 = .ok (.iload_n 2, 1) := by decide +kernel
theorem dX5_synod_46 : decode cX5_synod 46 = .ok (.istore_n 3, 1) := by decide +kernel
theorem dX5_synod_47 : decode cX5_synod 47 = .ok (.iload_n 3, 1) := by decide +kernel
theorem dX5_synod_48 : decode cX5_synod 48 = .ok (.ifCond .lt 78, 3) := by decide +kernel
theorem dX5_synod_51 : decode cX5_synod 51 = .ok (.iload_n 3, 1) := by decide +kernel
theorem dX5_synod_52 : decode cX5_synod 52 = .ok (.invokestatic 120, 3) := by decide +kernel
theorem dX5_synod_55 : decode cX5_synod 55 = .ok (.iload_n 2, 1) := by decide +kernel
theorem dX5_synod_56 : decode cX5_synod 56 = .ok (.invokestatic 120, 3) := by decide +kernel
theorem dX5_synod_59 : decode cX5_synod 59 = .ok (.if_icmp .gt 61, 3) := by decide +kernel
theorem dX5_synod_62 : decode cX5_synod 62 = .ok (.iconst 0, 1) := by decide +kernel
theorem dX5_synod_63 : decode cX5_synod 63 = .ok (.istore 4, 2) := by decide +kernel
theorem dX5_synod_65 : decode cX5_synod 65 = .ok (.iconst 0, 1) := by decide +kernel
theorem dX5_synod_66 : decode cX5_synod 66 = .ok (.istore 5, 2) := by decide +kernel
theorem dX5_synod_68 : decode cX5_synod 68 = .ok (.iload 5, 2) := by decide +kernel
theorem dX5_synod_70 : decode cX5_synod 70 = .ok (.aload_n 0, 1) := by decide +kernel
theorem dX5_synod_71 : decode cX5_synod 71 = .ok (.getfield 77, 3) := by decide +kernel
theorem dX5_synod_74 : decode cX5_synod 74 = .ok (.if_icmp .ge 34, 3) := by decide +kernel
theorem dX5_synod_77 : decode cX5_synod 77 = .ok (.iload 4, 2) := by decide +kernel
theorem dX5_synod_79 : decode cX5_synod 79 = .ok (.iload_n 3, 1) := by decide +kernel
theorem dX5_synod_80 : decode cX5_synod 80 = .ok (.iload 5, 2) := by decide +kernel
theorem dX5_synod_82 : decode cX5_synod 82 = .ok (.invokestatic 95, 3) := by decide +kernel
theorem dX5_synod_85 : decode cX5_synod 85 = .ok (.ifCond .eq 13, 3) := by decide +kernel
theorem dX5_synod_88 : decode cX5_synod 88 = .ok (.aload_n 0, 1) := by decide +kernel
theorem dX5_synod_89 : decode cX5_synod 89 = .ok (.getfield 34, 3) := by decide +kernel
theorem dX5_synod_92 : decode cX5_synod 92 = .ok (.iload 5, 2) := by decide +kernel
theorem dX5_synod_94 : decode cX5_synod 94 = .ok (.iaload, 1) := by decide +kernel
theorem dX5_synod_95 : decode cX5_synod 95 = .ok (.goto 4, 3) := by decide +kernel
theorem dX5_synod_98 : decode cX5_synod 98 = .ok (.iconst 0, 1) := by decide +kernel
theorem dX5_synod_99 : decode cX5_synod 99 = .ok (.ior, 1) := by decide +kernel
theorem dX5_synod_100 : decode cX5_synod 100 = .ok (.istore 4, 2) := by decide +kernel
theorem dX5_synod_102 : decode cX5_synod 102 = .ok (.iinc 5 1, 3) := by decide +kernel
theorem dX5_synod_105 : decode cX5_synod 105 = .ok (.goto (-37), 3) := by decide +kernel
theorem dX5_synod_108 : decode cX5_synod 108 = .ok (.iload 4, 2) := by decide +kernel
theorem dX5_synod_110 : decode cX5_synod 110 = .ok (.iload_n 1, 1) := by decide +kernel
theorem dX5_synod_111 : decode cX5_synod 111 = .ok (.if_icmp .ne 7, 3) := by decide +kernel
theorem dX5_synod_114 : decode cX5_synod 114 = .ok (.iload_n 3, 1) := by decide +kernel
theorem dX5_synod_115 : decode cX5_synod 115 = .ok (.goto 4, 3) := by decide +kernel
theorem dX5_synod_118 : decode cX5_synod 118 = .ok (.iload_n 2, 1) := by decide +kernel
theorem dX5_synod_119 : decode cX5_synod 119 = .ok (.istore_n 2, 1) := by decide +kernel
theorem dX5_synod_120 : decode cX5_synod 120 = .ok (.iinc 3 (-1), 3) := by decide +kernel
theorem dX5_synod_123 : decode cX5_synod 123 = .ok (.goto (-76), 3) := by decide +kernel
theorem dX5_synod_126 : decode cX5_synod 126 = .ok (.iload_n 2, 1) := by decide +kernel
theorem dX5_synod_127 : decode cX5_synod 127 = .ok (.ireturn, 1) := by decide +kernel
theorem dX5_row_0 : decode cX5_row 0 = .ok (.aload_n 0, 1) := by decide +kernel
theorem dX5_row_1 : decode cX5_row 1 = .ok (.iconst 0, 1) := by decide +kernel
theorem dX5_row_2 : decode cX5_row 2 = .ok (.putfield 73, 3) := by decide +kernel
theorem dX5_row_5 : decode cX5_row 5 = .ok (.iload_n 1, 1) := by decide +kernel
theorem dX5_row_6 : decode cX5_row 6 = .ok (.ifCond .ge 10, 3) := by decide +kernel
theorem dX5_row_9 : decode cX5_row 9 = .ok (.aload_n 0, 1) := by decide +kernel
theorem dX5_row_10 : decode cX5_row 10 = .ok (.bipush (-4), 2) := by decide +kernel
theorem dX5_row_12 : decode cX5_row 12 = .ok (.invokevirtual 129, 3) := by decide +kernel
theorem dX5_row_15 : decode cX5_row 15 = .ok (.ireturn, 1) := by decide +kernel
theorem dX5_row_16 : decode cX5_row 16 = .ok (.iload_n 1, 1) := by decide +kernel
theorem dX5_row_17 : decode cX5_row 17 = .ok (.bipush 99, 2) := by decide +kernel
theorem dX5_row_19 : decode cX5_row 19 = .ok (.if_icmp .gt 12, 3) := by decide +kernel
theorem dX5_row_22 : decode cX5_row 22 = .ok (.aload_n 0, 1) := by decide +kernel
theorem dX5_row_23 : decode cX5_row 23 = .ok (.getfield 270, 3) := by decide +kernel
theorem dX5_row_26 : decode cX5_row 26 = .ok (.bipush 24, 2) := by decide +kernel
theorem dX5_row_28 : decode cX5_row 28 = .ok (.if_icmp .ne 10, 3) := by decide +kernel
theorem dX5_row_31 : decode cX5_row 31 = .ok (.aload_n 0, 1) := by decide +kernel
theorem dX5_row_32 : decode cX5_row 32 = .ok (.bipush (-6), 2) := by decide +kernel
theorem dX5_row_34 : decode cX5_row 34 = .ok (.invokevirtual 129, 3) := by decide +kernel
theorem dX5_row_37 : decode cX5_row 37 = .ok (.ireturn, 1) := by decide +kernel
theorem dX5_row_38 : decode cX5_row 38 = .ok (.aload_n 0, 1) := by decide +kernel
theorem dX5_row_39 : decode cX5_row 39 = .ok (.getfield 70, 3) := by decide +kernel
theorem dX5_row_42 : decode cX5_row 42 = .ok (.aload_n 0, 1) := by decide +kernel
theorem dX5_row_43 : decode cX5_row 43 = .ok (.getfield 270, 3) := by decide +kernel
theorem dX5_row_46 : decode cX5_row 46 = .ok (.iload_n 1, 1) := by decide +kernel
theorem dX5_row_47 : decode cX5_row 47 = .ok (.iastore, 1) := by decide +kernel
theorem dX5_row_48 : decode cX5_row 48 = .ok (.aload_n 0, 1) := by decide +kernel
theorem dX5_row_49 : decode cX5_row 49 = .ok (.dup, 1) := by decide +kernel
theorem dX5_row_50 : decode cX5_row 50 = .ok (.getfield 270, 3) := by decide +kernel
theorem dX5_row_53 : decode cX5_row 53 = .ok (.iconst 1, 1) := by decide +kernel
theorem dX5_row_54 : decode cX5_row 54 = .ok (.iadd, 1) := by decide +kernel
theorem dX5_row_55 : decode cX5_row 55 = .ok (.putfield 270, 3) := by decide +kernel
theorem dX5_row_58 : decode cX5_row 58 = .ok (.aload_n 0, 1) := by decide +kernel
theorem dX5_row_59 : decode cX5_row 59 = .ok (.getfield 270, 3) := by decide +kernel
theorem dX5_row_62 : decode cX5_row 62 = .ok (.ireturn, 1) := by decide +kernel
theorem dX5_judge_0 : decode cX5_judge 0 = .ok (.aload_n 0, 1) := by decide +kernel
theorem dX5_judge_1 : decode cX5_judge 1 = .ok (.iconst 0, 1) := by decide +kernel
theorem dX5_judge_2 : decode cX5_judge 2 = .ok (.putfield 73, 3) := by decide +kernel
theorem dX5_judge_5 : decode cX5_judge 5 = .ok (.aload_n 0, 1) := by decide +kernel
theorem dX5_judge_6 : decode cX5_judge 6 = .ok (.getfield 270, 3) := by decide +kernel
theorem dX5_judge_9 : decode cX5_judge 9 = .ok (.istore_n 1, 1) := by decide +kernel
theorem dX5_judge_10 : decode cX5_judge 10 = .ok (.aload_n 0, 1) := by decide +kernel
theorem dX5_judge_11 : decode cX5_judge 11 = .ok (.iconst 0, 1) := by decide +kernel
theorem dX5_judge_12 : decode cX5_judge 12 = .ok (.putfield 270, 3) := by decide +kernel
theorem dX5_judge_15 : decode cX5_judge 15 = .ok (.aload_n 0, 1) := by decide +kernel
theorem dX5_judge_16 : decode cX5_judge 16 = .ok (.invokevirtual 123, 3) := by decide +kernel
theorem dX5_judge_19 : decode cX5_judge 19 = .ok (.iconst 0, 1) := by decide +kernel
theorem dX5_judge_20 : decode cX5_judge 20 = .ok (.istore_n 2, 1) := by decide +kernel
theorem dX5_judge_21 : decode cX5_judge 21 = .ok (.iload_n 2, 1) := by decide +kernel
theorem dX5_judge_22 : decode cX5_judge 22 = .ok (.iload_n 1, 1) := by decide +kernel
theorem dX5_judge_23 : decode cX5_judge 23 = .ok (.if_icmp .ge 29, 3) := by decide +kernel
theorem dX5_judge_26 : decode cX5_judge 26 = .ok (.aload_n 0, 1) := by decide +kernel
theorem dX5_judge_27 : decode cX5_judge 27 = .ok (.iconst (-1), 1) := by decide +kernel
theorem dX5_judge_28 : decode cX5_judge 28 = .ok (.iload_n 2, 1) := by decide +kernel
theorem dX5_judge_29 : decode cX5_judge 29 = .ok (.invokevirtual 233, 3) := by decide +kernel
theorem dX5_judge_32 : decode cX5_judge 32 = .ok (.invokestatic 120, 3) := by decide +kernel
theorem dX5_judge_35 : decode cX5_judge 35 = .ok (.aload_n 0, 1) := by decide +kernel
theorem dX5_judge_36 : decode cX5_judge 36 = .ok (.getfield 70, 3) := by decide +kernel
theorem dX5_judge_39 : decode cX5_judge 39 = .ok (.iload_n 2, 1) := by decide +kernel
theorem dX5_judge_40 : decode cX5_judge 40 = .ok (.iaload, 1) := by decide +kernel
theorem dX5_judge_41 : decode cX5_judge 41 = .ok (.if_icmp .eq 5, 3) := by decide +kernel
theorem dX5_judge_44 : decode cX5_judge 44 = .ok (.iload_n 2, 1) := by decide +kernel
theorem dX5_judge_45 : decode cX5_judge 45 = .ok (.ireturn, 1) := by decide +kernel
theorem dX5_judge_46 : decode cX5_judge 46 = .ok (.iinc 2 1, 3) := by decide +kernel
theorem dX5_judge_49 : decode cX5_judge 49 = .ok (.goto (-28), 3) := by decide +kernel
theorem dX5_judge_52 : decode cX5_judge 52 = .ok (.bipush (-9), 2) := by decide +kernel
theorem dX5_judge_54 : decode cX5_judge 54 = .ok (.ireturn, 1) := by decide +kernel
theorem dX5_clear_0 : decode cX5_clear 0 = .ok (.aload_n 0, 1) := by decide +kernel
theorem dX5_clear_1 : decode cX5_clear 1 = .ok (.iconst 0, 1) := by decide +kernel
theorem dX5_clear_2 : decode cX5_clear 2 = .ok (.putfield 73, 3) := by decide +kernel
theorem dX5_clear_5 : decode cX5_clear 5 = .ok (.aload_n 0, 1) := by decide +kernel
theorem dX5_clear_6 : decode cX5_clear 6 = .ok (.getfield 270, 3) := by decide +kernel
theorem dX5_clear_9 : decode cX5_clear 9 = .ok (.istore_n 1, 1) := by decide +kernel
theorem dX5_clear_10 : decode cX5_clear 10 = .ok (.aload_n 0, 1) := by decide +kernel
theorem dX5_clear_11 : decode cX5_clear 11 = .ok (.iconst 0, 1) := by decide +kernel
theorem dX5_clear_12 : decode cX5_clear 12 = .ok (.putfield 270, 3) := by decide +kernel
theorem dX5_clear_15 : decode cX5_clear 15 = .ok (.iload_n 1, 1) := by decide +kernel
theorem dX5_clear_16 : decode cX5_clear 16 = .ok (.ireturn, 1) := by decide +kernel
theorem dX5_drawBelow_0 : decode cX5_drawBelow 0 = .ok (.aload_n 0, 1) := by decide +kernel
theorem dX5_drawBelow_1 : decode cX5_drawBelow 1 = .ok (.aload_n 0, 1) := by decide +kernel
theorem dX5_drawBelow_2 : decode cX5_drawBelow 2 = .ok (.getfield 282, 3) := by decide +kernel
theorem dX5_drawBelow_5 : decode cX5_drawBelow 5 = .ok (.ldc_w 285, 3) := by decide +kernel
theorem dX5_drawBelow_8 : decode cX5_drawBelow 8 = .ok (.imul, 1) := by decide +kernel
theorem dX5_drawBelow_9 : decode cX5_drawBelow 9 = .ok (.sipush 12345, 3) := by decide +kernel
theorem dX5_drawBelow_12 : decode cX5_drawBelow 12 = .ok (.iadd, 1) := by decide +kernel
theorem dX5_drawBelow_13 : decode cX5_drawBelow 13 = .ok (.putfield 282, 3) := by decide +kernel
theorem dX5_drawBelow_16 : decode cX5_drawBelow 16 = .ok (.aload_n 0, 1) := by decide +kernel
theorem dX5_drawBelow_17 : decode cX5_drawBelow 17 = .ok (.getfield 282, 3) := by decide +kernel
theorem dX5_drawBelow_20 : decode cX5_drawBelow 20 = .ok (.ldc_w 286, 3) := by decide +kernel
theorem dX5_drawBelow_23 : decode cX5_drawBelow 23 = .ok (.iand, 1) := by decide +kernel
theorem dX5_drawBelow_24 : decode cX5_drawBelow 24 = .ok (.ldc_w 287, 3) := by decide +kernel
theorem dX5_drawBelow_27 : decode cX5_drawBelow 27 = .ok (.idiv, 1) := by decide +kernel
theorem dX5_drawBelow_28 : decode cX5_drawBelow 28 = .ok (.iload_n 1, 1) := by decide +kernel
theorem dX5_drawBelow_29 : decode cX5_drawBelow 29 = .ok (.irem, 1) := by decide +kernel
theorem dX5_drawBelow_30 : decode cX5_drawBelow 30 = .ok (.ireturn, 1) := by decide +kernel
theorem dX5_lots_0 : decode cX5_lots 0 = .ok (.aload_n 0, 1) := by decide +kernel
theorem dX5_lots_1 : decode cX5_lots 1 = .ok (.iconst 0, 1) := by decide +kernel
theorem dX5_lots_2 : decode cX5_lots 2 = .ok (.putfield 73, 3) := by decide +kernel
theorem dX5_lots_5 : decode cX5_lots 5 = .ok (.iload_n 1, 1) := by decide +kernel
theorem dX5_lots_6 : decode cX5_lots 6 = .ok (.iconst 1, 1) := by decide +kernel
theorem dX5_lots_7 : decode cX5_lots 7 = .ok (.bipush 20, 2) := by decide +kernel
theorem dX5_lots_9 : decode cX5_lots 9 = .ok (.invokestatic 213, 3) := by decide +kernel
theorem dX5_lots_12 : decode cX5_lots 12 = .ok (.iload_n 3, 1) := by decide +kernel
theorem dX5_lots_13 : decode cX5_lots 13 = .ok (.iconst 1, 1) := by decide +kernel
theorem dX5_lots_14 : decode cX5_lots 14 = .ok (.invokestatic 248, 3) := by decide +kernel
theorem dX5_lots_17 : decode cX5_lots 17 = .ok (.istore 4, 2) := by decide +kernel
theorem dX5_lots_19 : decode cX5_lots 19 = .ok (.iload 4, 2) := by decide +kernel
theorem dX5_lots_21 : decode cX5_lots 21 = .ok (.ifCond .ge 10, 3) := by decide +kernel
theorem dX5_lots_24 : decode cX5_lots 24 = .ok (.aload_n 0, 1) := by decide +kernel
theorem dX5_lots_25 : decode cX5_lots 25 = .ok (.iload 4, 2) := by decide +kernel
theorem dX5_lots_27 : decode cX5_lots 27 = .ok (.invokevirtual 129, 3) := by decide +kernel
theorem dX5_lots_30 : decode cX5_lots 30 = .ok (.ireturn, 1) := by decide +kernel
theorem dX5_lots_31 : decode cX5_lots 31 = .ok (.aload_n 0, 1) := by decide +kernel
theorem dX5_lots_32 : decode cX5_lots 32 = .ok (.iload_n 2, 1) := by decide +kernel
theorem dX5_lots_33 : decode cX5_lots 33 = .ok (.putfield 282, 3) := by decide +kernel
theorem dX5_lots_36 : decode cX5_lots 36 = .ok (.iconst 0, 1) := by decide +kernel
theorem dX5_lots_37 : decode cX5_lots 37 = .ok (.istore 5, 2) := by decide +kernel
theorem dX5_lots_39 : decode cX5_lots 39 = .ok (.iconst 0, 1) := by decide +kernel
theorem dX5_lots_40 : decode cX5_lots 40 = .ok (.istore 6, 2) := by decide +kernel
theorem dX5_lots_42 : decode cX5_lots 42 = .ok (.aload_n 0, 1) := by decide +kernel
theorem dX5_lots_43 : decode cX5_lots 43 = .ok (.invokevirtual 254, 3) := by decide +kernel
theorem dX5_lots_46 : decode cX5_lots 46 = .ok (.iconst 0, 1) := by decide +kernel
theorem dX5_lots_47 : decode cX5_lots 47 = .ok (.istore 7, 2) := by decide +kernel
theorem dX5_lots_49 : decode cX5_lots 49 = .ok (.iload 7, 2) := by decide +kernel
theorem dX5_lots_51 : decode cX5_lots 51 = .ok (.iload_n 1, 1) := by decide +kernel
theorem dX5_lots_52 : decode cX5_lots 52 = .ok (.if_icmp .ge 165, 3) := by decide +kernel
theorem dX5_lots_55 : decode cX5_lots 55 = .ok (.iconst 0, 1) := by decide +kernel
theorem dX5_lots_56 : decode cX5_lots 56 = .ok (.istore 8, 2) := by decide +kernel
theorem dX5_lots_58 : decode cX5_lots 58 = .ok (.iload 8, 2) := by decide +kernel
theorem dX5_lots_60 : decode cX5_lots 60 = .ok (.aload_n 0, 1) := by decide +kernel
theorem dX5_lots_61 : decode cX5_lots 61 = .ok (.getfield 77, 3) := by decide +kernel
theorem dX5_lots_64 : decode cX5_lots 64 = .ok (.if_icmp .ge 77, 3) := by decide +kernel
theorem dX5_lots_67 : decode cX5_lots 67 = .ok (.aload_n 0, 1) := by decide +kernel
theorem dX5_lots_68 : decode cX5_lots 68 = .ok (.bipush 24, 2) := by decide +kernel
theorem dX5_lots_70 : decode cX5_lots 70 = .ok (.invokevirtual 288, 3) := by decide +kernel
theorem dX5_lots_73 : decode cX5_lots 73 = .ok (.istore 9, 2) := by decide +kernel
theorem dX5_lots_75 : decode cX5_lots 75 = .ok (.aload_n 0, 1) := by decide +kernel
theorem dX5_lots_76 : decode cX5_lots 76 = .ok (.bipush 24, 2) := by decide +kernel
theorem dX5_lots_78 : decode cX5_lots 78 = .ok (.invokevirtual 288, 3) := by decide +kernel
theorem dX5_lots_81 : decode cX5_lots 81 = .ok (.istore 10, 2) := by decide +kernel
theorem dX5_lots_83 : decode cX5_lots 83 = .ok (.iload 9, 2) := by decide +kernel
theorem dX5_lots_85 : decode cX5_lots 85 = .ok (.iload 10, 2) := by decide +kernel
theorem dX5_lots_87 : decode cX5_lots 87 = .ok (.if_icmp .ge 8, 3) := by decide +kernel
theorem dX5_lots_90 : decode cX5_lots 90 = .ok (.iload 9, 2) := by decide +kernel
theorem dX5_lots_92 : decode cX5_lots 92 = .ok (.goto 5, 3) := by decide +kernel
theorem dX5_lots_95 : decode cX5_lots 95 = .ok (.iload 10, 2) := by decide +kernel
theorem dX5_lots_97 : decode cX5_lots 97 = .ok (.istore 11, 2) := by decide +kernel
theorem dX5_lots_99 : decode cX5_lots 99 = .ok (.iload 9, 2) := by decide +kernel
theorem dX5_lots_101 : decode cX5_lots 101 = .ok (.iload 10, 2) := by decide +kernel
theorem dX5_lots_103 : decode cX5_lots 103 = .ok (.if_icmp .ge 8, 3) := by decide +kernel
theorem dX5_lots_106 : decode cX5_lots 106 = .ok (.iload 10, 2) := by decide +kernel
theorem dX5_lots_108 : decode cX5_lots 108 = .ok (.goto 5, 3) := by decide +kernel
theorem dX5_lots_111 : decode cX5_lots 111 = .ok (.iload 9, 2) := by decide +kernel
theorem dX5_lots_113 : decode cX5_lots 113 = .ok (.istore 12, 2) := by decide +kernel
theorem dX5_lots_115 : decode cX5_lots 115 = .ok (.aload_n 0, 1) := by decide +kernel
theorem dX5_lots_116 : decode cX5_lots 116 = .ok (.getfield 13, 3) := by decide +kernel
theorem dX5_lots_119 : decode cX5_lots 119 = .ok (.iload 8, 2) := by decide +kernel
theorem dX5_lots_121 : decode cX5_lots 121 = .ok (.iconst 0, 1) := by decide +kernel
theorem dX5_lots_122 : decode cX5_lots 122 = .ok (.iastore, 1) := by decide +kernel
theorem dX5_lots_123 : decode cX5_lots 123 = .ok (.aload_n 0, 1) := by decide +kernel
theorem dX5_lots_124 : decode cX5_lots 124 = .ok (.iload 8, 2) := by decide +kernel
theorem dX5_lots_126 : decode cX5_lots 126 = .ok (.iload 11, 2) := by decide +kernel
theorem dX5_lots_128 : decode cX5_lots 128 = .ok (.iload 12, 2) := by decide +kernel
theorem dX5_lots_130 : decode cX5_lots 130 = .ok (.iconst 1, 1) := by decide +kernel
theorem dX5_lots_131 : decode cX5_lots 131 = .ok (.invokevirtual 174, 3) := by decide +kernel
theorem dX5_lots_134 : decode cX5_lots 134 = .ok (.pop, 1) := by decide +kernel
theorem dX5_lots_135 : decode cX5_lots 135 = .ok (.iinc 8 1, 3) := by decide +kernel
theorem dX5_lots_138 : decode cX5_lots 138 = .ok (.goto (-80), 3) := by decide +kernel
theorem dX5_lots_141 : decode cX5_lots 141 = .ok (.iload 5, 2) := by decide +kernel
theorem dX5_lots_143 : decode cX5_lots 143 = .ok (.aload_n 0, 1) := by decide +kernel
theorem dX5_lots_144 : decode cX5_lots 144 = .ok (.invokevirtual 245, 3) := by decide +kernel
theorem dX5_lots_147 : decode cX5_lots 147 = .ok (.iadd, 1) := by decide +kernel
theorem dX5_lots_148 : decode cX5_lots 148 = .ok (.istore 5, 2) := by decide +kernel
theorem dX5_lots_150 : decode cX5_lots 150 = .ok (.aload_n 0, 1) := by decide +kernel
theorem dX5_lots_151 : decode cX5_lots 151 = .ok (.getfield 77, 3) := by decide +kernel
theorem dX5_lots_154 : decode cX5_lots 154 = .ok (.ifCond .ne 7, 3) := by decide +kernel
theorem dX5_lots_157 : decode cX5_lots 157 = .ok (.iconst 0, 1) := by decide +kernel
theorem dX5_lots_158 : decode cX5_lots 158 = .ok (.goto 6, 3) := by decide +kernel
theorem dX5_lots_161 : decode cX5_lots 161 = .ok (.sipush 1023, 3) := by decide +kernel
theorem dX5_lots_164 : decode cX5_lots 164 = .ok (.istore 8, 2) := by decide +kernel
theorem dX5_lots_166 : decode cX5_lots 166 = .ok (.iconst 0, 1) := by decide +kernel
theorem dX5_lots_167 : decode cX5_lots 167 = .ok (.istore 9, 2) := by decide +kernel
theorem dX5_lots_169 : decode cX5_lots 169 = .ok (.iload 9, 2) := by decide +kernel
theorem dX5_lots_171 : decode cX5_lots 171 = .ok (.aload_n 0, 1) := by decide +kernel
theorem dX5_lots_172 : decode cX5_lots 172 = .ok (.getfield 77, 3) := by decide +kernel
theorem dX5_lots_175 : decode cX5_lots 175 = .ok (.if_icmp .ge 21, 3) := by decide +kernel
theorem dX5_lots_178 : decode cX5_lots 178 = .ok (.iload 8, 2) := by decide +kernel
theorem dX5_lots_180 : decode cX5_lots 180 = .ok (.aload_n 0, 1) := by decide +kernel
theorem dX5_lots_181 : decode cX5_lots 181 = .ok (.getfield 34, 3) := by decide +kernel
theorem dX5_lots_184 : decode cX5_lots 184 = .ok (.iload 9, 2) := by decide +kernel
theorem dX5_lots_186 : decode cX5_lots 186 = .ok (.iaload, 1) := by decide +kernel
theorem dX5_lots_187 : decode cX5_lots 187 = .ok (.iand, 1) := by decide +kernel
theorem dX5_lots_188 : decode cX5_lots 188 = .ok (.istore 8, 2) := by decide +kernel
theorem dX5_lots_190 : decode cX5_lots 190 = .ok (.iinc 9 1, 3) := by decide +kernel
theorem dX5_lots_193 : decode cX5_lots 193 = .ok (.goto (-24), 3) := by decide +kernel
theorem dX5_lots_196 : decode cX5_lots 196 = .ok (.iload 6, 2) := by decide +kernel
theorem dX5_lots_198 : decode cX5_lots 198 = .ok (.iload 8, 2) := by decide +kernel
theorem dX5_lots_200 : decode cX5_lots 200 = .ok (.ifCond .ne 7, 3) := by decide +kernel
theorem dX5_lots_203 : decode cX5_lots 203 = .ok (.iconst 0, 1) := by decide +kernel
theorem dX5_lots_204 : decode cX5_lots 204 = .ok (.goto 4, 3) := by decide +kernel
theorem dX5_lots_207 : decode cX5_lots 207 = .ok (.iconst 1, 1) := by decide +kernel
theorem dX5_lots_208 : decode cX5_lots 208 = .ok (.iadd, 1) := by decide +kernel
theorem dX5_lots_209 : decode cX5_lots 209 = .ok (.istore 6, 2) := by decide +kernel
theorem dX5_lots_211 : decode cX5_lots 211 = .ok (.iinc 7 1, 3) := by decide +kernel
theorem dX5_lots_214 : decode cX5_lots 214 = .ok (.goto (-165), 3) := by decide +kernel
theorem dX5_lots_217 : decode cX5_lots 217 = .ok (.aload_n 0, 1) := by decide +kernel
theorem dX5_lots_218 : decode cX5_lots 218 = .ok (.invokevirtual 260, 3) := by decide +kernel
theorem dX5_lots_221 : decode cX5_lots 221 = .ok (.iload_n 3, 1) := by decide +kernel
theorem dX5_lots_222 : decode cX5_lots 222 = .ok (.ifCond .ne 8, 3) := by decide +kernel
theorem dX5_lots_225 : decode cX5_lots 225 = .ok (.iload 5, 2) := by decide +kernel
theorem dX5_lots_227 : decode cX5_lots 227 = .ok (.goto 5, 3) := by decide +kernel
theorem dX5_lots_230 : decode cX5_lots 230 = .ok (.iload 6, 2) := by decide +kernel
theorem dX5_lots_232 : decode cX5_lots 232 = .ok (.ireturn, 1) := by decide +kernel
theorem dX5_count_0 : decode cX5_count 0 = .ok (.aload_n 0, 1) := by decide +kernel
theorem dX5_count_1 : decode cX5_count 1 = .ok (.iconst 0, 1) := by decide +kernel
theorem dX5_count_2 : decode cX5_count 2 = .ok (.putfield 73, 3) := by decide +kernel
theorem dX5_count_5 : decode cX5_count 5 = .ok (.iconst 0, 1) := by decide +kernel
theorem dX5_count_6 : decode cX5_count 6 = .ok (.istore_n 2, 1) := by decide +kernel
theorem dX5_count_7 : decode cX5_count 7 = .ok (.iload_n 1, 1) := by decide +kernel
theorem dX5_count_8 : decode cX5_count 8 = .ok (.tableswitch 141 0 7 #[48, 53, 58, 66, 96, 126, 131, 136], 48) := by decide +kernel
theorem dX5_count_56 : decode cX5_count 56 = .ok (.aload_n 0, 1) := by decide +kernel
theorem dX5_count_57 : decode cX5_count 57 = .ok (.getfield 77, 3) := by decide +kernel
theorem dX5_count_60 : decode cX5_count 60 = .ok (.ireturn, 1) := by decide +kernel
theorem dX5_count_61 : decode cX5_count 61 = .ok (.aload_n 0, 1) := by decide +kernel
theorem dX5_count_62 : decode cX5_count 62 = .ok (.getfield 84, 3) := by decide +kernel
theorem dX5_count_65 : decode cX5_count 65 = .ok (.ireturn, 1) := by decide +kernel
theorem dX5_count_66 : decode cX5_count 66 = .ok (.aload_n 0, 1) := by decide +kernel
theorem dX5_count_67 : decode cX5_count 67 = .ok (.invokevirtual 251, 3) := by decide +kernel
theorem dX5_count_70 : decode cX5_count 70 = .ok (.invokestatic 120, 3) := by decide +kernel
theorem dX5_count_73 : decode cX5_count 73 = .ok (.ireturn, 1) := by decide +kernel
theorem dX5_count_74 : decode cX5_count 74 = .ok (.iconst 0, 1) := by decide +kernel
theorem dX5_count_75 : decode cX5_count 75 = .ok (.istore_n 3, 1) := by decide +kernel
theorem dX5_count_76 : decode cX5_count 76 = .ok (.iload_n 3, 1) := by decide +kernel
theorem dX5_count_77 : decode cX5_count 77 = .ok (.aload_n 0, 1) := by decide +kernel
theorem dX5_count_78 : decode cX5_count 78 = .ok (.getfield 77, 3) := by decide +kernel
theorem dX5_count_81 : decode cX5_count 81 = .ok (.if_icmp .ge 21, 3) := by decide +kernel
theorem dX5_count_84 : decode cX5_count 84 = .ok (.iload_n 2, 1) := by decide +kernel
theorem dX5_count_85 : decode cX5_count 85 = .ok (.aload_n 0, 1) := by decide +kernel
theorem dX5_count_86 : decode cX5_count 86 = .ok (.getfield 13, 3) := by decide +kernel
theorem dX5_count_89 : decode cX5_count 89 = .ok (.iload_n 3, 1) := by decide +kernel
theorem dX5_count_90 : decode cX5_count 90 = .ok (.iaload, 1) := by decide +kernel
theorem dX5_count_91 : decode cX5_count 91 = .ok (.invokestatic 120, 3) := by decide +kernel
theorem dX5_count_94 : decode cX5_count 94 = .ok (.iadd, 1) := by decide +kernel
theorem dX5_count_95 : decode cX5_count 95 = .ok (.istore_n 2, 1) := by decide +kernel
theorem dX5_count_96 : decode cX5_count 96 = .ok (.iinc 3 1, 3) := by decide +kernel
theorem dX5_count_99 : decode cX5_count 99 = .ok (.goto (-23), 3) := by decide +kernel
theorem dX5_count_102 : decode cX5_count 102 = .ok (.iload_n 2, 1) := by decide +kernel
theorem dX5_count_103 : decode cX5_count 103 = .ok (.ireturn, 1) := by decide +kernel
theorem dX5_count_104 : decode cX5_count 104 = .ok (.iconst 0, 1) := by decide +kernel
theorem dX5_count_105 : decode cX5_count 105 = .ok (.istore_n 3, 1) := by decide +kernel
theorem dX5_count_106 : decode cX5_count 106 = .ok (.iload_n 3, 1) := by decide +kernel
theorem dX5_count_107 : decode cX5_count 107 = .ok (.aload_n 0, 1) := by decide +kernel
theorem dX5_count_108 : decode cX5_count 108 = .ok (.getfield 77, 3) := by decide +kernel
theorem dX5_count_111 : decode cX5_count 111 = .ok (.if_icmp .ge 21, 3) := by decide +kernel
theorem dX5_count_114 : decode cX5_count 114 = .ok (.iload_n 2, 1) := by decide +kernel
theorem dX5_count_115 : decode cX5_count 115 = .ok (.aload_n 0, 1) := by decide +kernel
theorem dX5_count_116 : decode cX5_count 116 = .ok (.getfield 19, 3) := by decide +kernel
theorem dX5_count_119 : decode cX5_count 119 = .ok (.iload_n 3, 1) := by decide +kernel
theorem dX5_count_120 : decode cX5_count 120 = .ok (.iaload, 1) := by decide +kernel
theorem dX5_count_121 : decode cX5_count 121 = .ok (.invokestatic 120, 3) := by decide +kernel
theorem dX5_count_124 : decode cX5_count 124 = .ok (.iadd, 1) := by decide +kernel
theorem dX5_count_125 : decode cX5_count 125 = .ok (.istore_n 2, 1) := by decide +kernel
theorem dX5_count_126 : decode cX5_count 126 = .ok (.iinc 3 1, 3) := by decide +kernel
theorem dX5_count_129 : decode cX5_count 129 = .ok (.goto (-23), 3) := by decide +kernel
theorem dX5_count_132 : decode cX5_count 132 = .ok (.iload_n 2, 1) := by decide +kernel
theorem dX5_count_133 : decode cX5_count 133 = .ok (.ireturn, 1) := by decide +kernel
theorem dX5_count_134 : decode cX5_count 134 = .ok (.aload_n 0, 1) := by decide +kernel
theorem dX5_count_135 : decode cX5_count 135 = .ok (.getfield 132, 3) := by decide +kernel
theorem dX5_count_138 : decode cX5_count 138 = .ok (.ireturn, 1) := by decide +kernel
theorem dX5_count_139 : decode cX5_count 139 = .ok (.aload_n 0, 1) := by decide +kernel
theorem dX5_count_140 : decode cX5_count 140 = .ok (.getfield 270, 3) := by decide +kernel
theorem dX5_count_143 : decode cX5_count 143 = .ok (.ireturn, 1) := by decide +kernel
theorem dX5_count_144 : decode cX5_count 144 = .ok (.aload_n 0, 1) := by decide +kernel
theorem dX5_count_145 : decode cX5_count 145 = .ok (.getfield 188, 3) := by decide +kernel
theorem dX5_count_148 : decode cX5_count 148 = .ok (.ireturn, 1) := by decide +kernel
theorem dX5_count_149 : decode cX5_count 149 = .ok (.iload_n 1, 1) := by decide +kernel
theorem dX5_count_150 : decode cX5_count 150 = .ok (.i2l, 1) := by decide +kernel
theorem dX5_count_151 : decode cX5_count 151 = .ok (.ldc2_w 291, 3) := by decide +kernel
theorem dX5_count_154 : decode cX5_count 154 = .ok (.ldc2_w 293, 3) := by decide +kernel
theorem dX5_count_157 : decode cX5_count 157 = .ok (.invokestatic 80, 3) := by decide +kernel
theorem dX5_count_160 : decode cX5_count 160 = .ok (.ifCond .eq 15, 3) := by decide +kernel
theorem dX5_count_163 : decode cX5_count 163 = .ok (.aload_n 0, 1) := by decide +kernel
theorem dX5_count_164 : decode cX5_count 164 = .ok (.getfield 31, 3) := by decide +kernel
theorem dX5_count_167 : decode cX5_count 167 = .ok (.iload_n 1, 1) := by decide +kernel
theorem dX5_count_168 : decode cX5_count 168 = .ok (.bipush 10, 2) := by decide +kernel
theorem dX5_count_170 : decode cX5_count 170 = .ok (.isub, 1) := by decide +kernel
theorem dX5_count_171 : decode cX5_count 171 = .ok (.iaload, 1) := by decide +kernel
theorem dX5_count_172 : decode cX5_count 172 = .ok (.goto 5, 3) := by decide +kernel
theorem dX5_count_175 : decode cX5_count 175 = .ok (.bipush (-9), 2) := by decide +kernel
theorem dX5_count_177 : decode cX5_count 177 = .ok (.ireturn, 1) := by decide +kernel
