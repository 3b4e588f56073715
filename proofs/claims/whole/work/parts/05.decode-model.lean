theorem dX2_init_0 : decode cX2_init 0 = .ok (.aload_n 0, 1) := by decide +kernel
theorem dX2_init_1 : decode cX2_init 1 = .ok (.invokespecial 1, 3) := by decide +kernel
theorem dX2_init_4 : decode cX2_init 4 = .ok (.aload_n 0, 1) := by decide +kernel
theorem dX2_init_5 : decode cX2_init 5 = .ok (.sipush 2048, 3) := by decide +kernel
theorem dX2_init_8 : decode cX2_init 8 = .ok (.newarray .int, 2) := by decide +kernel
theorem dX2_init_10 : decode cX2_init 10 = .ok (.putfield 7, 3) := by decide +kernel
theorem dX2_init_13 : decode cX2_init 13 = .ok (.aload_n 0, 1) := by decide +kernel
theorem dX2_init_14 : decode cX2_init 14 = .ok (.bipush 32, 2) := by decide +kernel
theorem dX2_init_16 : decode cX2_init 16 = .ok (.newarray .int, 2) := by decide +kernel
theorem dX2_init_18 : decode cX2_init 18 = .ok (.putfield 13, 3) := by decide +kernel
theorem dX2_init_21 : decode cX2_init 21 = .ok (.aload_n 0, 1) := by decide +kernel
theorem dX2_init_22 : decode cX2_init 22 = .ok (.bipush 16, 2) := by decide +kernel
theorem dX2_init_24 : decode cX2_init 24 = .ok (.newarray .int, 2) := by decide +kernel
theorem dX2_init_26 : decode cX2_init 26 = .ok (.putfield 16, 3) := by decide +kernel
theorem dX2_init_29 : decode cX2_init 29 = .ok (.aload_n 0, 1) := by decide +kernel
theorem dX2_init_30 : decode cX2_init 30 = .ok (.iconst 4, 1) := by decide +kernel
theorem dX2_init_31 : decode cX2_init 31 = .ok (.newarray .int, 2) := by decide +kernel
theorem dX2_init_33 : decode cX2_init 33 = .ok (.putfield 19, 3) := by decide +kernel
theorem dX2_init_36 : decode cX2_init 36 = .ok (.aload_n 0, 1) := by decide +kernel
theorem dX2_init_37 : decode cX2_init 37 = .ok (.iconst 4, 1) := by decide +kernel
theorem dX2_init_38 : decode cX2_init 38 = .ok (.newarray .int, 2) := by decide +kernel
theorem dX2_init_40 : decode cX2_init 40 = .ok (.putfield 22, 3) := by decide +kernel
theorem dX2_init_43 : decode cX2_init 43 = .ok (.aload_n 0, 1) := by decide +kernel
theorem dX2_init_44 : decode cX2_init 44 = .ok (.iconst 4, 1) := by decide +kernel
theorem dX2_init_45 : decode cX2_init 45 = .ok (.newarray .int, 2) := by decide +kernel
theorem dX2_init_47 : decode cX2_init 47 = .ok (.putfield 25, 3) := by decide +kernel
theorem dX2_init_50 : decode cX2_init 50 = .ok (.aload_n 0, 1) := by decide +kernel
theorem dX2_init_51 : decode cX2_init 51 = .ok (.iconst 4, 1) := by decide +kernel
theorem dX2_init_52 : decode cX2_init 52 = .ok (.newarray .int, 2) := by decide +kernel
theorem dX2_init_54 : decode cX2_init 54 = .ok (.putfield 28, 3) := by decide +kernel
theorem dX2_init_57 : decode cX2_init 57 = .ok (.aload_n 0, 1) := by decide +kernel
theorem dX2_init_58 : decode cX2_init 58 = .ok (.iconst 4, 1) := by decide +kernel
theorem dX2_init_59 : decode cX2_init 59 = .ok (.newarray .int, 2) := by decide +kernel
theorem dX2_init_61 : decode cX2_init 61 = .ok (.putfield 31, 3) := by decide +kernel
theorem dX2_init_64 : decode cX2_init 64 = .ok (.aload_n 0, 1) := by decide +kernel
theorem dX2_init_65 : decode cX2_init 65 = .ok (.iconst 4, 1) := by decide +kernel
theorem dX2_init_66 : decode cX2_init 66 = .ok (.newarray .int, 2) := by decide +kernel
theorem dX2_init_68 : decode cX2_init 68 = .ok (.putfield 34, 3) := by decide +kernel
theorem dX2_init_71 : decode cX2_init 71 = .ok (.aload_n 0, 1) := by decide +kernel
theorem dX2_init_72 : decode cX2_init 72 = .ok (.iconst 4, 1) := by decide +kernel
theorem dX2_init_73 : decode cX2_init 73 = .ok (.newarray .int, 2) := by decide +kernel
theorem dX2_init_75 : decode cX2_init 75 = .ok (.putfield 37, 3) := by decide +kernel
theorem dX2_init_78 : decode cX2_init 78 = .ok (.iconst 0, 1) := by decide +kernel
theorem dX2_init_79 : decode cX2_init 79 = .ok (.istore_n 1, 1) := by decide +kernel
theorem dX2_init_80 : decode cX2_init 80 = .ok (.iload_n 1, 1) := by decide +kernel
theorem dX2_init_81 : decode cX2_init 81 = .ok (.iconst 4, 1) := by decide +kernel
theorem dX2_init_82 : decode cX2_init 82 = .ok (.if_icmp .ge 21, 3) := by decide +kernel
theorem dX2_init_85 : decode cX2_init 85 = .ok (.aload_n 0, 1) := by decide +kernel
theorem dX2_init_86 : decode cX2_init 86 = .ok (.getfield 13, 3) := by decide +kernel
theorem dX2_init_89 : decode cX2_init 89 = .ok (.bipush 8, 2) := by decide +kernel
theorem dX2_init_91 : decode cX2_init 91 = .ok (.iload_n 1, 1) := by decide +kernel
theorem dX2_init_92 : decode cX2_init 92 = .ok (.imul, 1) := by decide +kernel
theorem dX2_init_93 : decode cX2_init 93 = .ok (.iconst 3, 1) := by decide +kernel
theorem dX2_init_94 : decode cX2_init 94 = .ok (.iadd, 1) := by decide +kernel
theorem dX2_init_95 : decode cX2_init 95 = .ok (.iconst 1, 1) := by decide +kernel
theorem dX2_init_96 : decode cX2_init 96 = .ok (.iastore, 1) := by decide +kernel
theorem dX2_init_97 : decode cX2_init 97 = .ok (.iinc 1 1, 3) := by decide +kernel
theorem dX2_init_100 : decode cX2_init 100 = .ok (.goto (-20), 3) := by decide +kernel
theorem dX2_init_103 : decode cX2_init 103 = .ok (.return_, 1) := by decide +kernel
theorem dX2_thrown_0 : decode cX2_thrown 0 = .ok (.aload_n 0, 1) := by decide +kernel
theorem dX2_thrown_1 : decode cX2_thrown 1 = .ok (.getfield 40, 3) := by decide +kernel
theorem dX2_thrown_4 : decode cX2_thrown 4 = .ok (.ireturn, 1) := by decide +kernel
theorem dX2_refuse_0 : decode cX2_refuse 0 = .ok (.aload_n 0, 1) := by decide +kernel
theorem dX2_refuse_1 : decode cX2_refuse 1 = .ok (.iload_n 1, 1) := by decide +kernel
theorem dX2_refuse_2 : decode cX2_refuse 2 = .ok (.ifCond .eq 7, 3) := by decide +kernel
theorem dX2_refuse_5 : decode cX2_refuse 5 = .ok (.iconst 1, 1) := by decide +kernel
theorem dX2_refuse_6 : decode cX2_refuse 6 = .ok (.goto 12, 3) := by decide +kernel
theorem dX2_refuse_9 : decode cX2_refuse 9 = .ok (.iload_n 2, 1) := by decide +kernel
theorem dX2_refuse_10 : decode cX2_refuse 10 = .ok (.ifCond .eq 7, 3) := by decide +kernel
theorem dX2_refuse_13 : decode cX2_refuse 13 = .ok (.iconst 2, 1) := by decide +kernel
theorem dX2_refuse_14 : decode cX2_refuse 14 = .ok (.goto 4, 3) := by decide +kernel
theorem dX2_refuse_17 : decode cX2_refuse 17 = .ok (.iconst 0, 1) := by decide +kernel
theorem dX2_refuse_18 : decode cX2_refuse 18 = .ok (.putfield 40, 3) := by decide +kernel
theorem dX2_refuse_21 : decode cX2_refuse 21 = .ok (.aload_n 0, 1) := by decide +kernel
theorem dX2_refuse_22 : decode cX2_refuse 22 = .ok (.getfield 40, 3) := by decide +kernel
theorem dX2_refuse_25 : decode cX2_refuse 25 = .ok (.ifCond .le 7, 3) := by decide +kernel
theorem dX2_refuse_28 : decode cX2_refuse 28 = .ok (.iconst 1, 1) := by decide +kernel
theorem dX2_refuse_29 : decode cX2_refuse 29 = .ok (.goto 4, 3) := by decide +kernel
theorem dX2_refuse_32 : decode cX2_refuse 32 = .ok (.iconst 0, 1) := by decide +kernel
theorem dX2_refuse_33 : decode cX2_refuse 33 = .ok (.ireturn, 1) := by decide +kernel
theorem dX2_in_0 : decode cX2_in 0 = .ok (.iload_n 0, 1) := by decide +kernel
theorem dX2_in_1 : decode cX2_in 1 = .ok (.iload_n 1, 1) := by decide +kernel
theorem dX2_in_2 : decode cX2_in 2 = .ok (.if_icmp .lt 12, 3) := by decide +kernel
theorem dX2_in_5 : decode cX2_in 5 = .ok (.iload_n 0, 1) := by decide +kernel
theorem dX2_in_6 : decode cX2_in 6 = .ok (.iload_n 2, 1) := by decide +kernel
theorem dX2_in_7 : decode cX2_in 7 = .ok (.if_icmp .gt 7, 3) := by decide +kernel
theorem dX2_in_10 : decode cX2_in 10 = .ok (.iconst 1, 1) := by decide +kernel
theorem dX2_in_11 : decode cX2_in 11 = .ok (.goto 4, 3) := by decide +kernel
theorem dX2_in_14 : decode cX2_in 14 = .ok (.iconst 0, 1) := by decide +kernel
theorem dX2_in_15 : decode cX2_in 15 = .ok (.ireturn, 1) := by decide +kernel
theorem dX2_poke_0 : decode cX2_poke 0 = .ok (.aload_n 0, 1) := by decide +kernel
theorem dX2_poke_1 : decode cX2_poke 1 = .ok (.iload_n 1, 1) := by decide +kernel
theorem dX2_poke_2 : decode cX2_poke 2 = .ok (.iconst 0, 1) := by decide +kernel
theorem dX2_poke_3 : decode cX2_poke 3 = .ok (.sipush 2047, 3) := by decide +kernel
theorem dX2_poke_6 : decode cX2_poke 6 = .ok (.invokestatic 44, 3) := by decide +kernel
theorem dX2_poke_9 : decode cX2_poke 9 = .ok (.ifCond .ne 7, 3) := by decide +kernel
theorem dX2_poke_12 : decode cX2_poke 12 = .ok (.iconst 1, 1) := by decide +kernel
theorem dX2_poke_13 : decode cX2_poke 13 = .ok (.goto 4, 3) := by decide +kernel
theorem dX2_poke_16 : decode cX2_poke 16 = .ok (.iconst 0, 1) := by decide +kernel
theorem dX2_poke_17 : decode cX2_poke 17 = .ok (.iconst 0, 1) := by decide +kernel
theorem dX2_poke_18 : decode cX2_poke 18 = .ok (.invokevirtual 48, 3) := by decide +kernel
theorem dX2_poke_21 : decode cX2_poke 21 = .ok (.ifCond .ne 10, 3) := by decide +kernel
theorem dX2_poke_24 : decode cX2_poke 24 = .ok (.aload_n 0, 1) := by decide +kernel
theorem dX2_poke_25 : decode cX2_poke 25 = .ok (.getfield 7, 3) := by decide +kernel
theorem dX2_poke_28 : decode cX2_poke 28 = .ok (.iload_n 1, 1) := by decide +kernel
theorem dX2_poke_29 : decode cX2_poke 29 = .ok (.iload_n 2, 1) := by decide +kernel
theorem dX2_poke_30 : decode cX2_poke 30 = .ok (.iastore, 1) := by decide +kernel
theorem dX2_poke_31 : decode cX2_poke 31 = .ok (.return_, 1) := by decide +kernel
theorem dX2_picture_0 : decode cX2_picture 0 = .ok (.iload_n 2, 1) := by decide +kernel
theorem dX2_picture_1 : decode cX2_picture 1 = .ok (.ifCond .lt 50, 3) := by decide +kernel
theorem dX2_picture_4 : decode cX2_picture 4 = .ok (.iload_n 3, 1) := by decide +kernel
theorem dX2_picture_5 : decode cX2_picture 5 = .ok (.iconst 0, 1) := by decide +kernel
theorem dX2_picture_6 : decode cX2_picture 6 = .ok (.bipush 10, 2) := by decide +kernel
theorem dX2_picture_8 : decode cX2_picture 8 = .ok (.invokestatic 44, 3) := by decide +kernel
theorem dX2_picture_11 : decode cX2_picture 11 = .ok (.ifCond .eq 40, 3) := by decide +kernel
theorem dX2_picture_14 : decode cX2_picture 14 = .ok (.iload 4, 2) := by decide +kernel
theorem dX2_picture_16 : decode cX2_picture 16 = .ok (.iconst 0, 1) := by decide +kernel
theorem dX2_picture_17 : decode cX2_picture 17 = .ok (.bipush 10, 2) := by decide +kernel
theorem dX2_picture_19 : decode cX2_picture 19 = .ok (.invokestatic 44, 3) := by decide +kernel
theorem dX2_picture_22 : decode cX2_picture 22 = .ok (.ifCond .eq 29, 3) := by decide +kernel
theorem dX2_picture_25 : decode cX2_picture 25 = .ok (.iload 5, 2) := by decide +kernel
theorem dX2_picture_27 : decode cX2_picture 27 = .ok (.iconst 1, 1) := by decide +kernel
theorem dX2_picture_28 : decode cX2_picture 28 = .ok (.bipush 11, 2) := by decide +kernel
theorem dX2_picture_30 : decode cX2_picture 30 = .ok (.invokestatic 44, 3) := by decide +kernel
theorem dX2_picture_33 : decode cX2_picture 33 = .ok (.ifCond .eq 18, 3) := by decide +kernel
theorem dX2_picture_36 : decode cX2_picture 36 = .ok (.iload 6, 2) := by decide +kernel
theorem dX2_picture_38 : decode cX2_picture 38 = .ok (.iconst 0, 1) := by decide +kernel
theorem dX2_picture_39 : decode cX2_picture 39 = .ok (.bipush 7, 2) := by decide +kernel
theorem dX2_picture_41 : decode cX2_picture 41 = .ok (.invokestatic 44, 3) := by decide +kernel
theorem dX2_picture_44 : decode cX2_picture 44 = .ok (.ifCond .eq 7, 3) := by decide +kernel
theorem dX2_picture_47 : decode cX2_picture 47 = .ok (.iconst 1, 1) := by decide +kernel
theorem dX2_picture_48 : decode cX2_picture 48 = .ok (.goto 4, 3) := by decide +kernel
theorem dX2_picture_51 : decode cX2_picture 51 = .ok (.iconst 0, 1) := by decide +kernel
theorem dX2_picture_52 : decode cX2_picture 52 = .ok (.istore 7, 2) := by decide +kernel
theorem dX2_picture_54 : decode cX2_picture 54 = .ok (.aload_n 0, 1) := by decide +kernel
theorem dX2_picture_55 : decode cX2_picture 55 = .ok (.iload_n 1, 1) := by decide +kernel
theorem dX2_picture_56 : decode cX2_picture 56 = .ok (.iconst 0, 1) := by decide +kernel
theorem dX2_picture_57 : decode cX2_picture 57 = .ok (.iconst 3, 1) := by decide +kernel
theorem dX2_picture_58 : decode cX2_picture 58 = .ok (.invokestatic 44, 3) := by decide +kernel
theorem dX2_picture_61 : decode cX2_picture 61 = .ok (.ifCond .ne 7, 3) := by decide +kernel
theorem dX2_picture_64 : decode cX2_picture 64 = .ok (.iconst 1, 1) := by decide +kernel
theorem dX2_picture_65 : decode cX2_picture 65 = .ok (.goto 4, 3) := by decide +kernel
theorem dX2_picture_68 : decode cX2_picture 68 = .ok (.iconst 0, 1) := by decide +kernel
theorem dX2_picture_69 : decode cX2_picture 69 = .ok (.iload 7, 2) := by decide +kernel
theorem dX2_picture_71 : decode cX2_picture 71 = .ok (.ifCond .ne 7, 3) := by decide +kernel
theorem dX2_picture_74 : decode cX2_picture 74 = .ok (.iconst 1, 1) := by decide +kernel
theorem dX2_picture_75 : decode cX2_picture 75 = .ok (.goto 4, 3) := by decide +kernel
theorem dX2_picture_78 : decode cX2_picture 78 = .ok (.iconst 0, 1) := by decide +kernel
theorem dX2_picture_79 : decode cX2_picture 79 = .ok (.invokevirtual 48, 3) := by decide +kernel
theorem dX2_picture_82 : decode cX2_picture 82 = .ok (.ifCond .eq 4, 3) := by decide +kernel
theorem dX2_picture_85 : decode cX2_picture 85 = .ok (.return_, 1) := by decide +kernel
theorem dX2_picture_86 : decode cX2_picture 86 = .ok (.aload_n 0, 1) := by decide +kernel
theorem dX2_picture_87 : decode cX2_picture 87 = .ok (.getfield 13, 3) := by decide +kernel
theorem dX2_picture_90 : decode cX2_picture 90 = .ok (.bipush 8, 2) := by decide +kernel
theorem dX2_picture_92 : decode cX2_picture 92 = .ok (.iload_n 1, 1) := by decide +kernel
theorem dX2_picture_93 : decode cX2_picture 93 = .ok (.imul, 1) := by decide +kernel
theorem dX2_picture_94 : decode cX2_picture 94 = .ok (.iload_n 2, 1) := by decide +kernel
theorem dX2_picture_95 : decode cX2_picture 95 = .ok (.iastore, 1) := by decide +kernel
theorem dX2_picture_96 : decode cX2_picture 96 = .ok (.aload_n 0, 1) := by decide +kernel
theorem dX2_picture_97 : decode cX2_picture 97 = .ok (.getfield 13, 3) := by decide +kernel
theorem dX2_picture_100 : decode cX2_picture 100 = .ok (.bipush 8, 2) := by decide +kernel
theorem dX2_picture_102 : decode cX2_picture 102 = .ok (.iload_n 1, 1) := by decide +kernel
theorem dX2_picture_103 : decode cX2_picture 103 = .ok (.imul, 1) := by decide +kernel
theorem dX2_picture_104 : decode cX2_picture 104 = .ok (.iconst 1, 1) := by decide +kernel
theorem dX2_picture_105 : decode cX2_picture 105 = .ok (.iadd, 1) := by decide +kernel
theorem dX2_picture_106 : decode cX2_picture 106 = .ok (.iload_n 3, 1) := by decide +kernel
theorem dX2_picture_107 : decode cX2_picture 107 = .ok (.iastore, 1) := by decide +kernel
theorem dX2_picture_108 : decode cX2_picture 108 = .ok (.aload_n 0, 1) := by decide +kernel
theorem dX2_picture_109 : decode cX2_picture 109 = .ok (.getfield 13, 3) := by decide +kernel
theorem dX2_picture_112 : decode cX2_picture 112 = .ok (.bipush 8, 2) := by decide +kernel
theorem dX2_picture_114 : decode cX2_picture 114 = .ok (.iload_n 1, 1) := by decide +kernel
theorem dX2_picture_115 : decode cX2_picture 115 = .ok (.imul, 1) := by decide +kernel
theorem dX2_picture_116 : decode cX2_picture 116 = .ok (.iconst 2, 1) := by decide +kernel
theorem dX2_picture_117 : decode cX2_picture 117 = .ok (.iadd, 1) := by decide +kernel
theorem dX2_picture_118 : decode cX2_picture 118 = .ok (.iload 4, 2) := by decide +kernel
theorem dX2_picture_120 : decode cX2_picture 120 = .ok (.iastore, 1) := by decide +kernel
theorem dX2_picture_121 : decode cX2_picture 121 = .ok (.aload_n 0, 1) := by decide +kernel
theorem dX2_picture_122 : decode cX2_picture 122 = .ok (.getfield 13, 3) := by decide +kernel
theorem dX2_picture_125 : decode cX2_picture 125 = .ok (.bipush 8, 2) := by decide +kernel
theorem dX2_picture_127 : decode cX2_picture 127 = .ok (.iload_n 1, 1) := by decide +kernel
theorem dX2_picture_128 : decode cX2_picture 128 = .ok (.imul, 1) := by decide +kernel
theorem dX2_picture_129 : decode cX2_picture 129 = .ok (.iconst 3, 1) := by decide +kernel
theorem dX2_picture_130 : decode cX2_picture 130 = .ok (.iadd, 1) := by decide +kernel
theorem dX2_picture_131 : decode cX2_picture 131 = .ok (.iload 5, 2) := by decide +kernel
theorem dX2_picture_133 : decode cX2_picture 133 = .ok (.iastore, 1) := by decide +kernel
theorem dX2_picture_134 : decode cX2_picture 134 = .ok (.aload_n 0, 1) := by decide +kernel
theorem dX2_picture_135 : decode cX2_picture 135 = .ok (.getfield 13, 3) := by decide +kernel
theorem dX2_picture_138 : decode cX2_picture 138 = .ok (.bipush 8, 2) := by decide +kernel
theorem dX2_picture_140 : decode cX2_picture 140 = .ok (.iload_n 1, 1) := by decide +kernel
theorem dX2_picture_141 : decode cX2_picture 141 = .ok (.imul, 1) := by decide +kernel
theorem dX2_picture_142 : decode cX2_picture 142 = .ok (.iconst 4, 1) := by decide +kernel
theorem dX2_picture_143 : decode cX2_picture 143 = .ok (.iadd, 1) := by decide +kernel
theorem dX2_picture_144 : decode cX2_picture 144 = .ok (.iload 6, 2) := by decide +kernel
theorem dX2_picture_146 : decode cX2_picture 146 = .ok (.iastore, 1) := by decide +kernel
theorem dX2_picture_147 : decode cX2_picture 147 = .ok (.return_, 1) := by decide +kernel
theorem dX2_manner_0 : decode cX2_manner 0 = .ok (.aload_n 0, 1) := by decide +kernel
theorem dX2_manner_1 : decode cX2_manner 1 = .ok (.iload_n 1, 1) := by decide +kernel
theorem dX2_manner_2 : decode cX2_manner 2 = .ok (.iconst 0, 1) := by decide +kernel
theorem dX2_manner_3 : decode cX2_manner 3 = .ok (.iconst 3, 1) := by decide +kernel
theorem dX2_manner_4 : decode cX2_manner 4 = .ok (.invokestatic 44, 3) := by decide +kernel
theorem dX2_manner_7 : decode cX2_manner 7 = .ok (.ifCond .ne 7, 3) := by decide +kernel
theorem dX2_manner_10 : decode cX2_manner 10 = .ok (.iconst 1, 1) := by decide +kernel
theorem dX2_manner_11 : decode cX2_manner 11 = .ok (.goto 4, 3) := by decide +kernel
theorem dX2_manner_14 : decode cX2_manner 14 = .ok (.iconst 0, 1) := by decide +kernel
theorem dX2_manner_15 : decode cX2_manner 15 = .ok (.iload_n 2, 1) := by decide +kernel
theorem dX2_manner_16 : decode cX2_manner 16 = .ok (.iconst 0, 1) := by decide +kernel
theorem dX2_manner_17 : decode cX2_manner 17 = .ok (.iconst 3, 1) := by decide +kernel
theorem dX2_manner_18 : decode cX2_manner 18 = .ok (.invokestatic 44, 3) := by decide +kernel
theorem dX2_manner_21 : decode cX2_manner 21 = .ok (.ifCond .eq 22, 3) := by decide +kernel
theorem dX2_manner_24 : decode cX2_manner 24 = .ok (.iload_n 3, 1) := by decide +kernel
theorem dX2_manner_25 : decode cX2_manner 25 = .ok (.iconst 0, 1) := by decide +kernel
theorem dX2_manner_26 : decode cX2_manner 26 = .ok (.iconst 3, 1) := by decide +kernel
theorem dX2_manner_27 : decode cX2_manner 27 = .ok (.invokestatic 44, 3) := by decide +kernel
theorem dX2_manner_30 : decode cX2_manner 30 = .ok (.ifCond .eq 13, 3) := by decide +kernel
theorem dX2_manner_33 : decode cX2_manner 33 = .ok (.iload 4, 2) := by decide +kernel
theorem dX2_manner_35 : decode cX2_manner 35 = .ok (.iconst 0, 1) := by decide +kernel
theorem dX2_manner_36 : decode cX2_manner 36 = .ok (.iconst 3, 1) := by decide +kernel
theorem dX2_manner_37 : decode cX2_manner 37 = .ok (.invokestatic 44, 3) := by decide +kernel
theorem dX2_manner_40 : decode cX2_manner 40 = .ok (.ifCond .ne 7, 3) := by decide +kernel
theorem dX2_manner_43 : decode cX2_manner 43 = .ok (.iconst 1, 1) := by decide +kernel
theorem dX2_manner_44 : decode cX2_manner 44 = .ok (.goto 4, 3) := by decide +kernel
theorem dX2_manner_47 : decode cX2_manner 47 = .ok (.iconst 0, 1) := by decide +kernel
theorem dX2_manner_48 : decode cX2_manner 48 = .ok (.invokevirtual 48, 3) := by decide +kernel
theorem dX2_manner_51 : decode cX2_manner 51 = .ok (.ifCond .eq 4, 3) := by decide +kernel
theorem dX2_manner_54 : decode cX2_manner 54 = .ok (.return_, 1) := by decide +kernel
theorem dX2_manner_55 : decode cX2_manner 55 = .ok (.aload_n 0, 1) := by decide +kernel
theorem dX2_manner_56 : decode cX2_manner 56 = .ok (.getfield 13, 3) := by decide +kernel
theorem dX2_manner_59 : decode cX2_manner 59 = .ok (.bipush 8, 2) := by decide +kernel
theorem dX2_manner_61 : decode cX2_manner 61 = .ok (.iload_n 1, 1) := by decide +kernel
theorem dX2_manner_62 : decode cX2_manner 62 = .ok (.imul, 1) := by decide +kernel
theorem dX2_manner_63 : decode cX2_manner 63 = .ok (.iconst 5, 1) := by decide +kernel
theorem dX2_manner_64 : decode cX2_manner 64 = .ok (.iadd, 1) := by decide +kernel
theorem dX2_manner_65 : decode cX2_manner 65 = .ok (.iload_n 2, 1) := by decide +kernel
theorem dX2_manner_66 : decode cX2_manner 66 = .ok (.iastore, 1) := by decide +kernel
theorem dX2_manner_67 : decode cX2_manner 67 = .ok (.aload_n 0, 1) := by decide +kernel
theorem dX2_manner_68 : decode cX2_manner 68 = .ok (.getfield 13, 3) := by decide +kernel
theorem dX2_manner_71 : decode cX2_manner 71 = .ok (.bipush 8, 2) := by decide +kernel
theorem dX2_manner_73 : decode cX2_manner 73 = .ok (.iload_n 1, 1) := by decide +kernel
theorem dX2_manner_74 : decode cX2_manner 74 = .ok (.imul, 1) := by decide +kernel
theorem dX2_manner_75 : decode cX2_manner 75 = .ok (.bipush 6, 2) := by decide +kernel
theorem dX2_manner_77 : decode cX2_manner 77 = .ok (.iadd, 1) := by decide +kernel
theorem dX2_manner_78 : decode cX2_manner 78 = .ok (.iload_n 3, 1) := by decide +kernel
theorem dX2_manner_79 : decode cX2_manner 79 = .ok (.iastore, 1) := by decide +kernel
theorem dX2_manner_80 : decode cX2_manner 80 = .ok (.aload_n 0, 1) := by decide +kernel
theorem dX2_manner_81 : decode cX2_manner 81 = .ok (.getfield 13, 3) := by decide +kernel
theorem dX2_manner_84 : decode cX2_manner 84 = .ok (.bipush 8, 2) := by decide +kernel
theorem dX2_manner_86 : decode cX2_manner 86 = .ok (.iload_n 1, 1) := by decide +kernel
theorem dX2_manner_87 : decode cX2_manner 87 = .ok (.imul, 1) := by decide +kernel
theorem dX2_manner_88 : decode cX2_manner 88 = .ok (.bipush 7, 2) := by decide +kernel
theorem dX2_manner_90 : decode cX2_manner 90 = .ok (.iadd, 1) := by decide +kernel
theorem dX2_manner_91 : decode cX2_manner 91 = .ok (.iload 4, 2) := by decide +kernel
theorem dX2_manner_93 : decode cX2_manner 93 = .ok (.iastore, 1) := by decide +kernel
theorem dX2_manner_94 : decode cX2_manner 94 = .ok (.return_, 1) := by decide +kernel
theorem dX2_border_0 : decode cX2_border 0 = .ok (.aload_n 0, 1) := by decide +kernel
theorem dX2_border_1 : decode cX2_border 1 = .ok (.iload_n 1, 1) := by decide +kernel
theorem dX2_border_2 : decode cX2_border 2 = .ok (.iconst 0, 1) := by decide +kernel
theorem dX2_border_3 : decode cX2_border 3 = .ok (.iconst 3, 1) := by decide +kernel
theorem dX2_border_4 : decode cX2_border 4 = .ok (.invokestatic 44, 3) := by decide +kernel
theorem dX2_border_7 : decode cX2_border 7 = .ok (.ifCond .ne 7, 3) := by decide +kernel
theorem dX2_border_10 : decode cX2_border 10 = .ok (.iconst 1, 1) := by decide +kernel
theorem dX2_border_11 : decode cX2_border 11 = .ok (.goto 4, 3) := by decide +kernel
theorem dX2_border_14 : decode cX2_border 14 = .ok (.iconst 0, 1) := by decide +kernel
theorem dX2_border_15 : decode cX2_border 15 = .ok (.iconst 0, 1) := by decide +kernel
theorem dX2_border_16 : decode cX2_border 16 = .ok (.invokevirtual 48, 3) := by decide +kernel
theorem dX2_border_19 : decode cX2_border 19 = .ok (.ifCond .eq 4, 3) := by decide +kernel
theorem dX2_border_22 : decode cX2_border 22 = .ok (.return_, 1) := by decide +kernel
theorem dX2_border_23 : decode cX2_border 23 = .ok (.aload_n 0, 1) := by decide +kernel
theorem dX2_border_24 : decode cX2_border 24 = .ok (.getfield 16, 3) := by decide +kernel
theorem dX2_border_27 : decode cX2_border 27 = .ok (.iconst 4, 1) := by decide +kernel
theorem dX2_border_28 : decode cX2_border 28 = .ok (.iload_n 1, 1) := by decide +kernel
theorem dX2_border_29 : decode cX2_border 29 = .ok (.imul, 1) := by decide +kernel
theorem dX2_border_30 : decode cX2_border 30 = .ok (.iload_n 2, 1) := by decide +kernel
theorem dX2_border_31 : decode cX2_border 31 = .ok (.iastore, 1) := by decide +kernel
theorem dX2_border_32 : decode cX2_border 32 = .ok (.aload_n 0, 1) := by decide +kernel
theorem dX2_border_33 : decode cX2_border 33 = .ok (.getfield 16, 3) := by decide +kernel
theorem dX2_border_36 : decode cX2_border 36 = .ok (.iconst 4, 1) := by decide +kernel
theorem dX2_border_37 : decode cX2_border 37 = .ok (.iload_n 1, 1) := by decide +kernel
theorem dX2_border_38 : decode cX2_border 38 = .ok (.imul, 1) := by decide +kernel
theorem dX2_border_39 : decode cX2_border 39 = .ok (.iconst 1, 1) := by decide +kernel
theorem dX2_border_40 : decode cX2_border 40 = .ok (.iadd, 1) := by decide +kernel
theorem dX2_border_41 : decode cX2_border 41 = .ok (.iload_n 3, 1) := by decide +kernel
theorem dX2_border_42 : decode cX2_border 42 = .ok (.iastore, 1) := by decide +kernel
theorem dX2_border_43 : decode cX2_border 43 = .ok (.aload_n 0, 1) := by decide +kernel
theorem dX2_border_44 : decode cX2_border 44 = .ok (.getfield 16, 3) := by decide +kernel
theorem dX2_border_47 : decode cX2_border 47 = .ok (.iconst 4, 1) := by decide +kernel
theorem dX2_border_48 : decode cX2_border 48 = .ok (.iload_n 1, 1) := by decide +kernel
theorem dX2_border_49 : decode cX2_border 49 = .ok (.imul, 1) := by decide +kernel
theorem dX2_border_50 : decode cX2_border 50 = .ok (.iconst 2, 1) := by decide +kernel
theorem dX2_border_51 : decode cX2_border 51 = .ok (.iadd, 1) := by decide +kernel
theorem dX2_border_52 : decode cX2_border 52 = .ok (.iload 4, 2) := by decide +kernel
theorem dX2_border_54 : decode cX2_border 54 = .ok (.iastore, 1) := by decide +kernel
theorem dX2_border_55 : decode cX2_border 55 = .ok (.aload_n 0, 1) := by decide +kernel
theorem dX2_border_56 : decode cX2_border 56 = .ok (.getfield 16, 3) := by decide +kernel
theorem dX2_border_59 : decode cX2_border 59 = .ok (.iconst 4, 1) := by decide +kernel
theorem dX2_border_60 : decode cX2_border 60 = .ok (.iload_n 1, 1) := by decide +kernel
theorem dX2_border_61 : decode cX2_border 61 = .ok (.imul, 1) := by decide +kernel
theorem dX2_border_62 : decode cX2_border 62 = .ok (.iconst 3, 1) := by decide +kernel
theorem dX2_border_63 : decode cX2_border 63 = .ok (.iadd, 1) := by decide +kernel
theorem dX2_border_64 : decode cX2_border 64 = .ok (.iload 5, 2) := by decide +kernel
theorem dX2_border_66 : decode cX2_border 66 = .ok (.iastore, 1) := by decide +kernel
theorem dX2_border_67 : decode cX2_border 67 = .ok (.return_, 1) := by decide +kernel
theorem dX2_exponent_0 : decode cX2_exponent 0 = .ok (.aload_n 0, 1) := by decide +kernel
theorem dX2_exponent_1 : decode cX2_exponent 1 = .ok (.getfield 13, 3) := by decide +kernel
theorem dX2_exponent_4 : decode cX2_exponent 4 = .ok (.bipush 8, 2) := by decide +kernel
theorem dX2_exponent_6 : decode cX2_exponent 6 = .ok (.iload_n 1, 1) := by decide +kernel
theorem dX2_exponent_7 : decode cX2_exponent 7 = .ok (.imul, 1) := by decide +kernel
theorem dX2_exponent_8 : decode cX2_exponent 8 = .ok (.iconst 1, 1) := by decide +kernel
theorem dX2_exponent_9 : decode cX2_exponent 9 = .ok (.iadd, 1) := by decide +kernel
theorem dX2_exponent_10 : decode cX2_exponent 10 = .ok (.iload_n 3, 1) := by decide +kernel
theorem dX2_exponent_11 : decode cX2_exponent 11 = .ok (.iadd, 1) := by decide +kernel
theorem dX2_exponent_12 : decode cX2_exponent 12 = .ok (.iaload, 1) := by decide +kernel
theorem dX2_exponent_13 : decode cX2_exponent 13 = .ok (.iload_n 2, 1) := by decide +kernel
theorem dX2_exponent_14 : decode cX2_exponent 14 = .ok (.isub, 1) := by decide +kernel
theorem dX2_exponent_15 : decode cX2_exponent 15 = .ok (.istore 4, 2) := by decide +kernel
theorem dX2_exponent_17 : decode cX2_exponent 17 = .ok (.iload 4, 2) := by decide +kernel
theorem dX2_exponent_19 : decode cX2_exponent 19 = .ok (.ifCond .ge 7, 3) := by decide +kernel
theorem dX2_exponent_22 : decode cX2_exponent 22 = .ok (.iconst 0, 1) := by decide +kernel
theorem dX2_exponent_23 : decode cX2_exponent 23 = .ok (.goto 5, 3) := by decide +kernel
theorem dX2_exponent_26 : decode cX2_exponent 26 = .ok (.iload 4, 2) := by decide +kernel
theorem dX2_exponent_28 : decode cX2_exponent 28 = .ok (.ireturn, 1) := by decide +kernel
theorem dX2_wide_0 : decode cX2_wide 0 = .ok (.iconst 1, 1) := by decide +kernel
theorem dX2_wide_1 : decode cX2_wide 1 = .ok (.aload_n 0, 1) := by decide +kernel
theorem dX2_wide_2 : decode cX2_wide 2 = .ok (.iload_n 1, 1) := by decide +kernel
theorem dX2_wide_3 : decode cX2_wide 3 = .ok (.iload_n 2, 1) := by decide +kernel
theorem dX2_wide_4 : decode cX2_wide 4 = .ok (.iconst 0, 1) := by decide +kernel
theorem dX2_wide_5 : decode cX2_wide 5 = .ok (.invokevirtual 52, 3) := by decide +kernel
theorem dX2_wide_8 : decode cX2_wide 8 = .ok (.ishl, 1) := by decide +kernel
theorem dX2_wide_9 : decode cX2_wide 9 = .ok (.ireturn, 1) := by decide +kernel
theorem dX2_high_0 : decode cX2_high 0 = .ok (.iconst 1, 1) := by decide +kernel
theorem dX2_high_1 : decode cX2_high 1 = .ok (.aload_n 0, 1) := by decide +kernel
theorem dX2_high_2 : decode cX2_high 2 = .ok (.iload_n 1, 1) := by decide +kernel
theorem dX2_high_3 : decode cX2_high 3 = .ok (.iload_n 2, 1) := by decide +kernel
theorem dX2_high_4 : decode cX2_high 4 = .ok (.iconst 1, 1) := by decide +kernel
theorem dX2_high_5 : decode cX2_high 5 = .ok (.invokevirtual 52, 3) := by decide +kernel
theorem dX2_high_8 : decode cX2_high 8 = .ok (.ishl, 1) := by decide +kernel
theorem dX2_high_9 : decode cX2_high 9 = .ok (.ireturn, 1) := by decide +kernel
theorem dX2_ahead_0 : decode cX2_ahead 0 = .ok (.iconst 0, 1) := by decide +kernel
theorem dX2_ahead_1 : decode cX2_ahead 1 = .ok (.istore_n 3, 1) := by decide +kernel
theorem dX2_ahead_2 : decode cX2_ahead 2 = .ok (.iconst 0, 1) := by decide +kernel
theorem dX2_ahead_3 : decode cX2_ahead 3 = .ok (.istore 4, 2) := by decide +kernel
theorem dX2_ahead_5 : decode cX2_ahead 5 = .ok (.iload 4, 2) := by decide +kernel
theorem dX2_ahead_7 : decode cX2_ahead 7 = .ok (.iload_n 2, 1) := by decide +kernel
theorem dX2_ahead_8 : decode cX2_ahead 8 = .ok (.if_icmp .ge 27, 3) := by decide +kernel
theorem dX2_ahead_11 : decode cX2_ahead 11 = .ok (.iload_n 3, 1) := by decide +kernel
theorem dX2_ahead_12 : decode cX2_ahead 12 = .ok (.aload_n 0, 1) := by decide +kernel
theorem dX2_ahead_13 : decode cX2_ahead 13 = .ok (.iload_n 1, 1) := by decide +kernel
theorem dX2_ahead_14 : decode cX2_ahead 14 = .ok (.iload 4, 2) := by decide +kernel
theorem dX2_ahead_16 : decode cX2_ahead 16 = .ok (.invokevirtual 56, 3) := by decide +kernel
theorem dX2_ahead_19 : decode cX2_ahead 19 = .ok (.aload_n 0, 1) := by decide +kernel
theorem dX2_ahead_20 : decode cX2_ahead 20 = .ok (.iload_n 1, 1) := by decide +kernel
theorem dX2_ahead_21 : decode cX2_ahead 21 = .ok (.iload 4, 2) := by decide +kernel
theorem dX2_ahead_23 : decode cX2_ahead 23 = .ok (.invokevirtual 60, 3) := by decide +kernel
theorem dX2_ahead_26 : decode cX2_ahead 26 = .ok (.imul, 1) := by decide +kernel
theorem dX2_ahead_27 : decode cX2_ahead 27 = .ok (.iadd, 1) := by decide +kernel
theorem dX2_ahead_28 : decode cX2_ahead 28 = .ok (.istore_n 3, 1) := by decide +kernel
theorem dX2_ahead_29 : decode cX2_ahead 29 = .ok (.iinc 4 1, 3) := by decide +kernel
theorem dX2_ahead_32 : decode cX2_ahead 32 = .ok (.goto (-27), 3) := by decide +kernel
theorem dX2_ahead_35 : decode cX2_ahead 35 = .ok (.iload_n 3, 1) := by decide +kernel
theorem dX2_ahead_36 : decode cX2_ahead 36 = .ok (.ireturn, 1) := by decide +kernel
theorem dX2_lay_0 : decode cX2_lay 0 = .ok (.aload_n 0, 1) := by decide +kernel
theorem dX2_lay_1 : decode cX2_lay 1 = .ok (.getfield 34, 3) := by decide +kernel
theorem dX2_lay_4 : decode cX2_lay 4 = .ok (.iconst 0, 1) := by decide +kernel
theorem dX2_lay_5 : decode cX2_lay 5 = .ok (.iload_n 1, 1) := by decide +kernel
theorem dX2_lay_6 : decode cX2_lay 6 = .ok (.iastore, 1) := by decide +kernel
theorem dX2_lay_7 : decode cX2_lay 7 = .ok (.aload_n 0, 1) := by decide +kernel
theorem dX2_lay_8 : decode cX2_lay 8 = .ok (.getfield 34, 3) := by decide +kernel
theorem dX2_lay_11 : decode cX2_lay 11 = .ok (.iconst 1, 1) := by decide +kernel
theorem dX2_lay_12 : decode cX2_lay 12 = .ok (.iload_n 2, 1) := by decide +kernel
theorem dX2_lay_13 : decode cX2_lay 13 = .ok (.iastore, 1) := by decide +kernel
theorem dX2_lay_14 : decode cX2_lay 14 = .ok (.aload_n 0, 1) := by decide +kernel
theorem dX2_lay_15 : decode cX2_lay 15 = .ok (.getfield 34, 3) := by decide +kernel
theorem dX2_lay_18 : decode cX2_lay 18 = .ok (.iconst 2, 1) := by decide +kernel
theorem dX2_lay_19 : decode cX2_lay 19 = .ok (.iload_n 3, 1) := by decide +kernel
theorem dX2_lay_20 : decode cX2_lay 20 = .ok (.iastore, 1) := by decide +kernel
theorem dX2_lay_21 : decode cX2_lay 21 = .ok (.aload_n 0, 1) := by decide +kernel
theorem dX2_lay_22 : decode cX2_lay 22 = .ok (.getfield 34, 3) := by decide +kernel
theorem dX2_lay_25 : decode cX2_lay 25 = .ok (.iconst 3, 1) := by decide +kernel
theorem dX2_lay_26 : decode cX2_lay 26 = .ok (.iload 4, 2) := by decide +kernel
theorem dX2_lay_28 : decode cX2_lay 28 = .ok (.iastore, 1) := by decide +kernel
theorem dX2_lay_29 : decode cX2_lay 29 = .ok (.aload_n 0, 1) := by decide +kernel
theorem dX2_lay_30 : decode cX2_lay 30 = .ok (.getfield 37, 3) := by decide +kernel
theorem dX2_lay_33 : decode cX2_lay 33 = .ok (.iconst 0, 1) := by decide +kernel
theorem dX2_lay_34 : decode cX2_lay 34 = .ok (.iload 5, 2) := by decide +kernel
theorem dX2_lay_36 : decode cX2_lay 36 = .ok (.iastore, 1) := by decide +kernel
theorem dX2_lay_37 : decode cX2_lay 37 = .ok (.aload_n 0, 1) := by decide +kernel
theorem dX2_lay_38 : decode cX2_lay 38 = .ok (.getfield 37, 3) := by decide +kernel
theorem dX2_lay_41 : decode cX2_lay 41 = .ok (.iconst 1, 1) := by decide +kernel
theorem dX2_lay_42 : decode cX2_lay 42 = .ok (.iload 6, 2) := by decide +kernel
theorem dX2_lay_44 : decode cX2_lay 44 = .ok (.iastore, 1) := by decide +kernel
theorem dX2_lay_45 : decode cX2_lay 45 = .ok (.aload_n 0, 1) := by decide +kernel
theorem dX2_lay_46 : decode cX2_lay 46 = .ok (.getfield 37, 3) := by decide +kernel
theorem dX2_lay_49 : decode cX2_lay 49 = .ok (.iconst 2, 1) := by decide +kernel
theorem dX2_lay_50 : decode cX2_lay 50 = .ok (.iload 7, 2) := by decide +kernel
theorem dX2_lay_52 : decode cX2_lay 52 = .ok (.iastore, 1) := by decide +kernel
theorem dX2_lay_53 : decode cX2_lay 53 = .ok (.aload_n 0, 1) := by decide +kernel
theorem dX2_lay_54 : decode cX2_lay 54 = .ok (.getfield 37, 3) := by decide +kernel
theorem dX2_lay_57 : decode cX2_lay 57 = .ok (.iconst 3, 1) := by decide +kernel
theorem dX2_lay_58 : decode cX2_lay 58 = .ok (.iload 8, 2) := by decide +kernel
theorem dX2_lay_60 : decode cX2_lay 60 = .ok (.iastore, 1) := by decide +kernel
theorem dX2_lay_61 : decode cX2_lay 61 = .ok (.return_, 1) := by decide +kernel
theorem dX2_layOut_0 : decode cX2_layOut 0 = .ok (.iload_n 1, 1) := by decide +kernel
theorem dX2_layOut_1 : decode cX2_layOut 1 = .ok (.tableswitch 170 0 6 #[43, 65, 82, 99, 116, 134, 150], 43) := by decide +kernel
theorem dX2_layOut_44 : decode cX2_layOut 44 = .ok (.aload_n 0, 1) := by decide +kernel
theorem dX2_layOut_45 : decode cX2_layOut 45 = .ok (.iconst 0, 1) := by decide +kernel
theorem dX2_layOut_46 : decode cX2_layOut 46 = .ok (.bipush 8, 2) := by decide +kernel
theorem dX2_layOut_48 : decode cX2_layOut 48 = .ok (.bipush 16, 2) := by decide +kernel
theorem dX2_layOut_50 : decode cX2_layOut 50 = .ok (.bipush 24, 2) := by decide +kernel
theorem dX2_layOut_52 : decode cX2_layOut 52 = .ok (.bipush 8, 2) := by decide +kernel
theorem dX2_layOut_54 : decode cX2_layOut 54 = .ok (.bipush 8, 2) := by decide +kernel
theorem dX2_layOut_56 : decode cX2_layOut 56 = .ok (.bipush 8, 2) := by decide +kernel
theorem dX2_layOut_58 : decode cX2_layOut 58 = .ok (.bipush 8, 2) := by decide +kernel
theorem dX2_layOut_60 : decode cX2_layOut 60 = .ok (.invokevirtual 63, 3) := by decide +kernel
theorem dX2_layOut_63 : decode cX2_layOut 63 = .ok (.bipush 32, 2) := by decide +kernel
theorem dX2_layOut_65 : decode cX2_layOut 65 = .ok (.ireturn, 1) := by decide +kernel
theorem dX2_layOut_66 : decode cX2_layOut 66 = .ok (.aload_n 0, 1) := by decide +kernel
theorem dX2_layOut_67 : decode cX2_layOut 67 = .ok (.iconst 0, 1) := by decide +kernel
theorem dX2_layOut_68 : decode cX2_layOut 68 = .ok (.iconst 5, 1) := by decide +kernel
theorem dX2_layOut_69 : decode cX2_layOut 69 = .ok (.bipush 11, 2) := by decide +kernel
theorem dX2_layOut_71 : decode cX2_layOut 71 = .ok (.iconst 0, 1) := by decide +kernel
theorem dX2_layOut_72 : decode cX2_layOut 72 = .ok (.iconst 5, 1) := by decide +kernel
theorem dX2_layOut_73 : decode cX2_layOut 73 = .ok (.bipush 6, 2) := by decide +kernel
theorem dX2_layOut_75 : decode cX2_layOut 75 = .ok (.iconst 5, 1) := by decide +kernel
theorem dX2_layOut_76 : decode cX2_layOut 76 = .ok (.iconst 0, 1) := by decide +kernel
theorem dX2_layOut_77 : decode cX2_layOut 77 = .ok (.invokevirtual 63, 3) := by decide +kernel
theorem dX2_layOut_80 : decode cX2_layOut 80 = .ok (.bipush 16, 2) := by decide +kernel
theorem dX2_layOut_82 : decode cX2_layOut 82 = .ok (.ireturn, 1) := by decide +kernel
theorem dX2_layOut_83 : decode cX2_layOut 83 = .ok (.aload_n 0, 1) := by decide +kernel
theorem dX2_layOut_84 : decode cX2_layOut 84 = .ok (.iconst 0, 1) := by decide +kernel
theorem dX2_layOut_85 : decode cX2_layOut 85 = .ok (.iconst 4, 1) := by decide +kernel
theorem dX2_layOut_86 : decode cX2_layOut 86 = .ok (.bipush 8, 2) := by decide +kernel
theorem dX2_layOut_88 : decode cX2_layOut 88 = .ok (.bipush 12, 2) := by decide +kernel
theorem dX2_layOut_90 : decode cX2_layOut 90 = .ok (.iconst 4, 1) := by decide +kernel
theorem dX2_layOut_91 : decode cX2_layOut 91 = .ok (.iconst 4, 1) := by decide +kernel
theorem dX2_layOut_92 : decode cX2_layOut 92 = .ok (.iconst 4, 1) := by decide +kernel
theorem dX2_layOut_93 : decode cX2_layOut 93 = .ok (.iconst 4, 1) := by decide +kernel
theorem dX2_layOut_94 : decode cX2_layOut 94 = .ok (.invokevirtual 63, 3) := by decide +kernel
theorem dX2_layOut_97 : decode cX2_layOut 97 = .ok (.bipush 16, 2) := by decide +kernel
theorem dX2_layOut_99 : decode cX2_layOut 99 = .ok (.ireturn, 1) := by decide +kernel
theorem dX2_layOut_100 : decode cX2_layOut 100 = .ok (.aload_n 0, 1) := by decide +kernel
theorem dX2_layOut_101 : decode cX2_layOut 101 = .ok (.iconst 0, 1) := by decide +kernel
theorem dX2_layOut_102 : decode cX2_layOut 102 = .ok (.iconst 5, 1) := by decide +kernel
theorem dX2_layOut_103 : decode cX2_layOut 103 = .ok (.bipush 10, 2) := by decide +kernel
theorem dX2_layOut_105 : decode cX2_layOut 105 = .ok (.bipush 15, 2) := by decide +kernel
theorem dX2_layOut_107 : decode cX2_layOut 107 = .ok (.iconst 5, 1) := by decide +kernel
theorem dX2_layOut_108 : decode cX2_layOut 108 = .ok (.iconst 5, 1) := by decide +kernel
theorem dX2_layOut_109 : decode cX2_layOut 109 = .ok (.iconst 5, 1) := by decide +kernel
theorem dX2_layOut_110 : decode cX2_layOut 110 = .ok (.iconst 1, 1) := by decide +kernel
theorem dX2_layOut_111 : decode cX2_layOut 111 = .ok (.invokevirtual 63, 3) := by decide +kernel
theorem dX2_layOut_114 : decode cX2_layOut 114 = .ok (.bipush 16, 2) := by decide +kernel
theorem dX2_layOut_116 : decode cX2_layOut 116 = .ok (.ireturn, 1) := by decide +kernel
theorem dX2_layOut_117 : decode cX2_layOut 117 = .ok (.aload_n 0, 1) := by decide +kernel
theorem dX2_layOut_118 : decode cX2_layOut 118 = .ok (.iconst 0, 1) := by decide +kernel
theorem dX2_layOut_119 : decode cX2_layOut 119 = .ok (.iconst 0, 1) := by decide +kernel
theorem dX2_layOut_120 : decode cX2_layOut 120 = .ok (.iconst 0, 1) := by decide +kernel
theorem dX2_layOut_121 : decode cX2_layOut 121 = .ok (.iconst 0, 1) := by decide +kernel
theorem dX2_layOut_122 : decode cX2_layOut 122 = .ok (.bipush 8, 2) := by decide +kernel
theorem dX2_layOut_124 : decode cX2_layOut 124 = .ok (.bipush 8, 2) := by decide +kernel
theorem dX2_layOut_126 : decode cX2_layOut 126 = .ok (.bipush 8, 2) := by decide +kernel
theorem dX2_layOut_128 : decode cX2_layOut 128 = .ok (.iconst 0, 1) := by decide +kernel
theorem dX2_layOut_129 : decode cX2_layOut 129 = .ok (.invokevirtual 63, 3) := by decide +kernel
theorem dX2_layOut_132 : decode cX2_layOut 132 = .ok (.bipush 8, 2) := by decide +kernel
theorem dX2_layOut_134 : decode cX2_layOut 134 = .ok (.ireturn, 1) := by decide +kernel
theorem dX2_layOut_135 : decode cX2_layOut 135 = .ok (.aload_n 0, 1) := by decide +kernel
theorem dX2_layOut_136 : decode cX2_layOut 136 = .ok (.iconst 0, 1) := by decide +kernel
theorem dX2_layOut_137 : decode cX2_layOut 137 = .ok (.iconst 0, 1) := by decide +kernel
theorem dX2_layOut_138 : decode cX2_layOut 138 = .ok (.iconst 0, 1) := by decide +kernel
theorem dX2_layOut_139 : decode cX2_layOut 139 = .ok (.iconst 0, 1) := by decide +kernel
theorem dX2_layOut_140 : decode cX2_layOut 140 = .ok (.iconst 0, 1) := by decide +kernel
theorem dX2_layOut_141 : decode cX2_layOut 141 = .ok (.iconst 0, 1) := by decide +kernel
theorem dX2_layOut_142 : decode cX2_layOut 142 = .ok (.iconst 0, 1) := by decide +kernel
theorem dX2_layOut_143 : decode cX2_layOut 143 = .ok (.bipush 8, 2) := by decide +kernel
theorem dX2_layOut_145 : decode cX2_layOut 145 = .ok (.invokevirtual 63, 3) := by decide +kernel
theorem dX2_layOut_148 : decode cX2_layOut 148 = .ok (.bipush 8, 2) := by decide +kernel
theorem dX2_layOut_150 : decode cX2_layOut 150 = .ok (.ireturn, 1) := by decide +kernel
theorem dX2_layOut_151 : decode cX2_layOut 151 = .ok (.aload_n 0, 1) := by decide +kernel
theorem dX2_layOut_152 : decode cX2_layOut 152 = .ok (.iconst 0, 1) := by decide +kernel
theorem dX2_layOut_153 : decode cX2_layOut 153 = .ok (.iconst 0, 1) := by decide +kernel
theorem dX2_layOut_154 : decode cX2_layOut 154 = .ok (.iconst 0, 1) := by decide +kernel
theorem dX2_layOut_155 : decode cX2_layOut 155 = .ok (.bipush 8, 2) := by decide +kernel
theorem dX2_layOut_157 : decode cX2_layOut 157 = .ok (.bipush 8, 2) := by decide +kernel
theorem dX2_layOut_159 : decode cX2_layOut 159 = .ok (.bipush 8, 2) := by decide +kernel
theorem dX2_layOut_161 : decode cX2_layOut 161 = .ok (.bipush 8, 2) := by decide +kernel
theorem dX2_layOut_163 : decode cX2_layOut 163 = .ok (.bipush 8, 2) := by decide +kernel
theorem dX2_layOut_165 : decode cX2_layOut 165 = .ok (.invokevirtual 63, 3) := by decide +kernel
theorem dX2_layOut_168 : decode cX2_layOut 168 = .ok (.bipush 16, 2) := by decide +kernel
theorem dX2_layOut_170 : decode cX2_layOut 170 = .ok (.ireturn, 1) := by decide +kernel
theorem dX2_layOut_171 : decode cX2_layOut 171 = .ok (.aload_n 0, 1) := by decide +kernel
theorem dX2_layOut_172 : decode cX2_layOut 172 = .ok (.iconst 0, 1) := by decide +kernel
theorem dX2_layOut_173 : decode cX2_layOut 173 = .ok (.iconst 0, 1) := by decide +kernel
theorem dX2_layOut_174 : decode cX2_layOut 174 = .ok (.iconst 0, 1) := by decide +kernel
theorem dX2_layOut_175 : decode cX2_layOut 175 = .ok (.iconst 0, 1) := by decide +kernel
theorem dX2_layOut_176 : decode cX2_layOut 176 = .ok (.iconst 4, 1) := by decide +kernel
theorem dX2_layOut_177 : decode cX2_layOut 177 = .ok (.iconst 4, 1) := by decide +kernel
theorem dX2_layOut_178 : decode cX2_layOut 178 = .ok (.iconst 4, 1) := by decide +kernel
theorem dX2_layOut_179 : decode cX2_layOut 179 = .ok (.iconst 0, 1) := by decide +kernel
theorem dX2_layOut_180 : decode cX2_layOut 180 = .ok (.invokevirtual 63, 3) := by decide +kernel
theorem dX2_layOut_183 : decode cX2_layOut 183 = .ok (.iconst 4, 1) := by decide +kernel
theorem dX2_layOut_184 : decode cX2_layOut 184 = .ok (.ireturn, 1) := by decide +kernel
theorem dX2_bit_0 : decode cX2_bit 0 = .ok (.iload_n 1, 1) := by decide +kernel
theorem dX2_bit_1 : decode cX2_bit 1 = .ok (.i2l, 1) := by decide +kernel
theorem dX2_bit_2 : decode cX2_bit 2 = .ok (.lload_n 2, 1) := by decide +kernel
theorem dX2_bit_3 : decode cX2_bit 3 = .ok (.ldc2_w 67, 3) := by decide +kernel
theorem dX2_bit_6 : decode cX2_bit 6 = .ok (.ldiv, 1) := by decide +kernel
theorem dX2_bit_7 : decode cX2_bit 7 = .ok (.ladd, 1) := by decide +kernel
theorem dX2_bit_8 : decode cX2_bit 8 = .ok (.lstore 4, 2) := by decide +kernel
theorem dX2_bit_10 : decode cX2_bit 10 = .ok (.lload 4, 2) := by decide +kernel
theorem dX2_bit_12 : decode cX2_bit 12 = .ok (.ldc2_w 69, 3) := by decide +kernel
theorem dX2_bit_15 : decode cX2_bit 15 = .ok (.lcmp, 1) := by decide +kernel
theorem dX2_bit_16 : decode cX2_bit 16 = .ok (.ifCond .ge 23, 3) := by decide +kernel
theorem dX2_bit_19 : decode cX2_bit 19 = .ok (.aload_n 0, 1) := by decide +kernel
theorem dX2_bit_20 : decode cX2_bit 20 = .ok (.getfield 7, 3) := by decide +kernel
theorem dX2_bit_23 : decode cX2_bit 23 = .ok (.lload 4, 2) := by decide +kernel
theorem dX2_bit_25 : decode cX2_bit 25 = .ok (.l2i, 1) := by decide +kernel
theorem dX2_bit_26 : decode cX2_bit 26 = .ok (.iaload, 1) := by decide +kernel
theorem dX2_bit_27 : decode cX2_bit 27 = .ok (.lload_n 2, 1) := by decide +kernel
theorem dX2_bit_28 : decode cX2_bit 28 = .ok (.ldc2_w 67, 3) := by decide +kernel
theorem dX2_bit_31 : decode cX2_bit 31 = .ok (.lrem, 1) := by decide +kernel
theorem dX2_bit_32 : decode cX2_bit 32 = .ok (.l2i, 1) := by decide +kernel
theorem dX2_bit_33 : decode cX2_bit 33 = .ok (.ishr, 1) := by decide +kernel
theorem dX2_bit_34 : decode cX2_bit 34 = .ok (.iconst 1, 1) := by decide +kernel
theorem dX2_bit_35 : decode cX2_bit 35 = .ok (.iand, 1) := by decide +kernel
theorem dX2_bit_36 : decode cX2_bit 36 = .ok (.goto 4, 3) := by decide +kernel
theorem dX2_bit_39 : decode cX2_bit 39 = .ok (.iconst 0, 1) := by decide +kernel
theorem dX2_bit_40 : decode cX2_bit 40 = .ok (.ireturn, 1) := by decide +kernel
theorem dX2_look_0 : decode cX2_look 0 = .ok (.aload_n 0, 1) := by decide +kernel
theorem dX2_look_1 : decode cX2_look 1 = .ok (.aload_n 0, 1) := by decide +kernel
theorem dX2_look_2 : decode cX2_look 2 = .ok (.getfield 13, 3) := by decide +kernel
theorem dX2_look_5 : decode cX2_look 5 = .ok (.bipush 8, 2) := by decide +kernel
theorem dX2_look_7 : decode cX2_look 7 = .ok (.iload_n 1, 1) := by decide +kernel
theorem dX2_look_8 : decode cX2_look 8 = .ok (.imul, 1) := by decide +kernel
theorem dX2_look_9 : decode cX2_look 9 = .ok (.iconst 4, 1) := by decide +kernel
theorem dX2_look_10 : decode cX2_look 10 = .ok (.iadd, 1) := by decide +kernel
theorem dX2_look_11 : decode cX2_look 11 = .ok (.iaload, 1) := by decide +kernel
theorem dX2_look_12 : decode cX2_look 12 = .ok (.invokevirtual 71, 3) := by decide +kernel
theorem dX2_look_15 : decode cX2_look 15 = .ok (.istore 5, 2) := by decide +kernel
theorem dX2_look_17 : decode cX2_look 17 = .ok (.aload_n 0, 1) := by decide +kernel
theorem dX2_look_18 : decode cX2_look 18 = .ok (.iload_n 1, 1) := by decide +kernel
theorem dX2_look_19 : decode cX2_look 19 = .ok (.iload_n 2, 1) := by decide +kernel
theorem dX2_look_20 : decode cX2_look 20 = .ok (.invokevirtual 75, 3) := by decide +kernel
theorem dX2_look_23 : decode cX2_look 23 = .ok (.iload 4, 2) := by decide +kernel
theorem dX2_look_25 : decode cX2_look 25 = .ok (.aload_n 0, 1) := by decide +kernel
theorem dX2_look_26 : decode cX2_look 26 = .ok (.iload_n 1, 1) := by decide +kernel
theorem dX2_look_27 : decode cX2_look 27 = .ok (.iload_n 2, 1) := by decide +kernel
theorem dX2_look_28 : decode cX2_look 28 = .ok (.invokevirtual 56, 3) := by decide +kernel
theorem dX2_look_31 : decode cX2_look 31 = .ok (.imul, 1) := by decide +kernel
theorem dX2_look_32 : decode cX2_look 32 = .ok (.iadd, 1) := by decide +kernel
theorem dX2_look_33 : decode cX2_look 33 = .ok (.iload_n 3, 1) := by decide +kernel
theorem dX2_look_34 : decode cX2_look 34 = .ok (.iadd, 1) := by decide +kernel
theorem dX2_look_35 : decode cX2_look 35 = .ok (.i2l, 1) := by decide +kernel
theorem dX2_look_36 : decode cX2_look 36 = .ok (.iload 5, 2) := by decide +kernel
theorem dX2_look_38 : decode cX2_look 38 = .ok (.i2l, 1) := by decide +kernel
theorem dX2_look_39 : decode cX2_look 39 = .ok (.lmul, 1) := by decide +kernel
theorem dX2_look_40 : decode cX2_look 40 = .ok (.lstore 6, 2) := by decide +kernel
theorem dX2_look_42 : decode cX2_look 42 = .ok (.iconst 0, 1) := by decide +kernel
theorem dX2_look_43 : decode cX2_look 43 = .ok (.istore 8, 2) := by decide +kernel
theorem dX2_look_45 : decode cX2_look 45 = .ok (.iload 8, 2) := by decide +kernel
theorem dX2_look_47 : decode cX2_look 47 = .ok (.iconst 4, 1) := by decide +kernel
theorem dX2_look_48 : decode cX2_look 48 = .ok (.if_icmp .ge 122, 3) := by decide +kernel
theorem dX2_look_51 : decode cX2_look 51 = .ok (.iconst 0, 1) := by decide +kernel
theorem dX2_look_52 : decode cX2_look 52 = .ok (.istore 9, 2) := by decide +kernel
theorem dX2_look_54 : decode cX2_look 54 = .ok (.aload_n 0, 1) := by decide +kernel
theorem dX2_look_55 : decode cX2_look 55 = .ok (.getfield 37, 3) := by decide +kernel
theorem dX2_look_58 : decode cX2_look 58 = .ok (.iload 8, 2) := by decide +kernel
theorem dX2_look_60 : decode cX2_look 60 = .ok (.iaload, 1) := by decide +kernel
theorem dX2_look_61 : decode cX2_look 61 = .ok (.iconst 1, 1) := by decide +kernel
theorem dX2_look_62 : decode cX2_look 62 = .ok (.isub, 1) := by decide +kernel
theorem dX2_look_63 : decode cX2_look 63 = .ok (.istore 10, 2) := by decide +kernel
theorem dX2_look_65 : decode cX2_look 65 = .ok (.iload 10, 2) := by decide +kernel
theorem dX2_look_67 : decode cX2_look 67 = .ok (.ifCond .lt 44, 3) := by decide +kernel
theorem dX2_look_70 : decode cX2_look 70 = .ok (.iconst 2, 1) := by decide +kernel
theorem dX2_look_71 : decode cX2_look 71 = .ok (.iload 9, 2) := by decide +kernel
theorem dX2_look_73 : decode cX2_look 73 = .ok (.imul, 1) := by decide +kernel
theorem dX2_look_74 : decode cX2_look 74 = .ok (.aload_n 0, 1) := by decide +kernel
theorem dX2_look_75 : decode cX2_look 75 = .ok (.aload_n 0, 1) := by decide +kernel
theorem dX2_look_76 : decode cX2_look 76 = .ok (.getfield 13, 3) := by decide +kernel
theorem dX2_look_79 : decode cX2_look 79 = .ok (.bipush 8, 2) := by decide +kernel
theorem dX2_look_81 : decode cX2_look 81 = .ok (.iload_n 1, 1) := by decide +kernel
theorem dX2_look_82 : decode cX2_look 82 = .ok (.imul, 1) := by decide +kernel
theorem dX2_look_83 : decode cX2_look 83 = .ok (.iaload, 1) := by decide +kernel
theorem dX2_look_84 : decode cX2_look 84 = .ok (.lload 6, 2) := by decide +kernel
theorem dX2_look_86 : decode cX2_look 86 = .ok (.aload_n 0, 1) := by decide +kernel
theorem dX2_look_87 : decode cX2_look 87 = .ok (.getfield 34, 3) := by decide +kernel
theorem dX2_look_90 : decode cX2_look 90 = .ok (.iload 8, 2) := by decide +kernel
theorem dX2_look_92 : decode cX2_look 92 = .ok (.iaload, 1) := by decide +kernel
theorem dX2_look_93 : decode cX2_look 93 = .ok (.i2l, 1) := by decide +kernel
theorem dX2_look_94 : decode cX2_look 94 = .ok (.ladd, 1) := by decide +kernel
theorem dX2_look_95 : decode cX2_look 95 = .ok (.iload 10, 2) := by decide +kernel
theorem dX2_look_97 : decode cX2_look 97 = .ok (.i2l, 1) := by decide +kernel
theorem dX2_look_98 : decode cX2_look 98 = .ok (.ladd, 1) := by decide +kernel
theorem dX2_look_99 : decode cX2_look 99 = .ok (.invokevirtual 78, 3) := by decide +kernel
theorem dX2_look_102 : decode cX2_look 102 = .ok (.iadd, 1) := by decide +kernel
theorem dX2_look_103 : decode cX2_look 103 = .ok (.istore 9, 2) := by decide +kernel
theorem dX2_look_105 : decode cX2_look 105 = .ok (.iinc 10 (-1), 3) := by decide +kernel
theorem dX2_look_108 : decode cX2_look 108 = .ok (.goto (-43), 3) := by decide +kernel
theorem dX2_look_111 : decode cX2_look 111 = .ok (.iconst 1, 1) := by decide +kernel
theorem dX2_look_112 : decode cX2_look 112 = .ok (.aload_n 0, 1) := by decide +kernel
theorem dX2_look_113 : decode cX2_look 113 = .ok (.getfield 37, 3) := by decide +kernel
theorem dX2_look_116 : decode cX2_look 116 = .ok (.iload 8, 2) := by decide +kernel
theorem dX2_look_118 : decode cX2_look 118 = .ok (.iaload, 1) := by decide +kernel
theorem dX2_look_119 : decode cX2_look 119 = .ok (.ishl, 1) := by decide +kernel
theorem dX2_look_120 : decode cX2_look 120 = .ok (.iconst 1, 1) := by decide +kernel
theorem dX2_look_121 : decode cX2_look 121 = .ok (.isub, 1) := by decide +kernel
theorem dX2_look_122 : decode cX2_look 122 = .ok (.istore 10, 2) := by decide +kernel
theorem dX2_look_124 : decode cX2_look 124 = .ok (.aload_n 0, 1) := by decide +kernel
theorem dX2_look_125 : decode cX2_look 125 = .ok (.getfield 22, 3) := by decide +kernel
theorem dX2_look_128 : decode cX2_look 128 = .ok (.iload 8, 2) := by decide +kernel
theorem dX2_look_130 : decode cX2_look 130 = .ok (.iload 10, 2) := by decide +kernel
theorem dX2_look_132 : decode cX2_look 132 = .ok (.ifCond .ne 18, 3) := by decide +kernel
theorem dX2_look_135 : decode cX2_look 135 = .ok (.iload 8, 2) := by decide +kernel
theorem dX2_look_137 : decode cX2_look 137 = .ok (.iconst 3, 1) := by decide +kernel
theorem dX2_look_138 : decode cX2_look 138 = .ok (.if_icmp .ne 8, 3) := by decide +kernel
theorem dX2_look_141 : decode cX2_look 141 = .ok (.ldc 82, 2) := by decide +kernel
theorem dX2_look_143 : decode cX2_look 143 = .ok (.goto 20, 3) := by decide +kernel
theorem dX2_look_146 : decode cX2_look 146 = .ok (.iconst 0, 1) := by decide +kernel
theorem dX2_look_147 : decode cX2_look 147 = .ok (.goto 16, 3) := by decide +kernel
theorem dX2_look_150 : decode cX2_look 150 = .ok (.ldc 83, 2) := by decide +kernel
theorem dX2_look_152 : decode cX2_look 152 = .ok (.iload 9, 2) := by decide +kernel
theorem dX2_look_154 : decode cX2_look 154 = .ok (.imul, 1) := by decide +kernel
theorem dX2_look_155 : decode cX2_look 155 = .ok (.iload 10, 2) := by decide +kernel
theorem dX2_look_157 : decode cX2_look 157 = .ok (.iadd, 1) := by decide +kernel
theorem dX2_look_158 : decode cX2_look 158 = .ok (.iconst 2, 1) := by decide +kernel
theorem dX2_look_159 : decode cX2_look 159 = .ok (.iload 10, 2) := by decide +kernel
theorem dX2_look_161 : decode cX2_look 161 = .ok (.imul, 1) := by decide +kernel
theorem dX2_look_162 : decode cX2_look 162 = .ok (.idiv, 1) := by decide +kernel
theorem dX2_look_163 : decode cX2_look 163 = .ok (.iastore, 1) := by decide +kernel
theorem dX2_look_164 : decode cX2_look 164 = .ok (.iinc 8 1, 3) := by decide +kernel
theorem dX2_look_167 : decode cX2_look 167 = .ok (.goto (-122), 3) := by decide +kernel
theorem dX2_look_170 : decode cX2_look 170 = .ok (.return_, 1) := by decide +kernel
theorem dX2_wrap_0 : decode cX2_wrap 0 = .ok (.iload_n 2, 1) := by decide +kernel
theorem dX2_wrap_1 : decode cX2_wrap 1 = .ok (.iconst 2, 1) := by decide +kernel
theorem dX2_wrap_2 : decode cX2_wrap 2 = .ok (.if_icmp .ne 9, 3) := by decide +kernel
theorem dX2_wrap_5 : decode cX2_wrap 5 = .ok (.iconst 2, 1) := by decide +kernel
theorem dX2_wrap_6 : decode cX2_wrap 6 = .ok (.iload_n 1, 1) := by decide +kernel
theorem dX2_wrap_7 : decode cX2_wrap 7 = .ok (.imul, 1) := by decide +kernel
theorem dX2_wrap_8 : decode cX2_wrap 8 = .ok (.goto 4, 3) := by decide +kernel
theorem dX2_wrap_11 : decode cX2_wrap 11 = .ok (.iload_n 1, 1) := by decide +kernel
theorem dX2_wrap_12 : decode cX2_wrap 12 = .ok (.istore_n 3, 1) := by decide +kernel
theorem dX2_wrap_13 : decode cX2_wrap 13 = .ok (.iload_n 0, 1) := by decide +kernel
theorem dX2_wrap_14 : decode cX2_wrap 14 = .ok (.iload_n 3, 1) := by decide +kernel
theorem dX2_wrap_15 : decode cX2_wrap 15 = .ok (.irem, 1) := by decide +kernel
theorem dX2_wrap_16 : decode cX2_wrap 16 = .ok (.iload_n 3, 1) := by decide +kernel
theorem dX2_wrap_17 : decode cX2_wrap 17 = .ok (.iadd, 1) := by decide +kernel
theorem dX2_wrap_18 : decode cX2_wrap 18 = .ok (.iload_n 3, 1) := by decide +kernel
theorem dX2_wrap_19 : decode cX2_wrap 19 = .ok (.irem, 1) := by decide +kernel
theorem dX2_wrap_20 : decode cX2_wrap 20 = .ok (.istore 4, 2) := by decide +kernel
theorem dX2_wrap_22 : decode cX2_wrap 22 = .ok (.iload_n 2, 1) := by decide +kernel
theorem dX2_wrap_23 : decode cX2_wrap 23 = .ok (.tableswitch 69 0 2 #[25, 28, 49], 25) := by decide +kernel
theorem dX2_wrap_48 : decode cX2_wrap 48 = .ok (.iload 4, 2) := by decide +kernel
theorem dX2_wrap_50 : decode cX2_wrap 50 = .ok (.ireturn, 1) := by decide +kernel
theorem dX2_wrap_51 : decode cX2_wrap 51 = .ok (.iload_n 0, 1) := by decide +kernel
theorem dX2_wrap_52 : decode cX2_wrap 52 = .ok (.ifCond .ge 7, 3) := by decide +kernel
theorem dX2_wrap_55 : decode cX2_wrap 55 = .ok (.iconst 0, 1) := by decide +kernel
theorem dX2_wrap_56 : decode cX2_wrap 56 = .ok (.goto 15, 3) := by decide +kernel
theorem dX2_wrap_59 : decode cX2_wrap 59 = .ok (.iload_n 0, 1) := by decide +kernel
theorem dX2_wrap_60 : decode cX2_wrap 60 = .ok (.iload_n 1, 1) := by decide +kernel
theorem dX2_wrap_61 : decode cX2_wrap 61 = .ok (.if_icmp .lt 9, 3) := by decide +kernel
theorem dX2_wrap_64 : decode cX2_wrap 64 = .ok (.iload_n 1, 1) := by decide +kernel
theorem dX2_wrap_65 : decode cX2_wrap 65 = .ok (.iconst 1, 1) := by decide +kernel
theorem dX2_wrap_66 : decode cX2_wrap 66 = .ok (.isub, 1) := by decide +kernel
theorem dX2_wrap_67 : decode cX2_wrap 67 = .ok (.goto 4, 3) := by decide +kernel
theorem dX2_wrap_70 : decode cX2_wrap 70 = .ok (.iload_n 0, 1) := by decide +kernel
theorem dX2_wrap_71 : decode cX2_wrap 71 = .ok (.ireturn, 1) := by decide +kernel
theorem dX2_wrap_72 : decode cX2_wrap 72 = .ok (.iload 4, 2) := by decide +kernel
theorem dX2_wrap_74 : decode cX2_wrap 74 = .ok (.iload_n 1, 1) := by decide +kernel
theorem dX2_wrap_75 : decode cX2_wrap 75 = .ok (.if_icmp .ge 8, 3) := by decide +kernel
theorem dX2_wrap_78 : decode cX2_wrap 78 = .ok (.iload 4, 2) := by decide +kernel
theorem dX2_wrap_80 : decode cX2_wrap 80 = .ok (.goto 11, 3) := by decide +kernel
theorem dX2_wrap_83 : decode cX2_wrap 83 = .ok (.iconst 2, 1) := by decide +kernel
theorem dX2_wrap_84 : decode cX2_wrap 84 = .ok (.iload_n 1, 1) := by decide +kernel
theorem dX2_wrap_85 : decode cX2_wrap 85 = .ok (.imul, 1) := by decide +kernel
theorem dX2_wrap_86 : decode cX2_wrap 86 = .ok (.iconst 1, 1) := by decide +kernel
theorem dX2_wrap_87 : decode cX2_wrap 87 = .ok (.isub, 1) := by decide +kernel
theorem dX2_wrap_88 : decode cX2_wrap 88 = .ok (.iload 4, 2) := by decide +kernel
theorem dX2_wrap_90 : decode cX2_wrap 90 = .ok (.isub, 1) := by decide +kernel
theorem dX2_wrap_91 : decode cX2_wrap 91 = .ok (.ireturn, 1) := by decide +kernel
theorem dX2_wrap_92 : decode cX2_wrap 92 = .ok (.iload_n 0, 1) := by decide +kernel
theorem dX2_wrap_93 : decode cX2_wrap 93 = .ok (.ifCond .lt 12, 3) := by decide +kernel
theorem dX2_wrap_96 : decode cX2_wrap 96 = .ok (.iload_n 0, 1) := by decide +kernel
theorem dX2_wrap_97 : decode cX2_wrap 97 = .ok (.iload_n 1, 1) := by decide +kernel
theorem dX2_wrap_98 : decode cX2_wrap 98 = .ok (.if_icmp .ge 7, 3) := by decide +kernel
theorem dX2_wrap_101 : decode cX2_wrap 101 = .ok (.iload_n 0, 1) := by decide +kernel
theorem dX2_wrap_102 : decode cX2_wrap 102 = .ok (.goto 4, 3) := by decide +kernel
theorem dX2_wrap_105 : decode cX2_wrap 105 = .ok (.iconst (-1), 1) := by decide +kernel
theorem dX2_wrap_106 : decode cX2_wrap 106 = .ok (.ireturn, 1) := by decide +kernel
theorem dX2_wrapped_0 : decode cX2_wrapped 0 = .ok (.iload_n 3, 1) := by decide +kernel
theorem dX2_wrapped_1 : decode cX2_wrapped 1 = .ok (.aload_n 0, 1) := by decide +kernel
theorem dX2_wrapped_2 : decode cX2_wrapped 2 = .ok (.iload_n 1, 1) := by decide +kernel
theorem dX2_wrapped_3 : decode cX2_wrapped 3 = .ok (.iload_n 2, 1) := by decide +kernel
theorem dX2_wrapped_4 : decode cX2_wrapped 4 = .ok (.invokevirtual 56, 3) := by decide +kernel
theorem dX2_wrapped_7 : decode cX2_wrapped 7 = .ok (.aload_n 0, 1) := by decide +kernel
theorem dX2_wrapped_8 : decode cX2_wrapped 8 = .ok (.getfield 13, 3) := by decide +kernel
theorem dX2_wrapped_11 : decode cX2_wrapped 11 = .ok (.bipush 8, 2) := by decide +kernel
theorem dX2_wrapped_13 : decode cX2_wrapped 13 = .ok (.iload_n 1, 1) := by decide +kernel
theorem dX2_wrapped_14 : decode cX2_wrapped 14 = .ok (.imul, 1) := by decide +kernel
theorem dX2_wrapped_15 : decode cX2_wrapped 15 = .ok (.iconst 5, 1) := by decide +kernel
theorem dX2_wrapped_16 : decode cX2_wrapped 16 = .ok (.iadd, 1) := by decide +kernel
theorem dX2_wrapped_17 : decode cX2_wrapped 17 = .ok (.iaload, 1) := by decide +kernel
theorem dX2_wrapped_18 : decode cX2_wrapped 18 = .ok (.invokestatic 84, 3) := by decide +kernel
theorem dX2_wrapped_21 : decode cX2_wrapped 21 = .ok (.istore 5, 2) := by decide +kernel
theorem dX2_wrapped_23 : decode cX2_wrapped 23 = .ok (.iload 4, 2) := by decide +kernel
theorem dX2_wrapped_25 : decode cX2_wrapped 25 = .ok (.aload_n 0, 1) := by decide +kernel
theorem dX2_wrapped_26 : decode cX2_wrapped 26 = .ok (.iload_n 1, 1) := by decide +kernel
theorem dX2_wrapped_27 : decode cX2_wrapped 27 = .ok (.iload_n 2, 1) := by decide +kernel
theorem dX2_wrapped_28 : decode cX2_wrapped 28 = .ok (.invokevirtual 60, 3) := by decide +kernel
theorem dX2_wrapped_31 : decode cX2_wrapped 31 = .ok (.aload_n 0, 1) := by decide +kernel
theorem dX2_wrapped_32 : decode cX2_wrapped 32 = .ok (.getfield 13, 3) := by decide +kernel
theorem dX2_wrapped_35 : decode cX2_wrapped 35 = .ok (.bipush 8, 2) := by decide +kernel
theorem dX2_wrapped_37 : decode cX2_wrapped 37 = .ok (.iload_n 1, 1) := by decide +kernel
theorem dX2_wrapped_38 : decode cX2_wrapped 38 = .ok (.imul, 1) := by decide +kernel
theorem dX2_wrapped_39 : decode cX2_wrapped 39 = .ok (.bipush 6, 2) := by decide +kernel
theorem dX2_wrapped_41 : decode cX2_wrapped 41 = .ok (.iadd, 1) := by decide +kernel
theorem dX2_wrapped_42 : decode cX2_wrapped 42 = .ok (.iaload, 1) := by decide +kernel
theorem dX2_wrapped_43 : decode cX2_wrapped 43 = .ok (.invokestatic 84, 3) := by decide +kernel
theorem dX2_wrapped_46 : decode cX2_wrapped 46 = .ok (.istore 6, 2) := by decide +kernel
theorem dX2_wrapped_48 : decode cX2_wrapped 48 = .ok (.iload 5, 2) := by decide +kernel
theorem dX2_wrapped_50 : decode cX2_wrapped 50 = .ok (.ifCond .lt 19, 3) := by decide +kernel
theorem dX2_wrapped_53 : decode cX2_wrapped 53 = .ok (.iload 6, 2) := by decide +kernel
theorem dX2_wrapped_55 : decode cX2_wrapped 55 = .ok (.ifCond .lt 14, 3) := by decide +kernel
theorem dX2_wrapped_58 : decode cX2_wrapped 58 = .ok (.aload_n 0, 1) := by decide +kernel
theorem dX2_wrapped_59 : decode cX2_wrapped 59 = .ok (.iload_n 1, 1) := by decide +kernel
theorem dX2_wrapped_60 : decode cX2_wrapped 60 = .ok (.iload_n 2, 1) := by decide +kernel
theorem dX2_wrapped_61 : decode cX2_wrapped 61 = .ok (.iload 5, 2) := by decide +kernel
theorem dX2_wrapped_63 : decode cX2_wrapped 63 = .ok (.iload 6, 2) := by decide +kernel
theorem dX2_wrapped_65 : decode cX2_wrapped 65 = .ok (.invokevirtual 87, 3) := by decide +kernel
theorem dX2_wrapped_68 : decode cX2_wrapped 68 = .ok (.return_, 1) := by decide +kernel
theorem dX2_wrapped_69 : decode cX2_wrapped 69 = .ok (.iconst 0, 1) := by decide +kernel
theorem dX2_wrapped_70 : decode cX2_wrapped 70 = .ok (.istore 7, 2) := by decide +kernel
theorem dX2_wrapped_72 : decode cX2_wrapped 72 = .ok (.iload 7, 2) := by decide +kernel
theorem dX2_wrapped_74 : decode cX2_wrapped 74 = .ok (.iconst 4, 1) := by decide +kernel
theorem dX2_wrapped_75 : decode cX2_wrapped 75 = .ok (.if_icmp .ge 27, 3) := by decide +kernel
theorem dX2_wrapped_78 : decode cX2_wrapped 78 = .ok (.aload_n 0, 1) := by decide +kernel
theorem dX2_wrapped_79 : decode cX2_wrapped 79 = .ok (.getfield 22, 3) := by decide +kernel
theorem dX2_wrapped_82 : decode cX2_wrapped 82 = .ok (.iload 7, 2) := by decide +kernel
theorem dX2_wrapped_84 : decode cX2_wrapped 84 = .ok (.aload_n 0, 1) := by decide +kernel
theorem dX2_wrapped_85 : decode cX2_wrapped 85 = .ok (.getfield 16, 3) := by decide +kernel
theorem dX2_wrapped_88 : decode cX2_wrapped 88 = .ok (.iconst 4, 1) := by decide +kernel
theorem dX2_wrapped_89 : decode cX2_wrapped 89 = .ok (.iload_n 1, 1) := by decide +kernel
theorem dX2_wrapped_90 : decode cX2_wrapped 90 = .ok (.imul, 1) := by decide +kernel
theorem dX2_wrapped_91 : decode cX2_wrapped 91 = .ok (.iload 7, 2) := by decide +kernel
theorem dX2_wrapped_93 : decode cX2_wrapped 93 = .ok (.iadd, 1) := by decide +kernel
theorem dX2_wrapped_94 : decode cX2_wrapped 94 = .ok (.iaload, 1) := by decide +kernel
theorem dX2_wrapped_95 : decode cX2_wrapped 95 = .ok (.iastore, 1) := by decide +kernel
theorem dX2_wrapped_96 : decode cX2_wrapped 96 = .ok (.iinc 7 1, 3) := by decide +kernel
theorem dX2_wrapped_99 : decode cX2_wrapped 99 = .ok (.goto (-27), 3) := by decide +kernel
theorem dX2_wrapped_102 : decode cX2_wrapped 102 = .ok (.return_, 1) := by decide +kernel
theorem dX2_mix_0 : decode cX2_mix 0 = .ok (.iload_n 0, 1) := by decide +kernel
theorem dX2_mix_1 : decode cX2_mix 1 = .ok (.i2l, 1) := by decide +kernel
theorem dX2_mix_2 : decode cX2_mix 2 = .ok (.iload_n 1, 1) := by decide +kernel
theorem dX2_mix_3 : decode cX2_mix 3 = .ok (.i2l, 1) := by decide +kernel
theorem dX2_mix_4 : decode cX2_mix 4 = .ok (.iload_n 0, 1) := by decide +kernel
theorem dX2_mix_5 : decode cX2_mix 5 = .ok (.i2l, 1) := by decide +kernel
theorem dX2_mix_6 : decode cX2_mix 6 = .ok (.lsub, 1) := by decide +kernel
theorem dX2_mix_7 : decode cX2_mix 7 = .ok (.iload_n 2, 1) := by decide +kernel
theorem dX2_mix_8 : decode cX2_mix 8 = .ok (.i2l, 1) := by decide +kernel
theorem dX2_mix_9 : decode cX2_mix 9 = .ok (.lmul, 1) := by decide +kernel
theorem dX2_mix_10 : decode cX2_mix 10 = .ok (.bipush 16, 2) := by decide +kernel
theorem dX2_mix_12 : decode cX2_mix 12 = .ok (.lshr, 1) := by decide +kernel
theorem dX2_mix_13 : decode cX2_mix 13 = .ok (.ladd, 1) := by decide +kernel
theorem dX2_mix_14 : decode cX2_mix 14 = .ok (.l2i, 1) := by decide +kernel
theorem dX2_mix_15 : decode cX2_mix 15 = .ok (.ireturn, 1) := by decide +kernel
theorem dX2_mixRow_0 : decode cX2_mixRow 0 = .ok (.aload_n 0, 1) := by decide +kernel
theorem dX2_mixRow_1 : decode cX2_mixRow 1 = .ok (.iload_n 1, 1) := by decide +kernel
theorem dX2_mixRow_2 : decode cX2_mixRow 2 = .ok (.iload_n 2, 1) := by decide +kernel
theorem dX2_mixRow_3 : decode cX2_mixRow 3 = .ok (.iload_n 3, 1) := by decide +kernel
theorem dX2_mixRow_4 : decode cX2_mixRow 4 = .ok (.iload 4, 2) := by decide +kernel
theorem dX2_mixRow_6 : decode cX2_mixRow 6 = .ok (.invokevirtual 91, 3) := by decide +kernel
theorem dX2_mixRow_9 : decode cX2_mixRow 9 = .ok (.iconst 0, 1) := by decide +kernel
theorem dX2_mixRow_10 : decode cX2_mixRow 10 = .ok (.istore 6, 2) := by decide +kernel
theorem dX2_mixRow_12 : decode cX2_mixRow 12 = .ok (.iload 6, 2) := by decide +kernel
theorem dX2_mixRow_14 : decode cX2_mixRow 14 = .ok (.iconst 4, 1) := by decide +kernel
theorem dX2_mixRow_15 : decode cX2_mixRow 15 = .ok (.if_icmp .ge 23, 3) := by decide +kernel
theorem dX2_mixRow_18 : decode cX2_mixRow 18 = .ok (.aload_n 0, 1) := by decide +kernel
theorem dX2_mixRow_19 : decode cX2_mixRow 19 = .ok (.getfield 25, 3) := by decide +kernel
theorem dX2_mixRow_22 : decode cX2_mixRow 22 = .ok (.iload 6, 2) := by decide +kernel
theorem dX2_mixRow_24 : decode cX2_mixRow 24 = .ok (.aload_n 0, 1) := by decide +kernel
theorem dX2_mixRow_25 : decode cX2_mixRow 25 = .ok (.getfield 22, 3) := by decide +kernel
theorem dX2_mixRow_28 : decode cX2_mixRow 28 = .ok (.iload 6, 2) := by decide +kernel
theorem dX2_mixRow_30 : decode cX2_mixRow 30 = .ok (.iaload, 1) := by decide +kernel
theorem dX2_mixRow_31 : decode cX2_mixRow 31 = .ok (.iastore, 1) := by decide +kernel
theorem dX2_mixRow_32 : decode cX2_mixRow 32 = .ok (.iinc 6 1, 3) := by decide +kernel
theorem dX2_mixRow_35 : decode cX2_mixRow 35 = .ok (.goto (-23), 3) := by decide +kernel
theorem dX2_mixRow_38 : decode cX2_mixRow 38 = .ok (.aload_n 0, 1) := by decide +kernel
theorem dX2_mixRow_39 : decode cX2_mixRow 39 = .ok (.iload_n 1, 1) := by decide +kernel
theorem dX2_mixRow_40 : decode cX2_mixRow 40 = .ok (.iload_n 2, 1) := by decide +kernel
theorem dX2_mixRow_41 : decode cX2_mixRow 41 = .ok (.iload_n 3, 1) := by decide +kernel
theorem dX2_mixRow_42 : decode cX2_mixRow 42 = .ok (.iconst 1, 1) := by decide +kernel
theorem dX2_mixRow_43 : decode cX2_mixRow 43 = .ok (.iadd, 1) := by decide +kernel
theorem dX2_mixRow_44 : decode cX2_mixRow 44 = .ok (.iload 4, 2) := by decide +kernel
theorem dX2_mixRow_46 : decode cX2_mixRow 46 = .ok (.invokevirtual 91, 3) := by decide +kernel
theorem dX2_mixRow_49 : decode cX2_mixRow 49 = .ok (.iconst 0, 1) := by decide +kernel
theorem dX2_mixRow_50 : decode cX2_mixRow 50 = .ok (.istore 6, 2) := by decide +kernel
theorem dX2_mixRow_52 : decode cX2_mixRow 52 = .ok (.iload 6, 2) := by decide +kernel
theorem dX2_mixRow_54 : decode cX2_mixRow 54 = .ok (.iconst 4, 1) := by decide +kernel
theorem dX2_mixRow_55 : decode cX2_mixRow 55 = .ok (.if_icmp .ge 35, 3) := by decide +kernel
theorem dX2_mixRow_58 : decode cX2_mixRow 58 = .ok (.aload_n 0, 1) := by decide +kernel
theorem dX2_mixRow_59 : decode cX2_mixRow 59 = .ok (.getfield 25, 3) := by decide +kernel
theorem dX2_mixRow_62 : decode cX2_mixRow 62 = .ok (.iload 6, 2) := by decide +kernel
theorem dX2_mixRow_64 : decode cX2_mixRow 64 = .ok (.aload_n 0, 1) := by decide +kernel
theorem dX2_mixRow_65 : decode cX2_mixRow 65 = .ok (.getfield 25, 3) := by decide +kernel
theorem dX2_mixRow_68 : decode cX2_mixRow 68 = .ok (.iload 6, 2) := by decide +kernel
theorem dX2_mixRow_70 : decode cX2_mixRow 70 = .ok (.iaload, 1) := by decide +kernel
theorem dX2_mixRow_71 : decode cX2_mixRow 71 = .ok (.aload_n 0, 1) := by decide +kernel
theorem dX2_mixRow_72 : decode cX2_mixRow 72 = .ok (.getfield 22, 3) := by decide +kernel
theorem dX2_mixRow_75 : decode cX2_mixRow 75 = .ok (.iload 6, 2) := by decide +kernel
theorem dX2_mixRow_77 : decode cX2_mixRow 77 = .ok (.iaload, 1) := by decide +kernel
theorem dX2_mixRow_78 : decode cX2_mixRow 78 = .ok (.iload 5, 2) := by decide +kernel
theorem dX2_mixRow_80 : decode cX2_mixRow 80 = .ok (.invokestatic 94, 3) := by decide +kernel
theorem dX2_mixRow_83 : decode cX2_mixRow 83 = .ok (.iastore, 1) := by decide +kernel
theorem dX2_mixRow_84 : decode cX2_mixRow 84 = .ok (.iinc 6 1, 3) := by decide +kernel
theorem dX2_mixRow_87 : decode cX2_mixRow 87 = .ok (.goto (-35), 3) := by decide +kernel
theorem dX2_mixRow_90 : decode cX2_mixRow 90 = .ok (.return_, 1) := by decide +kernel
theorem dX2_readLevel_0 : decode cX2_readLevel 0 = .ok (.iload_n 3, 1) := by decide +kernel
theorem dX2_readLevel_1 : decode cX2_readLevel 1 = .ok (.i2l, 1) := by decide +kernel
theorem dX2_readLevel_2 : decode cX2_readLevel 2 = .ok (.aload_n 0, 1) := by decide +kernel
theorem dX2_readLevel_3 : decode cX2_readLevel 3 = .ok (.iload_n 1, 1) := by decide +kernel
theorem dX2_readLevel_4 : decode cX2_readLevel 4 = .ok (.iload_n 2, 1) := by decide +kernel
theorem dX2_readLevel_5 : decode cX2_readLevel 5 = .ok (.iconst 0, 1) := by decide +kernel
theorem dX2_readLevel_6 : decode cX2_readLevel 6 = .ok (.invokevirtual 52, 3) := by decide +kernel
theorem dX2_readLevel_9 : decode cX2_readLevel 9 = .ok (.lshl, 1) := by decide +kernel
theorem dX2_readLevel_10 : decode cX2_readLevel 10 = .ok (.lstore 6, 2) := by decide +kernel
theorem dX2_readLevel_12 : decode cX2_readLevel 12 = .ok (.iload 4, 2) := by decide +kernel
theorem dX2_readLevel_14 : decode cX2_readLevel 14 = .ok (.i2l, 1) := by decide +kernel
theorem dX2_readLevel_15 : decode cX2_readLevel 15 = .ok (.aload_n 0, 1) := by decide +kernel
theorem dX2_readLevel_16 : decode cX2_readLevel 16 = .ok (.iload_n 1, 1) := by decide +kernel
theorem dX2_readLevel_17 : decode cX2_readLevel 17 = .ok (.iload_n 2, 1) := by decide +kernel
theorem dX2_readLevel_18 : decode cX2_readLevel 18 = .ok (.iconst 1, 1) := by decide +kernel
theorem dX2_readLevel_19 : decode cX2_readLevel 19 = .ok (.invokevirtual 52, 3) := by decide +kernel
theorem dX2_readLevel_22 : decode cX2_readLevel 22 = .ok (.lshl, 1) := by decide +kernel
theorem dX2_readLevel_23 : decode cX2_readLevel 23 = .ok (.lstore 8, 2) := by decide +kernel
theorem dX2_readLevel_25 : decode cX2_readLevel 25 = .ok (.iload 5, 2) := by decide +kernel
theorem dX2_readLevel_27 : decode cX2_readLevel 27 = .ok (.ifCond .ne 22, 3) := by decide +kernel
theorem dX2_readLevel_30 : decode cX2_readLevel 30 = .ok (.aload_n 0, 1) := by decide +kernel
theorem dX2_readLevel_31 : decode cX2_readLevel 31 = .ok (.iload_n 1, 1) := by decide +kernel
theorem dX2_readLevel_32 : decode cX2_readLevel 32 = .ok (.iload_n 2, 1) := by decide +kernel
theorem dX2_readLevel_33 : decode cX2_readLevel 33 = .ok (.lload 6, 2) := by decide +kernel
theorem dX2_readLevel_35 : decode cX2_readLevel 35 = .ok (.bipush 16, 2) := by decide +kernel
theorem dX2_readLevel_37 : decode cX2_readLevel 37 = .ok (.lshr, 1) := by decide +kernel
theorem dX2_readLevel_38 : decode cX2_readLevel 38 = .ok (.l2i, 1) := by decide +kernel
theorem dX2_readLevel_39 : decode cX2_readLevel 39 = .ok (.lload 8, 2) := by decide +kernel
theorem dX2_readLevel_41 : decode cX2_readLevel 41 = .ok (.bipush 16, 2) := by decide +kernel
theorem dX2_readLevel_43 : decode cX2_readLevel 43 = .ok (.lshr, 1) := by decide +kernel
theorem dX2_readLevel_44 : decode cX2_readLevel 44 = .ok (.l2i, 1) := by decide +kernel
theorem dX2_readLevel_45 : decode cX2_readLevel 45 = .ok (.invokevirtual 91, 3) := by decide +kernel
theorem dX2_readLevel_48 : decode cX2_readLevel 48 = .ok (.return_, 1) := by decide +kernel
theorem dX2_readLevel_49 : decode cX2_readLevel 49 = .ok (.lload 6, 2) := by decide +kernel
theorem dX2_readLevel_51 : decode cX2_readLevel 51 = .ok (.ldc2_w 97, 3) := by decide +kernel
theorem dX2_readLevel_54 : decode cX2_readLevel 54 = .ok (.lsub, 1) := by decide +kernel
theorem dX2_readLevel_55 : decode cX2_readLevel 55 = .ok (.lstore 6, 2) := by decide +kernel
theorem dX2_readLevel_57 : decode cX2_readLevel 57 = .ok (.lload 8, 2) := by decide +kernel
theorem dX2_readLevel_59 : decode cX2_readLevel 59 = .ok (.ldc2_w 97, 3) := by decide +kernel
theorem dX2_readLevel_62 : decode cX2_readLevel 62 = .ok (.lsub, 1) := by decide +kernel
theorem dX2_readLevel_63 : decode cX2_readLevel 63 = .ok (.lstore 8, 2) := by decide +kernel
theorem dX2_readLevel_65 : decode cX2_readLevel 65 = .ok (.lload 6, 2) := by decide +kernel
theorem dX2_readLevel_67 : decode cX2_readLevel 67 = .ok (.bipush 16, 2) := by decide +kernel
theorem dX2_readLevel_69 : decode cX2_readLevel 69 = .ok (.lshr, 1) := by decide +kernel
theorem dX2_readLevel_70 : decode cX2_readLevel 70 = .ok (.l2i, 1) := by decide +kernel
theorem dX2_readLevel_71 : decode cX2_readLevel 71 = .ok (.istore 10, 2) := by decide +kernel
theorem dX2_readLevel_73 : decode cX2_readLevel 73 = .ok (.lload 8, 2) := by decide +kernel
theorem dX2_readLevel_75 : decode cX2_readLevel 75 = .ok (.bipush 16, 2) := by decide +kernel
theorem dX2_readLevel_77 : decode cX2_readLevel 77 = .ok (.lshr, 1) := by decide +kernel
theorem dX2_readLevel_78 : decode cX2_readLevel 78 = .ok (.l2i, 1) := by decide +kernel
theorem dX2_readLevel_79 : decode cX2_readLevel 79 = .ok (.istore 11, 2) := by decide +kernel
theorem dX2_readLevel_81 : decode cX2_readLevel 81 = .ok (.aload_n 0, 1) := by decide +kernel
theorem dX2_readLevel_82 : decode cX2_readLevel 82 = .ok (.iload_n 1, 1) := by decide +kernel
theorem dX2_readLevel_83 : decode cX2_readLevel 83 = .ok (.iload_n 2, 1) := by decide +kernel
theorem dX2_readLevel_84 : decode cX2_readLevel 84 = .ok (.iload 10, 2) := by decide +kernel
theorem dX2_readLevel_86 : decode cX2_readLevel 86 = .ok (.iload 11, 2) := by decide +kernel
theorem dX2_readLevel_88 : decode cX2_readLevel 88 = .ok (.lload 6, 2) := by decide +kernel
theorem dX2_readLevel_90 : decode cX2_readLevel 90 = .ok (.ldc2_w 99, 3) := by decide +kernel
theorem dX2_readLevel_93 : decode cX2_readLevel 93 = .ok (.land, 1) := by decide +kernel
theorem dX2_readLevel_94 : decode cX2_readLevel 94 = .ok (.l2i, 1) := by decide +kernel
theorem dX2_readLevel_95 : decode cX2_readLevel 95 = .ok (.invokevirtual 101, 3) := by decide +kernel
theorem dX2_readLevel_98 : decode cX2_readLevel 98 = .ok (.iconst 0, 1) := by decide +kernel
theorem dX2_readLevel_99 : decode cX2_readLevel 99 = .ok (.istore 12, 2) := by decide +kernel
theorem dX2_readLevel_101 : decode cX2_readLevel 101 = .ok (.iload 12, 2) := by decide +kernel
theorem dX2_readLevel_103 : decode cX2_readLevel 103 = .ok (.iconst 4, 1) := by decide +kernel
theorem dX2_readLevel_104 : decode cX2_readLevel 104 = .ok (.if_icmp .ge 23, 3) := by decide +kernel
theorem dX2_readLevel_107 : decode cX2_readLevel 107 = .ok (.aload_n 0, 1) := by decide +kernel
theorem dX2_readLevel_108 : decode cX2_readLevel 108 = .ok (.getfield 28, 3) := by decide +kernel
theorem dX2_readLevel_111 : decode cX2_readLevel 111 = .ok (.iload 12, 2) := by decide +kernel
theorem dX2_readLevel_113 : decode cX2_readLevel 113 = .ok (.aload_n 0, 1) := by decide +kernel
theorem dX2_readLevel_114 : decode cX2_readLevel 114 = .ok (.getfield 25, 3) := by decide +kernel
theorem dX2_readLevel_117 : decode cX2_readLevel 117 = .ok (.iload 12, 2) := by decide +kernel
theorem dX2_readLevel_119 : decode cX2_readLevel 119 = .ok (.iaload, 1) := by decide +kernel
theorem dX2_readLevel_120 : decode cX2_readLevel 120 = .ok (.iastore, 1) := by decide +kernel
theorem dX2_readLevel_121 : decode cX2_readLevel 121 = .ok (.iinc 12 1, 3) := by decide +kernel
theorem dX2_readLevel_124 : decode cX2_readLevel 124 = .ok (.goto (-23), 3) := by decide +kernel
theorem dX2_readLevel_127 : decode cX2_readLevel 127 = .ok (.aload_n 0, 1) := by decide +kernel
theorem dX2_readLevel_128 : decode cX2_readLevel 128 = .ok (.iload_n 1, 1) := by decide +kernel
theorem dX2_readLevel_129 : decode cX2_readLevel 129 = .ok (.iload_n 2, 1) := by decide +kernel
theorem dX2_readLevel_130 : decode cX2_readLevel 130 = .ok (.iload 10, 2) := by decide +kernel
theorem dX2_readLevel_132 : decode cX2_readLevel 132 = .ok (.iload 11, 2) := by decide +kernel
theorem dX2_readLevel_134 : decode cX2_readLevel 134 = .ok (.iconst 1, 1) := by decide +kernel
theorem dX2_readLevel_135 : decode cX2_readLevel 135 = .ok (.iadd, 1) := by decide +kernel
theorem dX2_readLevel_136 : decode cX2_readLevel 136 = .ok (.lload 6, 2) := by decide +kernel
theorem dX2_readLevel_138 : decode cX2_readLevel 138 = .ok (.ldc2_w 99, 3) := by decide +kernel
theorem dX2_readLevel_141 : decode cX2_readLevel 141 = .ok (.land, 1) := by decide +kernel
theorem dX2_readLevel_142 : decode cX2_readLevel 142 = .ok (.l2i, 1) := by decide +kernel
theorem dX2_readLevel_143 : decode cX2_readLevel 143 = .ok (.invokevirtual 101, 3) := by decide +kernel
theorem dX2_readLevel_146 : decode cX2_readLevel 146 = .ok (.iconst 0, 1) := by decide +kernel
theorem dX2_readLevel_147 : decode cX2_readLevel 147 = .ok (.istore 12, 2) := by decide +kernel
theorem dX2_readLevel_149 : decode cX2_readLevel 149 = .ok (.iload 12, 2) := by decide +kernel
theorem dX2_readLevel_151 : decode cX2_readLevel 151 = .ok (.iconst 4, 1) := by decide +kernel
theorem dX2_readLevel_152 : decode cX2_readLevel 152 = .ok (.if_icmp .ge 40, 3) := by decide +kernel
theorem dX2_readLevel_155 : decode cX2_readLevel 155 = .ok (.aload_n 0, 1) := by decide +kernel
theorem dX2_readLevel_156 : decode cX2_readLevel 156 = .ok (.getfield 22, 3) := by decide +kernel
theorem dX2_readLevel_159 : decode cX2_readLevel 159 = .ok (.iload 12, 2) := by decide +kernel
theorem dX2_readLevel_161 : decode cX2_readLevel 161 = .ok (.aload_n 0, 1) := by decide +kernel
theorem dX2_readLevel_162 : decode cX2_readLevel 162 = .ok (.getfield 28, 3) := by decide +kernel
theorem dX2_readLevel_165 : decode cX2_readLevel 165 = .ok (.iload 12, 2) := by decide +kernel
theorem dX2_readLevel_167 : decode cX2_readLevel 167 = .ok (.iaload, 1) := by decide +kernel
theorem dX2_readLevel_168 : decode cX2_readLevel 168 = .ok (.aload_n 0, 1) := by decide +kernel
theorem dX2_readLevel_169 : decode cX2_readLevel 169 = .ok (.getfield 25, 3) := by decide +kernel
theorem dX2_readLevel_172 : decode cX2_readLevel 172 = .ok (.iload 12, 2) := by decide +kernel
theorem dX2_readLevel_174 : decode cX2_readLevel 174 = .ok (.iaload, 1) := by decide +kernel
theorem dX2_readLevel_175 : decode cX2_readLevel 175 = .ok (.lload 8, 2) := by decide +kernel
theorem dX2_readLevel_177 : decode cX2_readLevel 177 = .ok (.ldc2_w 99, 3) := by decide +kernel
theorem dX2_readLevel_180 : decode cX2_readLevel 180 = .ok (.land, 1) := by decide +kernel
theorem dX2_readLevel_181 : decode cX2_readLevel 181 = .ok (.l2i, 1) := by decide +kernel
theorem dX2_readLevel_182 : decode cX2_readLevel 182 = .ok (.invokestatic 94, 3) := by decide +kernel
theorem dX2_readLevel_185 : decode cX2_readLevel 185 = .ok (.iastore, 1) := by decide +kernel
theorem dX2_readLevel_186 : decode cX2_readLevel 186 = .ok (.iinc 12 1, 3) := by decide +kernel
theorem dX2_readLevel_189 : decode cX2_readLevel 189 = .ok (.goto (-40), 3) := by decide +kernel
theorem dX2_readLevel_192 : decode cX2_readLevel 192 = .ok (.return_, 1) := by decide +kernel
theorem dX2_texel_0 : decode cX2_texel 0 = .ok (.iload_n 1, 1) := by decide +kernel
theorem dX2_texel_1 : decode cX2_texel 1 = .ok (.iconst 0, 1) := by decide +kernel
theorem dX2_texel_2 : decode cX2_texel 2 = .ok (.iconst 3, 1) := by decide +kernel
theorem dX2_texel_3 : decode cX2_texel 3 = .ok (.invokestatic 44, 3) := by decide +kernel
theorem dX2_texel_6 : decode cX2_texel 6 = .ok (.istore 6, 2) := by decide +kernel
theorem dX2_texel_8 : decode cX2_texel 8 = .ok (.iload 6, 2) := by decide +kernel
theorem dX2_texel_10 : decode cX2_texel 10 = .ok (.ifCond .eq 7, 3) := by decide +kernel
theorem dX2_texel_13 : decode cX2_texel 13 = .ok (.iload_n 1, 1) := by decide +kernel
theorem dX2_texel_14 : decode cX2_texel 14 = .ok (.goto 4, 3) := by decide +kernel
theorem dX2_texel_17 : decode cX2_texel 17 = .ok (.iconst 0, 1) := by decide +kernel
theorem dX2_texel_18 : decode cX2_texel 18 = .ok (.istore 7, 2) := by decide +kernel
theorem dX2_texel_20 : decode cX2_texel 20 = .ok (.iload_n 2, 1) := by decide +kernel
theorem dX2_texel_21 : decode cX2_texel 21 = .ok (.iconst 0, 1) := by decide +kernel
theorem dX2_texel_22 : decode cX2_texel 22 = .ok (.aload_n 0, 1) := by decide +kernel
theorem dX2_texel_23 : decode cX2_texel 23 = .ok (.getfield 13, 3) := by decide +kernel
theorem dX2_texel_26 : decode cX2_texel 26 = .ok (.bipush 8, 2) := by decide +kernel
theorem dX2_texel_28 : decode cX2_texel 28 = .ok (.iload 7, 2) := by decide +kernel
theorem dX2_texel_30 : decode cX2_texel 30 = .ok (.imul, 1) := by decide +kernel
theorem dX2_texel_31 : decode cX2_texel 31 = .ok (.iconst 3, 1) := by decide +kernel
theorem dX2_texel_32 : decode cX2_texel 32 = .ok (.iadd, 1) := by decide +kernel
theorem dX2_texel_33 : decode cX2_texel 33 = .ok (.iaload, 1) := by decide +kernel
theorem dX2_texel_34 : decode cX2_texel 34 = .ok (.iconst 1, 1) := by decide +kernel
theorem dX2_texel_35 : decode cX2_texel 35 = .ok (.isub, 1) := by decide +kernel
theorem dX2_texel_36 : decode cX2_texel 36 = .ok (.invokestatic 44, 3) := by decide +kernel
theorem dX2_texel_39 : decode cX2_texel 39 = .ok (.ifCond .eq 26, 3) := by decide +kernel
theorem dX2_texel_42 : decode cX2_texel 42 = .ok (.iload_n 3, 1) := by decide +kernel
theorem dX2_texel_43 : decode cX2_texel 43 = .ok (.ifCond .lt 22, 3) := by decide +kernel
theorem dX2_texel_46 : decode cX2_texel 46 = .ok (.iload 4, 2) := by decide +kernel
theorem dX2_texel_48 : decode cX2_texel 48 = .ok (.ifCond .lt 17, 3) := by decide +kernel
theorem dX2_texel_51 : decode cX2_texel 51 = .ok (.iload 5, 2) := by decide +kernel
theorem dX2_texel_53 : decode cX2_texel 53 = .ok (.iconst 0, 1) := by decide +kernel
theorem dX2_texel_54 : decode cX2_texel 54 = .ok (.iconst 3, 1) := by decide +kernel
theorem dX2_texel_55 : decode cX2_texel 55 = .ok (.invokestatic 44, 3) := by decide +kernel
theorem dX2_texel_58 : decode cX2_texel 58 = .ok (.ifCond .eq 7, 3) := by decide +kernel
theorem dX2_texel_61 : decode cX2_texel 61 = .ok (.iconst 1, 1) := by decide +kernel
theorem dX2_texel_62 : decode cX2_texel 62 = .ok (.goto 4, 3) := by decide +kernel
theorem dX2_texel_65 : decode cX2_texel 65 = .ok (.iconst 0, 1) := by decide +kernel
theorem dX2_texel_66 : decode cX2_texel 66 = .ok (.istore 8, 2) := by decide +kernel
theorem dX2_texel_68 : decode cX2_texel 68 = .ok (.iload 8, 2) := by decide +kernel
theorem dX2_texel_70 : decode cX2_texel 70 = .ok (.ifCond .eq 30, 3) := by decide +kernel
theorem dX2_texel_73 : decode cX2_texel 73 = .ok (.iload_n 3, 1) := by decide +kernel
theorem dX2_texel_74 : decode cX2_texel 74 = .ok (.aload_n 0, 1) := by decide +kernel
theorem dX2_texel_75 : decode cX2_texel 75 = .ok (.iload 7, 2) := by decide +kernel
theorem dX2_texel_77 : decode cX2_texel 77 = .ok (.iload_n 2, 1) := by decide +kernel
theorem dX2_texel_78 : decode cX2_texel 78 = .ok (.invokevirtual 56, 3) := by decide +kernel
theorem dX2_texel_81 : decode cX2_texel 81 = .ok (.if_icmp .ge 19, 3) := by decide +kernel
theorem dX2_texel_84 : decode cX2_texel 84 = .ok (.iload 4, 2) := by decide +kernel
theorem dX2_texel_86 : decode cX2_texel 86 = .ok (.aload_n 0, 1) := by decide +kernel
theorem dX2_texel_87 : decode cX2_texel 87 = .ok (.iload 7, 2) := by decide +kernel
theorem dX2_texel_89 : decode cX2_texel 89 = .ok (.iload_n 2, 1) := by decide +kernel
theorem dX2_texel_90 : decode cX2_texel 90 = .ok (.invokevirtual 60, 3) := by decide +kernel
theorem dX2_texel_93 : decode cX2_texel 93 = .ok (.if_icmp .ge 7, 3) := by decide +kernel
theorem dX2_texel_96 : decode cX2_texel 96 = .ok (.iconst 1, 1) := by decide +kernel
theorem dX2_texel_97 : decode cX2_texel 97 = .ok (.goto 4, 3) := by decide +kernel
theorem dX2_texel_100 : decode cX2_texel 100 = .ok (.iconst 0, 1) := by decide +kernel
theorem dX2_texel_101 : decode cX2_texel 101 = .ok (.istore 8, 2) := by decide +kernel
theorem dX2_texel_103 : decode cX2_texel 103 = .ok (.aload_n 0, 1) := by decide +kernel
theorem dX2_texel_104 : decode cX2_texel 104 = .ok (.iload 6, 2) := by decide +kernel
theorem dX2_texel_106 : decode cX2_texel 106 = .ok (.ifCond .ne 7, 3) := by decide +kernel
theorem dX2_texel_109 : decode cX2_texel 109 = .ok (.iconst 1, 1) := by decide +kernel
theorem dX2_texel_110 : decode cX2_texel 110 = .ok (.goto 4, 3) := by decide +kernel
theorem dX2_texel_113 : decode cX2_texel 113 = .ok (.iconst 0, 1) := by decide +kernel
theorem dX2_texel_114 : decode cX2_texel 114 = .ok (.iload 8, 2) := by decide +kernel
theorem dX2_texel_116 : decode cX2_texel 116 = .ok (.ifCond .ne 7, 3) := by decide +kernel
theorem dX2_texel_119 : decode cX2_texel 119 = .ok (.iconst 1, 1) := by decide +kernel
theorem dX2_texel_120 : decode cX2_texel 120 = .ok (.goto 4, 3) := by decide +kernel
theorem dX2_texel_123 : decode cX2_texel 123 = .ok (.iconst 0, 1) := by decide +kernel
theorem dX2_texel_124 : decode cX2_texel 124 = .ok (.invokevirtual 48, 3) := by decide +kernel
theorem dX2_texel_127 : decode cX2_texel 127 = .ok (.ifCond .eq 5, 3) := by decide +kernel
theorem dX2_texel_130 : decode cX2_texel 130 = .ok (.iconst 0, 1) := by decide +kernel
theorem dX2_texel_131 : decode cX2_texel 131 = .ok (.ireturn, 1) := by decide +kernel
theorem dX2_texel_132 : decode cX2_texel 132 = .ok (.aload_n 0, 1) := by decide +kernel
theorem dX2_texel_133 : decode cX2_texel 133 = .ok (.iload_n 1, 1) := by decide +kernel
theorem dX2_texel_134 : decode cX2_texel 134 = .ok (.iload_n 2, 1) := by decide +kernel
theorem dX2_texel_135 : decode cX2_texel 135 = .ok (.iload_n 3, 1) := by decide +kernel
theorem dX2_texel_136 : decode cX2_texel 136 = .ok (.iload 4, 2) := by decide +kernel
theorem dX2_texel_138 : decode cX2_texel 138 = .ok (.invokevirtual 87, 3) := by decide +kernel
theorem dX2_texel_141 : decode cX2_texel 141 = .ok (.aload_n 0, 1) := by decide +kernel
theorem dX2_texel_142 : decode cX2_texel 142 = .ok (.getfield 22, 3) := by decide +kernel
theorem dX2_texel_145 : decode cX2_texel 145 = .ok (.iload 5, 2) := by decide +kernel
theorem dX2_texel_147 : decode cX2_texel 147 = .ok (.iaload, 1) := by decide +kernel
theorem dX2_texel_148 : decode cX2_texel 148 = .ok (.ireturn, 1) := by decide +kernel
theorem dX2_texels_0 : decode cX2_texels 0 = .ok (.aload_n 0, 1) := by decide +kernel
theorem dX2_texels_1 : decode cX2_texels 1 = .ok (.iload_n 1, 1) := by decide +kernel
theorem dX2_texels_2 : decode cX2_texels 2 = .ok (.iconst 0, 1) := by decide +kernel
theorem dX2_texels_3 : decode cX2_texels 3 = .ok (.iconst 3, 1) := by decide +kernel
theorem dX2_texels_4 : decode cX2_texels 4 = .ok (.invokestatic 44, 3) := by decide +kernel
theorem dX2_texels_7 : decode cX2_texels 7 = .ok (.ifCond .ne 7, 3) := by decide +kernel
theorem dX2_texels_10 : decode cX2_texels 10 = .ok (.iconst 1, 1) := by decide +kernel
theorem dX2_texels_11 : decode cX2_texels 11 = .ok (.goto 4, 3) := by decide +kernel
theorem dX2_texels_14 : decode cX2_texels 14 = .ok (.iconst 0, 1) := by decide +kernel
theorem dX2_texels_15 : decode cX2_texels 15 = .ok (.iconst 0, 1) := by decide +kernel
theorem dX2_texels_16 : decode cX2_texels 16 = .ok (.invokevirtual 48, 3) := by decide +kernel
theorem dX2_texels_19 : decode cX2_texels 19 = .ok (.ifCond .eq 5, 3) := by decide +kernel
theorem dX2_texels_22 : decode cX2_texels 22 = .ok (.iconst 0, 1) := by decide +kernel
theorem dX2_texels_23 : decode cX2_texels 23 = .ok (.ireturn, 1) := by decide +kernel
theorem dX2_texels_24 : decode cX2_texels 24 = .ok (.aload_n 0, 1) := by decide +kernel
theorem dX2_texels_25 : decode cX2_texels 25 = .ok (.iload_n 1, 1) := by decide +kernel
theorem dX2_texels_26 : decode cX2_texels 26 = .ok (.aload_n 0, 1) := by decide +kernel
theorem dX2_texels_27 : decode cX2_texels 27 = .ok (.getfield 13, 3) := by decide +kernel
theorem dX2_texels_30 : decode cX2_texels 30 = .ok (.bipush 8, 2) := by decide +kernel
theorem dX2_texels_32 : decode cX2_texels 32 = .ok (.iload_n 1, 1) := by decide +kernel
theorem dX2_texels_33 : decode cX2_texels 33 = .ok (.imul, 1) := by decide +kernel
theorem dX2_texels_34 : decode cX2_texels 34 = .ok (.iconst 3, 1) := by decide +kernel
theorem dX2_texels_35 : decode cX2_texels 35 = .ok (.iadd, 1) := by decide +kernel
theorem dX2_texels_36 : decode cX2_texels 36 = .ok (.iaload, 1) := by decide +kernel
theorem dX2_texels_37 : decode cX2_texels 37 = .ok (.invokevirtual 75, 3) := by decide +kernel
theorem dX2_texels_40 : decode cX2_texels 40 = .ok (.ireturn, 1) := by decide +kernel
theorem dX2_read_0 : decode cX2_read 0 = .ok (.aload_n 0, 1) := by decide +kernel
theorem dX2_read_1 : decode cX2_read 1 = .ok (.iload_n 1, 1) := by decide +kernel
theorem dX2_read_2 : decode cX2_read 2 = .ok (.iconst 0, 1) := by decide +kernel
theorem dX2_read_3 : decode cX2_read 3 = .ok (.iconst 3, 1) := by decide +kernel
theorem dX2_read_4 : decode cX2_read 4 = .ok (.invokestatic 44, 3) := by decide +kernel
theorem dX2_read_7 : decode cX2_read 7 = .ok (.ifCond .ne 7, 3) := by decide +kernel
theorem dX2_read_10 : decode cX2_read 10 = .ok (.iconst 1, 1) := by decide +kernel
theorem dX2_read_11 : decode cX2_read 11 = .ok (.goto 4, 3) := by decide +kernel
theorem dX2_read_14 : decode cX2_read 14 = .ok (.iconst 0, 1) := by decide +kernel
theorem dX2_read_15 : decode cX2_read 15 = .ok (.iconst 0, 1) := by decide +kernel
theorem dX2_read_16 : decode cX2_read 16 = .ok (.invokevirtual 48, 3) := by decide +kernel
theorem dX2_read_19 : decode cX2_read 19 = .ok (.ifCond .eq 5, 3) := by decide +kernel
theorem dX2_read_22 : decode cX2_read 22 = .ok (.iconst 0, 1) := by decide +kernel
theorem dX2_read_23 : decode cX2_read 23 = .ok (.ireturn, 1) := by decide +kernel
theorem dX2_read_24 : decode cX2_read 24 = .ok (.ldc 82, 2) := by decide +kernel
theorem dX2_read_26 : decode cX2_read 26 = .ok (.aload_n 0, 1) := by decide +kernel
theorem dX2_read_27 : decode cX2_read 27 = .ok (.getfield 13, 3) := by decide +kernel
theorem dX2_read_30 : decode cX2_read 30 = .ok (.bipush 8, 2) := by decide +kernel
theorem dX2_read_32 : decode cX2_read 32 = .ok (.iload_n 1, 1) := by decide +kernel
theorem dX2_read_33 : decode cX2_read 33 = .ok (.imul, 1) := by decide +kernel
theorem dX2_read_34 : decode cX2_read 34 = .ok (.iconst 3, 1) := by decide +kernel
theorem dX2_read_35 : decode cX2_read 35 = .ok (.iadd, 1) := by decide +kernel
theorem dX2_read_36 : decode cX2_read 36 = .ok (.iaload, 1) := by decide +kernel
theorem dX2_read_37 : decode cX2_read 37 = .ok (.iconst 1, 1) := by decide +kernel
theorem dX2_read_38 : decode cX2_read 38 = .ok (.isub, 1) := by decide +kernel
theorem dX2_read_39 : decode cX2_read 39 = .ok (.imul, 1) := by decide +kernel
theorem dX2_read_40 : decode cX2_read 40 = .ok (.istore 5, 2) := by decide +kernel
theorem dX2_read_42 : decode cX2_read 42 = .ok (.iload 4, 2) := by decide +kernel
theorem dX2_read_44 : decode cX2_read 44 = .ok (.ifCond .ge 7, 3) := by decide +kernel
theorem dX2_read_47 : decode cX2_read 47 = .ok (.iconst 0, 1) := by decide +kernel
theorem dX2_read_48 : decode cX2_read 48 = .ok (.goto 17, 3) := by decide +kernel
theorem dX2_read_51 : decode cX2_read 51 = .ok (.iload 4, 2) := by decide +kernel
theorem dX2_read_53 : decode cX2_read 53 = .ok (.iload 5, 2) := by decide +kernel
theorem dX2_read_55 : decode cX2_read 55 = .ok (.if_icmp .le 8, 3) := by decide +kernel
theorem dX2_read_58 : decode cX2_read 58 = .ok (.iload 5, 2) := by decide +kernel
theorem dX2_read_60 : decode cX2_read 60 = .ok (.goto 5, 3) := by decide +kernel
theorem dX2_read_63 : decode cX2_read 63 = .ok (.iload 4, 2) := by decide +kernel
theorem dX2_read_65 : decode cX2_read 65 = .ok (.istore 6, 2) := by decide +kernel
theorem dX2_read_67 : decode cX2_read 67 = .ok (.aload_n 0, 1) := by decide +kernel
theorem dX2_read_68 : decode cX2_read 68 = .ok (.getfield 13, 3) := by decide +kernel
theorem dX2_read_71 : decode cX2_read 71 = .ok (.bipush 8, 2) := by decide +kernel
theorem dX2_read_73 : decode cX2_read 73 = .ok (.iload_n 1, 1) := by decide +kernel
theorem dX2_read_74 : decode cX2_read 74 = .ok (.imul, 1) := by decide +kernel
theorem dX2_read_75 : decode cX2_read 75 = .ok (.bipush 7, 2) := by decide +kernel
theorem dX2_read_77 : decode cX2_read 77 = .ok (.iadd, 1) := by decide +kernel
theorem dX2_read_78 : decode cX2_read 78 = .ok (.iaload, 1) := by decide +kernel
theorem dX2_read_79 : decode cX2_read 79 = .ok (.istore 7, 2) := by decide +kernel
theorem dX2_read_81 : decode cX2_read 81 = .ok (.iload 7, 2) := by decide +kernel
theorem dX2_read_83 : decode cX2_read 83 = .ok (.iconst 2, 1) := by decide +kernel
theorem dX2_read_84 : decode cX2_read 84 = .ok (.irem, 1) := by decide +kernel
theorem dX2_read_85 : decode cX2_read 85 = .ok (.iconst 1, 1) := by decide +kernel
theorem dX2_read_86 : decode cX2_read 86 = .ok (.if_icmp .ne 7, 3) := by decide +kernel
theorem dX2_read_89 : decode cX2_read 89 = .ok (.iconst 1, 1) := by decide +kernel
theorem dX2_read_90 : decode cX2_read 90 = .ok (.goto 4, 3) := by decide +kernel
theorem dX2_read_93 : decode cX2_read 93 = .ok (.iconst 0, 1) := by decide +kernel
theorem dX2_read_94 : decode cX2_read 94 = .ok (.istore 8, 2) := by decide +kernel
theorem dX2_read_96 : decode cX2_read 96 = .ok (.iload 6, 2) := by decide +kernel
theorem dX2_read_98 : decode cX2_read 98 = .ok (.bipush 16, 2) := by decide +kernel
theorem dX2_read_100 : decode cX2_read 100 = .ok (.ishr, 1) := by decide +kernel
theorem dX2_read_101 : decode cX2_read 101 = .ok (.istore 9, 2) := by decide +kernel
theorem dX2_read_103 : decode cX2_read 103 = .ok (.aload_n 0, 1) := by decide +kernel
theorem dX2_read_104 : decode cX2_read 104 = .ok (.iload_n 1, 1) := by decide +kernel
theorem dX2_read_105 : decode cX2_read 105 = .ok (.iload 9, 2) := by decide +kernel
theorem dX2_read_107 : decode cX2_read 107 = .ok (.iload_n 2, 1) := by decide +kernel
theorem dX2_read_108 : decode cX2_read 108 = .ok (.iload_n 3, 1) := by decide +kernel
theorem dX2_read_109 : decode cX2_read 109 = .ok (.iload 8, 2) := by decide +kernel
theorem dX2_read_111 : decode cX2_read 111 = .ok (.invokevirtual 105, 3) := by decide +kernel
theorem dX2_read_114 : decode cX2_read 114 = .ok (.iload 7, 2) := by decide +kernel
theorem dX2_read_116 : decode cX2_read 116 = .ok (.iconst 1, 1) := by decide +kernel
theorem dX2_read_117 : decode cX2_read 117 = .ok (.if_icmp .le 107, 3) := by decide +kernel
theorem dX2_read_120 : decode cX2_read 120 = .ok (.iload 9, 2) := by decide +kernel
theorem dX2_read_122 : decode cX2_read 122 = .ok (.iconst 1, 1) := by decide +kernel
theorem dX2_read_123 : decode cX2_read 123 = .ok (.iadd, 1) := by decide +kernel
theorem dX2_read_124 : decode cX2_read 124 = .ok (.aload_n 0, 1) := by decide +kernel
theorem dX2_read_125 : decode cX2_read 125 = .ok (.getfield 13, 3) := by decide +kernel
theorem dX2_read_128 : decode cX2_read 128 = .ok (.bipush 8, 2) := by decide +kernel
theorem dX2_read_130 : decode cX2_read 130 = .ok (.iload_n 1, 1) := by decide +kernel
theorem dX2_read_131 : decode cX2_read 131 = .ok (.imul, 1) := by decide +kernel
theorem dX2_read_132 : decode cX2_read 132 = .ok (.iconst 3, 1) := by decide +kernel
theorem dX2_read_133 : decode cX2_read 133 = .ok (.iadd, 1) := by decide +kernel
theorem dX2_read_134 : decode cX2_read 134 = .ok (.iaload, 1) := by decide +kernel
theorem dX2_read_135 : decode cX2_read 135 = .ok (.if_icmp .ge 89, 3) := by decide +kernel
theorem dX2_read_138 : decode cX2_read 138 = .ok (.iconst 0, 1) := by decide +kernel
theorem dX2_read_139 : decode cX2_read 139 = .ok (.istore 10, 2) := by decide +kernel
theorem dX2_read_141 : decode cX2_read 141 = .ok (.iload 10, 2) := by decide +kernel
theorem dX2_read_143 : decode cX2_read 143 = .ok (.iconst 4, 1) := by decide +kernel
theorem dX2_read_144 : decode cX2_read 144 = .ok (.if_icmp .ge 23, 3) := by decide +kernel
theorem dX2_read_147 : decode cX2_read 147 = .ok (.aload_n 0, 1) := by decide +kernel
theorem dX2_read_148 : decode cX2_read 148 = .ok (.getfield 31, 3) := by decide +kernel
theorem dX2_read_151 : decode cX2_read 151 = .ok (.iload 10, 2) := by decide +kernel
theorem dX2_read_153 : decode cX2_read 153 = .ok (.aload_n 0, 1) := by decide +kernel
theorem dX2_read_154 : decode cX2_read 154 = .ok (.getfield 22, 3) := by decide +kernel
theorem dX2_read_157 : decode cX2_read 157 = .ok (.iload 10, 2) := by decide +kernel
theorem dX2_read_159 : decode cX2_read 159 = .ok (.iaload, 1) := by decide +kernel
theorem dX2_read_160 : decode cX2_read 160 = .ok (.iastore, 1) := by decide +kernel
theorem dX2_read_161 : decode cX2_read 161 = .ok (.iinc 10 1, 3) := by decide +kernel
theorem dX2_read_164 : decode cX2_read 164 = .ok (.goto (-23), 3) := by decide +kernel
theorem dX2_read_167 : decode cX2_read 167 = .ok (.aload_n 0, 1) := by decide +kernel
theorem dX2_read_168 : decode cX2_read 168 = .ok (.iload_n 1, 1) := by decide +kernel
theorem dX2_read_169 : decode cX2_read 169 = .ok (.iload 9, 2) := by decide +kernel
theorem dX2_read_171 : decode cX2_read 171 = .ok (.iconst 1, 1) := by decide +kernel
theorem dX2_read_172 : decode cX2_read 172 = .ok (.iadd, 1) := by decide +kernel
theorem dX2_read_173 : decode cX2_read 173 = .ok (.iload_n 2, 1) := by decide +kernel
theorem dX2_read_174 : decode cX2_read 174 = .ok (.iload_n 3, 1) := by decide +kernel
theorem dX2_read_175 : decode cX2_read 175 = .ok (.iload 8, 2) := by decide +kernel
theorem dX2_read_177 : decode cX2_read 177 = .ok (.invokevirtual 105, 3) := by decide +kernel
theorem dX2_read_180 : decode cX2_read 180 = .ok (.iconst 0, 1) := by decide +kernel
theorem dX2_read_181 : decode cX2_read 181 = .ok (.istore 10, 2) := by decide +kernel
theorem dX2_read_183 : decode cX2_read 183 = .ok (.iload 10, 2) := by decide +kernel
theorem dX2_read_185 : decode cX2_read 185 = .ok (.iconst 4, 1) := by decide +kernel
theorem dX2_read_186 : decode cX2_read 186 = .ok (.if_icmp .ge 38, 3) := by decide +kernel
theorem dX2_read_189 : decode cX2_read 189 = .ok (.aload_n 0, 1) := by decide +kernel
theorem dX2_read_190 : decode cX2_read 190 = .ok (.getfield 22, 3) := by decide +kernel
theorem dX2_read_193 : decode cX2_read 193 = .ok (.iload 10, 2) := by decide +kernel
theorem dX2_read_195 : decode cX2_read 195 = .ok (.aload_n 0, 1) := by decide +kernel
theorem dX2_read_196 : decode cX2_read 196 = .ok (.getfield 31, 3) := by decide +kernel
theorem dX2_read_199 : decode cX2_read 199 = .ok (.iload 10, 2) := by decide +kernel
theorem dX2_read_201 : decode cX2_read 201 = .ok (.iaload, 1) := by decide +kernel
theorem dX2_read_202 : decode cX2_read 202 = .ok (.aload_n 0, 1) := by decide +kernel
theorem dX2_read_203 : decode cX2_read 203 = .ok (.getfield 22, 3) := by decide +kernel
theorem dX2_read_206 : decode cX2_read 206 = .ok (.iload 10, 2) := by decide +kernel
theorem dX2_read_208 : decode cX2_read 208 = .ok (.iaload, 1) := by decide +kernel
theorem dX2_read_209 : decode cX2_read 209 = .ok (.iload 6, 2) := by decide +kernel
theorem dX2_read_211 : decode cX2_read 211 = .ok (.ldc 109, 2) := by decide +kernel
theorem dX2_read_213 : decode cX2_read 213 = .ok (.iand, 1) := by decide +kernel
theorem dX2_read_214 : decode cX2_read 214 = .ok (.invokestatic 94, 3) := by decide +kernel
theorem dX2_read_217 : decode cX2_read 217 = .ok (.iastore, 1) := by decide +kernel
theorem dX2_read_218 : decode cX2_read 218 = .ok (.iinc 10 1, 3) := by decide +kernel
theorem dX2_read_221 : decode cX2_read 221 = .ok (.goto (-38), 3) := by decide +kernel
theorem dX2_read_224 : decode cX2_read 224 = .ok (.iconst 0, 1) := by decide +kernel
theorem dX2_read_225 : decode cX2_read 225 = .ok (.istore 10, 2) := by decide +kernel
theorem dX2_read_227 : decode cX2_read 227 = .ok (.iload 10, 2) := by decide +kernel
theorem dX2_read_229 : decode cX2_read 229 = .ok (.iconst 4, 1) := by decide +kernel
theorem dX2_read_230 : decode cX2_read 230 = .ok (.if_icmp .ge 23, 3) := by decide +kernel
theorem dX2_read_233 : decode cX2_read 233 = .ok (.aload_n 0, 1) := by decide +kernel
theorem dX2_read_234 : decode cX2_read 234 = .ok (.getfield 19, 3) := by decide +kernel
theorem dX2_read_237 : decode cX2_read 237 = .ok (.iload 10, 2) := by decide +kernel
theorem dX2_read_239 : decode cX2_read 239 = .ok (.aload_n 0, 1) := by decide +kernel
theorem dX2_read_240 : decode cX2_read 240 = .ok (.getfield 22, 3) := by decide +kernel
theorem dX2_read_243 : decode cX2_read 243 = .ok (.iload 10, 2) := by decide +kernel
theorem dX2_read_245 : decode cX2_read 245 = .ok (.iaload, 1) := by decide +kernel
theorem dX2_read_246 : decode cX2_read 246 = .ok (.iastore, 1) := by decide +kernel
theorem dX2_read_247 : decode cX2_read 247 = .ok (.iinc 10 1, 3) := by decide +kernel
theorem dX2_read_250 : decode cX2_read 250 = .ok (.goto (-23), 3) := by decide +kernel
theorem dX2_read_253 : decode cX2_read 253 = .ok (.aload_n 0, 1) := by decide +kernel
theorem dX2_read_254 : decode cX2_read 254 = .ok (.getfield 19, 3) := by decide +kernel
theorem dX2_read_257 : decode cX2_read 257 = .ok (.iconst 0, 1) := by decide +kernel
theorem dX2_read_258 : decode cX2_read 258 = .ok (.iaload, 1) := by decide +kernel
theorem dX2_read_259 : decode cX2_read 259 = .ok (.ireturn, 1) := by decide +kernel
theorem dX2_also_0 : decode cX2_also 0 = .ok (.aload_n 0, 1) := by decide +kernel
theorem dX2_also_1 : decode cX2_also 1 = .ok (.iload_n 1, 1) := by decide +kernel
theorem dX2_also_2 : decode cX2_also 2 = .ok (.iconst 0, 1) := by decide +kernel
theorem dX2_also_3 : decode cX2_also 3 = .ok (.iconst 3, 1) := by decide +kernel
theorem dX2_also_4 : decode cX2_also 4 = .ok (.invokestatic 44, 3) := by decide +kernel
theorem dX2_also_7 : decode cX2_also 7 = .ok (.ifCond .ne 7, 3) := by decide +kernel
theorem dX2_also_10 : decode cX2_also 10 = .ok (.iconst 1, 1) := by decide +kernel
theorem dX2_also_11 : decode cX2_also 11 = .ok (.goto 4, 3) := by decide +kernel
theorem dX2_also_14 : decode cX2_also 14 = .ok (.iconst 0, 1) := by decide +kernel
theorem dX2_also_15 : decode cX2_also 15 = .ok (.iconst 0, 1) := by decide +kernel
theorem dX2_also_16 : decode cX2_also 16 = .ok (.invokevirtual 48, 3) := by decide +kernel
theorem dX2_also_19 : decode cX2_also 19 = .ok (.ifCond .eq 5, 3) := by decide +kernel
theorem dX2_also_22 : decode cX2_also 22 = .ok (.iconst 0, 1) := by decide +kernel
theorem dX2_also_23 : decode cX2_also 23 = .ok (.ireturn, 1) := by decide +kernel
theorem dX2_also_24 : decode cX2_also 24 = .ok (.aload_n 0, 1) := by decide +kernel
theorem dX2_also_25 : decode cX2_also 25 = .ok (.getfield 19, 3) := by decide +kernel
theorem dX2_also_28 : decode cX2_also 28 = .ok (.iload_n 1, 1) := by decide +kernel
theorem dX2_also_29 : decode cX2_also 29 = .ok (.iaload, 1) := by decide +kernel
theorem dX2_also_30 : decode cX2_also 30 = .ok (.ireturn, 1) := by decide +kernel
