theorem dX0_init_0 : decode cX0_init 0 = .ok (.aload_n 0, 1) := by decide +kernel
theorem dX0_init_1 : decode cX0_init 1 = .ok (.invokespecial 3, 3) := by decide +kernel
theorem dX0_init_4 : decode cX0_init 4 = .ok (.aload_n 0, 1) := by decide +kernel
theorem dX0_init_5 : decode cX0_init 5 = .ok (.iconst 4, 1) := by decide +kernel
theorem dX0_init_6 : decode cX0_init 6 = .ok (.newarray .int, 2) := by decide +kernel
theorem dX0_init_8 : decode cX0_init 8 = .ok (.putfield 9, 3) := by decide +kernel
theorem dX0_init_11 : decode cX0_init 11 = .ok (.aload_n 0, 1) := by decide +kernel
theorem dX0_init_12 : decode cX0_init 12 = .ok (.bipush 12, 2) := by decide +kernel
theorem dX0_init_14 : decode cX0_init 14 = .ok (.newarray .int, 2) := by decide +kernel
theorem dX0_init_16 : decode cX0_init 16 = .ok (.putfield 15, 3) := by decide +kernel
theorem dX0_init_19 : decode cX0_init 19 = .ok (.aload_n 0, 1) := by decide +kernel
theorem dX0_init_20 : decode cX0_init 20 = .ok (.iconst 0, 1) := by decide +kernel
theorem dX0_init_21 : decode cX0_init 21 = .ok (.iconst 0, 1) := by decide +kernel
theorem dX0_init_22 : decode cX0_init 22 = .ok (.iconst 1, 1) := by decide +kernel
theorem dX0_init_23 : decode cX0_init 23 = .ok (.invokevirtual 18, 3) := by decide +kernel
theorem dX0_init_26 : decode cX0_init 26 = .ok (.return_, 1) := by decide +kernel
theorem dX0_layOut_0 : decode cX0_layOut 0 = .ok (.aload_n 0, 1) := by decide +kernel
theorem dX0_layOut_1 : decode cX0_layOut 1 = .ok (.iload_n 1, 1) := by decide +kernel
theorem dX0_layOut_2 : decode cX0_layOut 2 = .ok (.putfield 22, 3) := by decide +kernel
theorem dX0_layOut_5 : decode cX0_layOut 5 = .ok (.aload_n 0, 1) := by decide +kernel
theorem dX0_layOut_6 : decode cX0_layOut 6 = .ok (.iload_n 2, 1) := by decide +kernel
theorem dX0_layOut_7 : decode cX0_layOut 7 = .ok (.putfield 26, 3) := by decide +kernel
theorem dX0_layOut_10 : decode cX0_layOut 10 = .ok (.aload_n 0, 1) := by decide +kernel
theorem dX0_layOut_11 : decode cX0_layOut 11 = .ok (.iload_n 3, 1) := by decide +kernel
theorem dX0_layOut_12 : decode cX0_layOut 12 = .ok (.putfield 29, 3) := by decide +kernel
theorem dX0_layOut_15 : decode cX0_layOut 15 = .ok (.iconst 0, 1) := by decide +kernel
theorem dX0_layOut_16 : decode cX0_layOut 16 = .ok (.istore 4, 2) := by decide +kernel
theorem dX0_layOut_18 : decode cX0_layOut 18 = .ok (.iload 4, 2) := by decide +kernel
theorem dX0_layOut_20 : decode cX0_layOut 20 = .ok (.bipush 11, 2) := by decide +kernel
theorem dX0_layOut_22 : decode cX0_layOut 22 = .ok (.if_icmp .ge 39, 3) := by decide +kernel
theorem dX0_layOut_25 : decode cX0_layOut 25 = .ok (.aload_n 0, 1) := by decide +kernel
theorem dX0_layOut_26 : decode cX0_layOut 26 = .ok (.getfield 15, 3) := by decide +kernel
theorem dX0_layOut_29 : decode cX0_layOut 29 = .ok (.iload 4, 2) := by decide +kernel
theorem dX0_layOut_31 : decode cX0_layOut 31 = .ok (.iconst 1, 1) := by decide +kernel
theorem dX0_layOut_32 : decode cX0_layOut 32 = .ok (.iadd, 1) := by decide +kernel
theorem dX0_layOut_33 : decode cX0_layOut 33 = .ok (.aload_n 0, 1) := by decide +kernel
theorem dX0_layOut_34 : decode cX0_layOut 34 = .ok (.getfield 15, 3) := by decide +kernel
theorem dX0_layOut_37 : decode cX0_layOut 37 = .ok (.iload 4, 2) := by decide +kernel
theorem dX0_layOut_39 : decode cX0_layOut 39 = .ok (.iaload, 1) := by decide +kernel
theorem dX0_layOut_40 : decode cX0_layOut 40 = .ok (.aload_n 0, 1) := by decide +kernel
theorem dX0_layOut_41 : decode cX0_layOut 41 = .ok (.iload 4, 2) := by decide +kernel
theorem dX0_layOut_43 : decode cX0_layOut 43 = .ok (.invokevirtual 32, 3) := by decide +kernel
theorem dX0_layOut_46 : decode cX0_layOut 46 = .ok (.aload_n 0, 1) := by decide +kernel
theorem dX0_layOut_47 : decode cX0_layOut 47 = .ok (.iload 4, 2) := by decide +kernel
theorem dX0_layOut_49 : decode cX0_layOut 49 = .ok (.invokevirtual 36, 3) := by decide +kernel
theorem dX0_layOut_52 : decode cX0_layOut 52 = .ok (.imul, 1) := by decide +kernel
theorem dX0_layOut_53 : decode cX0_layOut 53 = .ok (.iadd, 1) := by decide +kernel
theorem dX0_layOut_54 : decode cX0_layOut 54 = .ok (.iastore, 1) := by decide +kernel
theorem dX0_layOut_55 : decode cX0_layOut 55 = .ok (.iinc 4 1, 3) := by decide +kernel
theorem dX0_layOut_58 : decode cX0_layOut 58 = .ok (.goto (-40), 3) := by decide +kernel
theorem dX0_layOut_61 : decode cX0_layOut 61 = .ok (.return_, 1) := by decide +kernel
theorem dX0_width_0 : decode cX0_width 0 = .ok (.iload_n 1, 1) := by decide +kernel
theorem dX0_width_1 : decode cX0_width 1 = .ok (.aload_n 0, 1) := by decide +kernel
theorem dX0_width_2 : decode cX0_width 2 = .ok (.getfield 22, 3) := by decide +kernel
theorem dX0_width_5 : decode cX0_width 5 = .ok (.if_icmp .ge 14, 3) := by decide +kernel
theorem dX0_width_8 : decode cX0_width 8 = .ok (.iconst 1, 1) := by decide +kernel
theorem dX0_width_9 : decode cX0_width 9 = .ok (.aload_n 0, 1) := by decide +kernel
theorem dX0_width_10 : decode cX0_width 10 = .ok (.getfield 22, 3) := by decide +kernel
theorem dX0_width_13 : decode cX0_width 13 = .ok (.iload_n 1, 1) := by decide +kernel
theorem dX0_width_14 : decode cX0_width 14 = .ok (.isub, 1) := by decide +kernel
theorem dX0_width_15 : decode cX0_width 15 = .ok (.ishl, 1) := by decide +kernel
theorem dX0_width_16 : decode cX0_width 16 = .ok (.goto 4, 3) := by decide +kernel
theorem dX0_width_19 : decode cX0_width 19 = .ok (.iconst 1, 1) := by decide +kernel
theorem dX0_width_20 : decode cX0_width 20 = .ok (.ireturn, 1) := by decide +kernel
theorem dX0_height_0 : decode cX0_height 0 = .ok (.iload_n 1, 1) := by decide +kernel
theorem dX0_height_1 : decode cX0_height 1 = .ok (.aload_n 0, 1) := by decide +kernel
theorem dX0_height_2 : decode cX0_height 2 = .ok (.getfield 26, 3) := by decide +kernel
theorem dX0_height_5 : decode cX0_height 5 = .ok (.if_icmp .ge 14, 3) := by decide +kernel
theorem dX0_height_8 : decode cX0_height 8 = .ok (.iconst 1, 1) := by decide +kernel
theorem dX0_height_9 : decode cX0_height 9 = .ok (.aload_n 0, 1) := by decide +kernel
theorem dX0_height_10 : decode cX0_height 10 = .ok (.getfield 26, 3) := by decide +kernel
theorem dX0_height_13 : decode cX0_height 13 = .ok (.iload_n 1, 1) := by decide +kernel
theorem dX0_height_14 : decode cX0_height 14 = .ok (.isub, 1) := by decide +kernel
theorem dX0_height_15 : decode cX0_height 15 = .ok (.ishl, 1) := by decide +kernel
theorem dX0_height_16 : decode cX0_height 16 = .ok (.goto 4, 3) := by decide +kernel
theorem dX0_height_19 : decode cX0_height 19 = .ok (.iconst 1, 1) := by decide +kernel
theorem dX0_height_20 : decode cX0_height 20 = .ok (.ireturn, 1) := by decide +kernel
theorem dX0_numberOf_0 : decode cX0_numberOf 0 = .ok (.aload_n 0, 1) := by decide +kernel
theorem dX0_numberOf_1 : decode cX0_numberOf 1 = .ok (.getfield 15, 3) := by decide +kernel
theorem dX0_numberOf_4 : decode cX0_numberOf 4 = .ok (.iload_n 1, 1) := by decide +kernel
theorem dX0_numberOf_5 : decode cX0_numberOf 5 = .ok (.iaload, 1) := by decide +kernel
theorem dX0_numberOf_6 : decode cX0_numberOf 6 = .ok (.iload_n 3, 1) := by decide +kernel
theorem dX0_numberOf_7 : decode cX0_numberOf 7 = .ok (.aload_n 0, 1) := by decide +kernel
theorem dX0_numberOf_8 : decode cX0_numberOf 8 = .ok (.iload_n 1, 1) := by decide +kernel
theorem dX0_numberOf_9 : decode cX0_numberOf 9 = .ok (.invokevirtual 32, 3) := by decide +kernel
theorem dX0_numberOf_12 : decode cX0_numberOf 12 = .ok (.imul, 1) := by decide +kernel
theorem dX0_numberOf_13 : decode cX0_numberOf 13 = .ok (.iadd, 1) := by decide +kernel
theorem dX0_numberOf_14 : decode cX0_numberOf 14 = .ok (.iload_n 2, 1) := by decide +kernel
theorem dX0_numberOf_15 : decode cX0_numberOf 15 = .ok (.iadd, 1) := by decide +kernel
theorem dX0_numberOf_16 : decode cX0_numberOf 16 = .ok (.ireturn, 1) := by decide +kernel
theorem dX1_init_0 : decode cX1_init 0 = .ok (.aload_n 0, 1) := by decide +kernel
theorem dX1_init_1 : decode cX1_init 1 = .ok (.invokespecial 1, 3) := by decide +kernel
theorem dX1_init_4 : decode cX1_init 4 = .ok (.aload_n 0, 1) := by decide +kernel
theorem dX1_init_5 : decode cX1_init 5 = .ok (.sipush 2048, 3) := by decide +kernel
theorem dX1_init_8 : decode cX1_init 8 = .ok (.newarray .int, 2) := by decide +kernel
theorem dX1_init_10 : decode cX1_init 10 = .ok (.putfield 9, 3) := by decide +kernel
theorem dX1_init_13 : decode cX1_init 13 = .ok (.aload_n 0, 1) := by decide +kernel
theorem dX1_init_14 : decode cX1_init 14 = .ok (.iconst 4, 1) := by decide +kernel
theorem dX1_init_15 : decode cX1_init 15 = .ok (.anewarray 13, 3) := by decide +kernel
theorem dX1_init_18 : decode cX1_init 18 = .ok (.putfield 15, 3) := by decide +kernel
theorem dX1_init_21 : decode cX1_init 21 = .ok (.iconst 0, 1) := by decide +kernel
theorem dX1_init_22 : decode cX1_init 22 = .ok (.istore_n 1, 1) := by decide +kernel
theorem dX1_init_23 : decode cX1_init 23 = .ok (.iload_n 1, 1) := by decide +kernel
theorem dX1_init_24 : decode cX1_init 24 = .ok (.iconst 4, 1) := by decide +kernel
theorem dX1_init_25 : decode cX1_init 25 = .ok (.if_icmp .ge 22, 3) := by decide +kernel
theorem dX1_init_28 : decode cX1_init 28 = .ok (.aload_n 0, 1) := by decide +kernel
theorem dX1_init_29 : decode cX1_init 29 = .ok (.getfield 15, 3) := by decide +kernel
theorem dX1_init_32 : decode cX1_init 32 = .ok (.iload_n 1, 1) := by decide +kernel
theorem dX1_init_33 : decode cX1_init 33 = .ok (.new 13, 3) := by decide +kernel
theorem dX1_init_36 : decode cX1_init 36 = .ok (.dup, 1) := by decide +kernel
theorem dX1_init_37 : decode cX1_init 37 = .ok (.invokespecial 19, 3) := by decide +kernel
theorem dX1_init_40 : decode cX1_init 40 = .ok (.aastore, 1) := by decide +kernel
theorem dX1_init_41 : decode cX1_init 41 = .ok (.iinc 1 1, 3) := by decide +kernel
theorem dX1_init_44 : decode cX1_init 44 = .ok (.goto (-21), 3) := by decide +kernel
theorem dX1_init_47 : decode cX1_init 47 = .ok (.aload_n 0, 1) := by decide +kernel
theorem dX1_init_48 : decode cX1_init 48 = .ok (.iconst 4, 1) := by decide +kernel
theorem dX1_init_49 : decode cX1_init 49 = .ok (.newarray .int, 2) := by decide +kernel
theorem dX1_init_51 : decode cX1_init 51 = .ok (.putfield 20, 3) := by decide +kernel
theorem dX1_init_54 : decode cX1_init 54 = .ok (.aload_n 0, 1) := by decide +kernel
theorem dX1_init_55 : decode cX1_init 55 = .ok (.iconst 4, 1) := by decide +kernel
theorem dX1_init_56 : decode cX1_init 56 = .ok (.newarray .int, 2) := by decide +kernel
theorem dX1_init_58 : decode cX1_init 58 = .ok (.putfield 23, 3) := by decide +kernel
theorem dX1_init_61 : decode cX1_init 61 = .ok (.return_, 1) := by decide +kernel
theorem dX1_poke_0 : decode cX1_poke 0 = .ok (.iload_n 1, 1) := by decide +kernel
theorem dX1_poke_1 : decode cX1_poke 1 = .ok (.iconst 0, 1) := by decide +kernel
theorem dX1_poke_2 : decode cX1_poke 2 = .ok (.sipush 2047, 3) := by decide +kernel
theorem dX1_poke_5 : decode cX1_poke 5 = .ok (.invokestatic 26, 3) := by decide +kernel
theorem dX1_poke_8 : decode cX1_poke 8 = .ok (.ifCond .ne 13, 3) := by decide +kernel
theorem dX1_poke_11 : decode cX1_poke 11 = .ok (.new 30, 3) := by decide +kernel
theorem dX1_poke_14 : decode cX1_poke 14 = .ok (.dup, 1) := by decide +kernel
theorem dX1_poke_15 : decode cX1_poke 15 = .ok (.ldc 32, 2) := by decide +kernel
theorem dX1_poke_17 : decode cX1_poke 17 = .ok (.invokespecial 34, 3) := by decide +kernel
theorem dX1_poke_20 : decode cX1_poke 20 = .ok (.athrow, 1) := by decide +kernel
theorem dX1_poke_21 : decode cX1_poke 21 = .ok (.aload_n 0, 1) := by decide +kernel
theorem dX1_poke_22 : decode cX1_poke 22 = .ok (.getfield 9, 3) := by decide +kernel
theorem dX1_poke_25 : decode cX1_poke 25 = .ok (.iload_n 1, 1) := by decide +kernel
theorem dX1_poke_26 : decode cX1_poke 26 = .ok (.iload_n 2, 1) := by decide +kernel
theorem dX1_poke_27 : decode cX1_poke 27 = .ok (.iastore, 1) := by decide +kernel
theorem dX1_poke_28 : decode cX1_poke 28 = .ok (.return_, 1) := by decide +kernel
theorem dX1_picture_0 : decode cX1_picture 0 = .ok (.aload_n 0, 1) := by decide +kernel
theorem dX1_picture_1 : decode cX1_picture 1 = .ok (.iload_n 1, 1) := by decide +kernel
theorem dX1_picture_2 : decode cX1_picture 2 = .ok (.invokevirtual 37, 3) := by decide +kernel
theorem dX1_picture_5 : decode cX1_picture 5 = .ok (.astore 7, 2) := by decide +kernel
theorem dX1_picture_7 : decode cX1_picture 7 = .ok (.iload_n 2, 1) := by decide +kernel
theorem dX1_picture_8 : decode cX1_picture 8 = .ok (.ifCond .ge 13, 3) := by decide +kernel
theorem dX1_picture_11 : decode cX1_picture 11 = .ok (.new 41, 3) := by decide +kernel
theorem dX1_picture_14 : decode cX1_picture 14 = .ok (.dup, 1) := by decide +kernel
theorem dX1_picture_15 : decode cX1_picture 15 = .ok (.ldc 43, 2) := by decide +kernel
theorem dX1_picture_17 : decode cX1_picture 17 = .ok (.invokespecial 45, 3) := by decide +kernel
theorem dX1_picture_20 : decode cX1_picture 20 = .ok (.athrow, 1) := by decide +kernel
theorem dX1_picture_21 : decode cX1_picture 21 = .ok (.iload_n 3, 1) := by decide +kernel
theorem dX1_picture_22 : decode cX1_picture 22 = .ok (.iconst 0, 1) := by decide +kernel
theorem dX1_picture_23 : decode cX1_picture 23 = .ok (.bipush 10, 2) := by decide +kernel
theorem dX1_picture_25 : decode cX1_picture 25 = .ok (.invokestatic 26, 3) := by decide +kernel
theorem dX1_picture_28 : decode cX1_picture 28 = .ok (.ifCond .eq 14, 3) := by decide +kernel
theorem dX1_picture_31 : decode cX1_picture 31 = .ok (.iload 4, 2) := by decide +kernel
theorem dX1_picture_33 : decode cX1_picture 33 = .ok (.iconst 0, 1) := by decide +kernel
theorem dX1_picture_34 : decode cX1_picture 34 = .ok (.bipush 10, 2) := by decide +kernel
theorem dX1_picture_36 : decode cX1_picture 36 = .ok (.invokestatic 26, 3) := by decide +kernel
theorem dX1_picture_39 : decode cX1_picture 39 = .ok (.ifCond .ne 13, 3) := by decide +kernel
theorem dX1_picture_42 : decode cX1_picture 42 = .ok (.new 41, 3) := by decide +kernel
theorem dX1_picture_45 : decode cX1_picture 45 = .ok (.dup, 1) := by decide +kernel
theorem dX1_picture_46 : decode cX1_picture 46 = .ok (.ldc 46, 2) := by decide +kernel
theorem dX1_picture_48 : decode cX1_picture 48 = .ok (.invokespecial 45, 3) := by decide +kernel
theorem dX1_picture_51 : decode cX1_picture 51 = .ok (.athrow, 1) := by decide +kernel
theorem dX1_picture_52 : decode cX1_picture 52 = .ok (.iload 5, 2) := by decide +kernel
theorem dX1_picture_54 : decode cX1_picture 54 = .ok (.iconst 1, 1) := by decide +kernel
theorem dX1_picture_55 : decode cX1_picture 55 = .ok (.bipush 11, 2) := by decide +kernel
theorem dX1_picture_57 : decode cX1_picture 57 = .ok (.invokestatic 26, 3) := by decide +kernel
theorem dX1_picture_60 : decode cX1_picture 60 = .ok (.ifCond .ne 13, 3) := by decide +kernel
theorem dX1_picture_63 : decode cX1_picture 63 = .ok (.new 41, 3) := by decide +kernel
theorem dX1_picture_66 : decode cX1_picture 66 = .ok (.dup, 1) := by decide +kernel
theorem dX1_picture_67 : decode cX1_picture 67 = .ok (.ldc 48, 2) := by decide +kernel
theorem dX1_picture_69 : decode cX1_picture 69 = .ok (.invokespecial 45, 3) := by decide +kernel
theorem dX1_picture_72 : decode cX1_picture 72 = .ok (.athrow, 1) := by decide +kernel
theorem dX1_picture_73 : decode cX1_picture 73 = .ok (.iload 6, 2) := by decide +kernel
theorem dX1_picture_75 : decode cX1_picture 75 = .ok (.iconst 0, 1) := by decide +kernel
theorem dX1_picture_76 : decode cX1_picture 76 = .ok (.bipush 7, 2) := by decide +kernel
theorem dX1_picture_78 : decode cX1_picture 78 = .ok (.invokestatic 26, 3) := by decide +kernel
theorem dX1_picture_81 : decode cX1_picture 81 = .ok (.ifCond .ne 13, 3) := by decide +kernel
theorem dX1_picture_84 : decode cX1_picture 84 = .ok (.new 41, 3) := by decide +kernel
theorem dX1_picture_87 : decode cX1_picture 87 = .ok (.dup, 1) := by decide +kernel
theorem dX1_picture_88 : decode cX1_picture 88 = .ok (.ldc 50, 2) := by decide +kernel
theorem dX1_picture_90 : decode cX1_picture 90 = .ok (.invokespecial 45, 3) := by decide +kernel
theorem dX1_picture_93 : decode cX1_picture 93 = .ok (.athrow, 1) := by decide +kernel
theorem dX1_picture_94 : decode cX1_picture 94 = .ok (.aload 7, 2) := by decide +kernel
theorem dX1_picture_96 : decode cX1_picture 96 = .ok (.iload_n 2, 1) := by decide +kernel
theorem dX1_picture_97 : decode cX1_picture 97 = .ok (.putfield 52, 3) := by decide +kernel
theorem dX1_picture_100 : decode cX1_picture 100 = .ok (.aload 7, 2) := by decide +kernel
theorem dX1_picture_102 : decode cX1_picture 102 = .ok (.iload 6, 2) := by decide +kernel
theorem dX1_picture_104 : decode cX1_picture 104 = .ok (.putfield 56, 3) := by decide +kernel
theorem dX1_picture_107 : decode cX1_picture 107 = .ok (.aload 7, 2) := by decide +kernel
theorem dX1_picture_109 : decode cX1_picture 109 = .ok (.iload_n 3, 1) := by decide +kernel
theorem dX1_picture_110 : decode cX1_picture 110 = .ok (.iload 4, 2) := by decide +kernel
theorem dX1_picture_112 : decode cX1_picture 112 = .ok (.iload 5, 2) := by decide +kernel
theorem dX1_picture_114 : decode cX1_picture 114 = .ok (.invokevirtual 59, 3) := by decide +kernel
theorem dX1_picture_117 : decode cX1_picture 117 = .ok (.return_, 1) := by decide +kernel
theorem dX1_manner_0 : decode cX1_manner 0 = .ok (.aload_n 0, 1) := by decide +kernel
theorem dX1_manner_1 : decode cX1_manner 1 = .ok (.iload_n 1, 1) := by decide +kernel
theorem dX1_manner_2 : decode cX1_manner 2 = .ok (.invokevirtual 37, 3) := by decide +kernel
theorem dX1_manner_5 : decode cX1_manner 5 = .ok (.astore 5, 2) := by decide +kernel
theorem dX1_manner_7 : decode cX1_manner 7 = .ok (.iload_n 2, 1) := by decide +kernel
theorem dX1_manner_8 : decode cX1_manner 8 = .ok (.iconst 0, 1) := by decide +kernel
theorem dX1_manner_9 : decode cX1_manner 9 = .ok (.iconst 3, 1) := by decide +kernel
theorem dX1_manner_10 : decode cX1_manner 10 = .ok (.invokestatic 26, 3) := by decide +kernel
theorem dX1_manner_13 : decode cX1_manner 13 = .ok (.ifCond .eq 12, 3) := by decide +kernel
theorem dX1_manner_16 : decode cX1_manner 16 = .ok (.iload_n 3, 1) := by decide +kernel
theorem dX1_manner_17 : decode cX1_manner 17 = .ok (.iconst 0, 1) := by decide +kernel
theorem dX1_manner_18 : decode cX1_manner 18 = .ok (.iconst 3, 1) := by decide +kernel
theorem dX1_manner_19 : decode cX1_manner 19 = .ok (.invokestatic 26, 3) := by decide +kernel
theorem dX1_manner_22 : decode cX1_manner 22 = .ok (.ifCond .ne 13, 3) := by decide +kernel
theorem dX1_manner_25 : decode cX1_manner 25 = .ok (.new 41, 3) := by decide +kernel
theorem dX1_manner_28 : decode cX1_manner 28 = .ok (.dup, 1) := by decide +kernel
theorem dX1_manner_29 : decode cX1_manner 29 = .ok (.ldc 63, 2) := by decide +kernel
theorem dX1_manner_31 : decode cX1_manner 31 = .ok (.invokespecial 45, 3) := by decide +kernel
theorem dX1_manner_34 : decode cX1_manner 34 = .ok (.athrow, 1) := by decide +kernel
theorem dX1_manner_35 : decode cX1_manner 35 = .ok (.iload 4, 2) := by decide +kernel
theorem dX1_manner_37 : decode cX1_manner 37 = .ok (.iconst 0, 1) := by decide +kernel
theorem dX1_manner_38 : decode cX1_manner 38 = .ok (.iconst 3, 1) := by decide +kernel
theorem dX1_manner_39 : decode cX1_manner 39 = .ok (.invokestatic 26, 3) := by decide +kernel
theorem dX1_manner_42 : decode cX1_manner 42 = .ok (.ifCond .ne 13, 3) := by decide +kernel
theorem dX1_manner_45 : decode cX1_manner 45 = .ok (.new 41, 3) := by decide +kernel
theorem dX1_manner_48 : decode cX1_manner 48 = .ok (.dup, 1) := by decide +kernel
theorem dX1_manner_49 : decode cX1_manner 49 = .ok (.ldc 65, 2) := by decide +kernel
theorem dX1_manner_51 : decode cX1_manner 51 = .ok (.invokespecial 45, 3) := by decide +kernel
theorem dX1_manner_54 : decode cX1_manner 54 = .ok (.athrow, 1) := by decide +kernel
theorem dX1_manner_55 : decode cX1_manner 55 = .ok (.aload 5, 2) := by decide +kernel
theorem dX1_manner_57 : decode cX1_manner 57 = .ok (.iload_n 2, 1) := by decide +kernel
theorem dX1_manner_58 : decode cX1_manner 58 = .ok (.putfield 67, 3) := by decide +kernel
theorem dX1_manner_61 : decode cX1_manner 61 = .ok (.aload 5, 2) := by decide +kernel
theorem dX1_manner_63 : decode cX1_manner 63 = .ok (.iload_n 3, 1) := by decide +kernel
theorem dX1_manner_64 : decode cX1_manner 64 = .ok (.putfield 70, 3) := by decide +kernel
theorem dX1_manner_67 : decode cX1_manner 67 = .ok (.aload 5, 2) := by decide +kernel
theorem dX1_manner_69 : decode cX1_manner 69 = .ok (.iload 4, 2) := by decide +kernel
theorem dX1_manner_71 : decode cX1_manner 71 = .ok (.putfield 73, 3) := by decide +kernel
theorem dX1_manner_74 : decode cX1_manner 74 = .ok (.return_, 1) := by decide +kernel
theorem dX1_border_0 : decode cX1_border 0 = .ok (.aload_n 0, 1) := by decide +kernel
theorem dX1_border_1 : decode cX1_border 1 = .ok (.iload_n 1, 1) := by decide +kernel
theorem dX1_border_2 : decode cX1_border 2 = .ok (.invokevirtual 37, 3) := by decide +kernel
theorem dX1_border_5 : decode cX1_border 5 = .ok (.getfield 76, 3) := by decide +kernel
theorem dX1_border_8 : decode cX1_border 8 = .ok (.astore 6, 2) := by decide +kernel
theorem dX1_border_10 : decode cX1_border 10 = .ok (.aload 6, 2) := by decide +kernel
theorem dX1_border_12 : decode cX1_border 12 = .ok (.iconst 0, 1) := by decide +kernel
theorem dX1_border_13 : decode cX1_border 13 = .ok (.iload_n 2, 1) := by decide +kernel
theorem dX1_border_14 : decode cX1_border 14 = .ok (.iastore, 1) := by decide +kernel
theorem dX1_border_15 : decode cX1_border 15 = .ok (.aload 6, 2) := by decide +kernel
theorem dX1_border_17 : decode cX1_border 17 = .ok (.iconst 1, 1) := by decide +kernel
theorem dX1_border_18 : decode cX1_border 18 = .ok (.iload_n 3, 1) := by decide +kernel
theorem dX1_border_19 : decode cX1_border 19 = .ok (.iastore, 1) := by decide +kernel
theorem dX1_border_20 : decode cX1_border 20 = .ok (.aload 6, 2) := by decide +kernel
theorem dX1_border_22 : decode cX1_border 22 = .ok (.iconst 2, 1) := by decide +kernel
theorem dX1_border_23 : decode cX1_border 23 = .ok (.iload 4, 2) := by decide +kernel
theorem dX1_border_25 : decode cX1_border 25 = .ok (.iastore, 1) := by decide +kernel
theorem dX1_border_26 : decode cX1_border 26 = .ok (.aload 6, 2) := by decide +kernel
theorem dX1_border_28 : decode cX1_border 28 = .ok (.iconst 3, 1) := by decide +kernel
theorem dX1_border_29 : decode cX1_border 29 = .ok (.iload 5, 2) := by decide +kernel
theorem dX1_border_31 : decode cX1_border 31 = .ok (.iastore, 1) := by decide +kernel
theorem dX1_border_32 : decode cX1_border 32 = .ok (.return_, 1) := by decide +kernel
theorem dX1_texel_0 : decode cX1_texel 0 = .ok (.aload_n 0, 1) := by decide +kernel
theorem dX1_texel_1 : decode cX1_texel 1 = .ok (.iload_n 1, 1) := by decide +kernel
theorem dX1_texel_2 : decode cX1_texel 2 = .ok (.invokevirtual 37, 3) := by decide +kernel
theorem dX1_texel_5 : decode cX1_texel 5 = .ok (.astore 6, 2) := by decide +kernel
theorem dX1_texel_7 : decode cX1_texel 7 = .ok (.iload_n 2, 1) := by decide +kernel
theorem dX1_texel_8 : decode cX1_texel 8 = .ok (.iconst 0, 1) := by decide +kernel
theorem dX1_texel_9 : decode cX1_texel 9 = .ok (.aload 6, 2) := by decide +kernel
theorem dX1_texel_11 : decode cX1_texel 11 = .ok (.getfield 79, 3) := by decide +kernel
theorem dX1_texel_14 : decode cX1_texel 14 = .ok (.iconst 1, 1) := by decide +kernel
theorem dX1_texel_15 : decode cX1_texel 15 = .ok (.isub, 1) := by decide +kernel
theorem dX1_texel_16 : decode cX1_texel 16 = .ok (.invokestatic 26, 3) := by decide +kernel
theorem dX1_texel_19 : decode cX1_texel 19 = .ok (.ifCond .ne 13, 3) := by decide +kernel
theorem dX1_texel_22 : decode cX1_texel 22 = .ok (.new 30, 3) := by decide +kernel
theorem dX1_texel_25 : decode cX1_texel 25 = .ok (.dup, 1) := by decide +kernel
theorem dX1_texel_26 : decode cX1_texel 26 = .ok (.ldc 82, 2) := by decide +kernel
theorem dX1_texel_28 : decode cX1_texel 28 = .ok (.invokespecial 34, 3) := by decide +kernel
theorem dX1_texel_31 : decode cX1_texel 31 = .ok (.athrow, 1) := by decide +kernel
theorem dX1_texel_32 : decode cX1_texel 32 = .ok (.iload_n 3, 1) := by decide +kernel
theorem dX1_texel_33 : decode cX1_texel 33 = .ok (.iconst 0, 1) := by decide +kernel
theorem dX1_texel_34 : decode cX1_texel 34 = .ok (.aload 6, 2) := by decide +kernel
theorem dX1_texel_36 : decode cX1_texel 36 = .ok (.iload_n 2, 1) := by decide +kernel
theorem dX1_texel_37 : decode cX1_texel 37 = .ok (.invokevirtual 84, 3) := by decide +kernel
theorem dX1_texel_40 : decode cX1_texel 40 = .ok (.iconst 1, 1) := by decide +kernel
theorem dX1_texel_41 : decode cX1_texel 41 = .ok (.isub, 1) := by decide +kernel
theorem dX1_texel_42 : decode cX1_texel 42 = .ok (.invokestatic 26, 3) := by decide +kernel
theorem dX1_texel_45 : decode cX1_texel 45 = .ok (.ifCond .eq 20, 3) := by decide +kernel
theorem dX1_texel_48 : decode cX1_texel 48 = .ok (.iload 4, 2) := by decide +kernel
theorem dX1_texel_50 : decode cX1_texel 50 = .ok (.iconst 0, 1) := by decide +kernel
theorem dX1_texel_51 : decode cX1_texel 51 = .ok (.aload 6, 2) := by decide +kernel
theorem dX1_texel_53 : decode cX1_texel 53 = .ok (.iload_n 2, 1) := by decide +kernel
theorem dX1_texel_54 : decode cX1_texel 54 = .ok (.invokevirtual 88, 3) := by decide +kernel
theorem dX1_texel_57 : decode cX1_texel 57 = .ok (.iconst 1, 1) := by decide +kernel
theorem dX1_texel_58 : decode cX1_texel 58 = .ok (.isub, 1) := by decide +kernel
theorem dX1_texel_59 : decode cX1_texel 59 = .ok (.invokestatic 26, 3) := by decide +kernel
theorem dX1_texel_62 : decode cX1_texel 62 = .ok (.ifCond .ne 13, 3) := by decide +kernel
theorem dX1_texel_65 : decode cX1_texel 65 = .ok (.new 30, 3) := by decide +kernel
theorem dX1_texel_68 : decode cX1_texel 68 = .ok (.dup, 1) := by decide +kernel
theorem dX1_texel_69 : decode cX1_texel 69 = .ok (.ldc 91, 2) := by decide +kernel
theorem dX1_texel_71 : decode cX1_texel 71 = .ok (.invokespecial 34, 3) := by decide +kernel
theorem dX1_texel_74 : decode cX1_texel 74 = .ok (.athrow, 1) := by decide +kernel
theorem dX1_texel_75 : decode cX1_texel 75 = .ok (.iload 5, 2) := by decide +kernel
theorem dX1_texel_77 : decode cX1_texel 77 = .ok (.iconst 0, 1) := by decide +kernel
theorem dX1_texel_78 : decode cX1_texel 78 = .ok (.iconst 3, 1) := by decide +kernel
theorem dX1_texel_79 : decode cX1_texel 79 = .ok (.invokestatic 26, 3) := by decide +kernel
theorem dX1_texel_82 : decode cX1_texel 82 = .ok (.ifCond .ne 13, 3) := by decide +kernel
theorem dX1_texel_85 : decode cX1_texel 85 = .ok (.new 30, 3) := by decide +kernel
theorem dX1_texel_88 : decode cX1_texel 88 = .ok (.dup, 1) := by decide +kernel
theorem dX1_texel_89 : decode cX1_texel 89 = .ok (.ldc 93, 2) := by decide +kernel
theorem dX1_texel_91 : decode cX1_texel 91 = .ok (.invokespecial 34, 3) := by decide +kernel
theorem dX1_texel_94 : decode cX1_texel 94 = .ok (.athrow, 1) := by decide +kernel
theorem dX1_texel_95 : decode cX1_texel 95 = .ok (.aload_n 0, 1) := by decide +kernel
theorem dX1_texel_96 : decode cX1_texel 96 = .ok (.aload 6, 2) := by decide +kernel
theorem dX1_texel_98 : decode cX1_texel 98 = .ok (.iload_n 2, 1) := by decide +kernel
theorem dX1_texel_99 : decode cX1_texel 99 = .ok (.iload_n 3, 1) := by decide +kernel
theorem dX1_texel_100 : decode cX1_texel 100 = .ok (.iload 4, 2) := by decide +kernel
theorem dX1_texel_102 : decode cX1_texel 102 = .ok (.iload 5, 2) := by decide +kernel
theorem dX1_texel_104 : decode cX1_texel 104 = .ok (.invokevirtual 95, 3) := by decide +kernel
theorem dX1_texel_107 : decode cX1_texel 107 = .ok (.ireturn, 1) := by decide +kernel
theorem dX1_texels_0 : decode cX1_texels 0 = .ok (.aload_n 0, 1) := by decide +kernel
theorem dX1_texels_1 : decode cX1_texels 1 = .ok (.iload_n 1, 1) := by decide +kernel
theorem dX1_texels_2 : decode cX1_texels 2 = .ok (.invokevirtual 37, 3) := by decide +kernel
theorem dX1_texels_5 : decode cX1_texels 5 = .ok (.astore_n 2, 1) := by decide +kernel
theorem dX1_texels_6 : decode cX1_texels 6 = .ok (.aload_n 2, 1) := by decide +kernel
theorem dX1_texels_7 : decode cX1_texels 7 = .ok (.getfield 99, 3) := by decide +kernel
theorem dX1_texels_10 : decode cX1_texels 10 = .ok (.aload_n 2, 1) := by decide +kernel
theorem dX1_texels_11 : decode cX1_texels 11 = .ok (.getfield 79, 3) := by decide +kernel
theorem dX1_texels_14 : decode cX1_texels 14 = .ok (.iaload, 1) := by decide +kernel
theorem dX1_texels_15 : decode cX1_texels 15 = .ok (.ireturn, 1) := by decide +kernel
theorem dX1_read_0 : decode cX1_read 0 = .ok (.aload_n 0, 1) := by decide +kernel
theorem dX1_read_1 : decode cX1_read 1 = .ok (.iload_n 1, 1) := by decide +kernel
theorem dX1_read_2 : decode cX1_read 2 = .ok (.invokevirtual 37, 3) := by decide +kernel
theorem dX1_read_5 : decode cX1_read 5 = .ok (.astore 5, 2) := by decide +kernel
theorem dX1_read_7 : decode cX1_read 7 = .ok (.iload 4, 2) := by decide +kernel
theorem dX1_read_9 : decode cX1_read 9 = .ok (.iconst 0, 1) := by decide +kernel
theorem dX1_read_10 : decode cX1_read 10 = .ok (.aload 5, 2) := by decide +kernel
theorem dX1_read_12 : decode cX1_read 12 = .ok (.getfield 79, 3) := by decide +kernel
theorem dX1_read_15 : decode cX1_read 15 = .ok (.iconst 1, 1) := by decide +kernel
theorem dX1_read_16 : decode cX1_read 16 = .ok (.isub, 1) := by decide +kernel
theorem dX1_read_17 : decode cX1_read 17 = .ok (.bipush 16, 2) := by decide +kernel
theorem dX1_read_19 : decode cX1_read 19 = .ok (.ishl, 1) := by decide +kernel
theorem dX1_read_20 : decode cX1_read 20 = .ok (.invokestatic 102, 3) := by decide +kernel
theorem dX1_read_23 : decode cX1_read 23 = .ok (.istore 6, 2) := by decide +kernel
theorem dX1_read_25 : decode cX1_read 25 = .ok (.iload 6, 2) := by decide +kernel
theorem dX1_read_27 : decode cX1_read 27 = .ok (.bipush 16, 2) := by decide +kernel
theorem dX1_read_29 : decode cX1_read 29 = .ok (.ishr, 1) := by decide +kernel
theorem dX1_read_30 : decode cX1_read 30 = .ok (.istore 7, 2) := by decide +kernel
theorem dX1_read_32 : decode cX1_read 32 = .ok (.aload_n 0, 1) := by decide +kernel
theorem dX1_read_33 : decode cX1_read 33 = .ok (.aload 5, 2) := by decide +kernel
theorem dX1_read_35 : decode cX1_read 35 = .ok (.iload 7, 2) := by decide +kernel
theorem dX1_read_37 : decode cX1_read 37 = .ok (.iload_n 2, 1) := by decide +kernel
theorem dX1_read_38 : decode cX1_read 38 = .ok (.iload_n 3, 1) := by decide +kernel
theorem dX1_read_39 : decode cX1_read 39 = .ok (.aload_n 0, 1) := by decide +kernel
theorem dX1_read_40 : decode cX1_read 40 = .ok (.getfield 20, 3) := by decide +kernel
theorem dX1_read_43 : decode cX1_read 43 = .ok (.invokevirtual 106, 3) := by decide +kernel
theorem dX1_read_46 : decode cX1_read 46 = .ok (.aload 5, 2) := by decide +kernel
theorem dX1_read_48 : decode cX1_read 48 = .ok (.getfield 73, 3) := by decide +kernel
theorem dX1_read_51 : decode cX1_read 51 = .ok (.iconst 2, 1) := by decide +kernel
theorem dX1_read_52 : decode cX1_read 52 = .ok (.if_icmp .eq 12, 3) := by decide +kernel
theorem dX1_read_55 : decode cX1_read 55 = .ok (.aload 5, 2) := by decide +kernel
theorem dX1_read_57 : decode cX1_read 57 = .ok (.getfield 73, 3) := by decide +kernel
theorem dX1_read_60 : decode cX1_read 60 = .ok (.iconst 3, 1) := by decide +kernel
theorem dX1_read_61 : decode cX1_read 61 = .ok (.if_icmp .ne 7, 3) := by decide +kernel
theorem dX1_read_64 : decode cX1_read 64 = .ok (.iconst 1, 1) := by decide +kernel
theorem dX1_read_65 : decode cX1_read 65 = .ok (.goto 4, 3) := by decide +kernel
theorem dX1_read_68 : decode cX1_read 68 = .ok (.iconst 0, 1) := by decide +kernel
theorem dX1_read_69 : decode cX1_read 69 = .ok (.istore 8, 2) := by decide +kernel
theorem dX1_read_71 : decode cX1_read 71 = .ok (.iload 8, 2) := by decide +kernel
theorem dX1_read_73 : decode cX1_read 73 = .ok (.ifCond .eq 75, 3) := by decide +kernel
theorem dX1_read_76 : decode cX1_read 76 = .ok (.iload 7, 2) := by decide +kernel
theorem dX1_read_78 : decode cX1_read 78 = .ok (.iconst 1, 1) := by decide +kernel
theorem dX1_read_79 : decode cX1_read 79 = .ok (.iadd, 1) := by decide +kernel
theorem dX1_read_80 : decode cX1_read 80 = .ok (.aload 5, 2) := by decide +kernel
theorem dX1_read_82 : decode cX1_read 82 = .ok (.getfield 79, 3) := by decide +kernel
theorem dX1_read_85 : decode cX1_read 85 = .ok (.if_icmp .ge 63, 3) := by decide +kernel
theorem dX1_read_88 : decode cX1_read 88 = .ok (.aload_n 0, 1) := by decide +kernel
theorem dX1_read_89 : decode cX1_read 89 = .ok (.aload 5, 2) := by decide +kernel
theorem dX1_read_91 : decode cX1_read 91 = .ok (.iload 7, 2) := by decide +kernel
theorem dX1_read_93 : decode cX1_read 93 = .ok (.iconst 1, 1) := by decide +kernel
theorem dX1_read_94 : decode cX1_read 94 = .ok (.iadd, 1) := by decide +kernel
theorem dX1_read_95 : decode cX1_read 95 = .ok (.iload_n 2, 1) := by decide +kernel
theorem dX1_read_96 : decode cX1_read 96 = .ok (.iload_n 3, 1) := by decide +kernel
theorem dX1_read_97 : decode cX1_read 97 = .ok (.aload_n 0, 1) := by decide +kernel
theorem dX1_read_98 : decode cX1_read 98 = .ok (.getfield 23, 3) := by decide +kernel
theorem dX1_read_101 : decode cX1_read 101 = .ok (.invokevirtual 106, 3) := by decide +kernel
theorem dX1_read_104 : decode cX1_read 104 = .ok (.iconst 0, 1) := by decide +kernel
theorem dX1_read_105 : decode cX1_read 105 = .ok (.istore 9, 2) := by decide +kernel
theorem dX1_read_107 : decode cX1_read 107 = .ok (.iload 9, 2) := by decide +kernel
theorem dX1_read_109 : decode cX1_read 109 = .ok (.iconst 4, 1) := by decide +kernel
theorem dX1_read_110 : decode cX1_read 110 = .ok (.if_icmp .ge 38, 3) := by decide +kernel
theorem dX1_read_113 : decode cX1_read 113 = .ok (.aload_n 0, 1) := by decide +kernel
theorem dX1_read_114 : decode cX1_read 114 = .ok (.getfield 20, 3) := by decide +kernel
theorem dX1_read_117 : decode cX1_read 117 = .ok (.iload 9, 2) := by decide +kernel
theorem dX1_read_119 : decode cX1_read 119 = .ok (.aload_n 0, 1) := by decide +kernel
theorem dX1_read_120 : decode cX1_read 120 = .ok (.getfield 20, 3) := by decide +kernel
theorem dX1_read_123 : decode cX1_read 123 = .ok (.iload 9, 2) := by decide +kernel
theorem dX1_read_125 : decode cX1_read 125 = .ok (.iaload, 1) := by decide +kernel
theorem dX1_read_126 : decode cX1_read 126 = .ok (.aload_n 0, 1) := by decide +kernel
theorem dX1_read_127 : decode cX1_read 127 = .ok (.getfield 23, 3) := by decide +kernel
theorem dX1_read_130 : decode cX1_read 130 = .ok (.iload 9, 2) := by decide +kernel
theorem dX1_read_132 : decode cX1_read 132 = .ok (.iaload, 1) := by decide +kernel
theorem dX1_read_133 : decode cX1_read 133 = .ok (.iload 6, 2) := by decide +kernel
theorem dX1_read_135 : decode cX1_read 135 = .ok (.ldc 110, 2) := by decide +kernel
theorem dX1_read_137 : decode cX1_read 137 = .ok (.iand, 1) := by decide +kernel
theorem dX1_read_138 : decode cX1_read 138 = .ok (.invokestatic 111, 3) := by decide +kernel
theorem dX1_read_141 : decode cX1_read 141 = .ok (.iastore, 1) := by decide +kernel
theorem dX1_read_142 : decode cX1_read 142 = .ok (.iinc 9 1, 3) := by decide +kernel
theorem dX1_read_145 : decode cX1_read 145 = .ok (.goto (-38), 3) := by decide +kernel
theorem dX1_read_148 : decode cX1_read 148 = .ok (.aload_n 0, 1) := by decide +kernel
theorem dX1_read_149 : decode cX1_read 149 = .ok (.getfield 20, 3) := by decide +kernel
theorem dX1_read_152 : decode cX1_read 152 = .ok (.iconst 0, 1) := by decide +kernel
theorem dX1_read_153 : decode cX1_read 153 = .ok (.iaload, 1) := by decide +kernel
theorem dX1_read_154 : decode cX1_read 154 = .ok (.ireturn, 1) := by decide +kernel
theorem dX1_also_0 : decode cX1_also 0 = .ok (.iload_n 1, 1) := by decide +kernel
theorem dX1_also_1 : decode cX1_also 1 = .ok (.iconst 0, 1) := by decide +kernel
theorem dX1_also_2 : decode cX1_also 2 = .ok (.iconst 3, 1) := by decide +kernel
theorem dX1_also_3 : decode cX1_also 3 = .ok (.invokestatic 26, 3) := by decide +kernel
theorem dX1_also_6 : decode cX1_also 6 = .ok (.ifCond .ne 13, 3) := by decide +kernel
theorem dX1_also_9 : decode cX1_also 9 = .ok (.new 30, 3) := by decide +kernel
theorem dX1_also_12 : decode cX1_also 12 = .ok (.dup, 1) := by decide +kernel
theorem dX1_also_13 : decode cX1_also 13 = .ok (.ldc 93, 2) := by decide +kernel
theorem dX1_also_15 : decode cX1_also 15 = .ok (.invokespecial 34, 3) := by decide +kernel
theorem dX1_also_18 : decode cX1_also 18 = .ok (.athrow, 1) := by decide +kernel
theorem dX1_also_19 : decode cX1_also 19 = .ok (.aload_n 0, 1) := by decide +kernel
theorem dX1_also_20 : decode cX1_also 20 = .ok (.getfield 20, 3) := by decide +kernel
theorem dX1_also_23 : decode cX1_also 23 = .ok (.iload_n 1, 1) := by decide +kernel
theorem dX1_also_24 : decode cX1_also 24 = .ok (.iaload, 1) := by decide +kernel
theorem dX1_also_25 : decode cX1_also 25 = .ok (.ireturn, 1) := by decide +kernel
theorem dX1_unitAt_0 : decode cX1_unitAt 0 = .ok (.iload_n 1, 1) := by decide +kernel
theorem dX1_unitAt_1 : decode cX1_unitAt 1 = .ok (.iconst 0, 1) := by decide +kernel
theorem dX1_unitAt_2 : decode cX1_unitAt 2 = .ok (.iconst 3, 1) := by decide +kernel
theorem dX1_unitAt_3 : decode cX1_unitAt 3 = .ok (.invokestatic 26, 3) := by decide +kernel
theorem dX1_unitAt_6 : decode cX1_unitAt 6 = .ok (.ifCond .ne 13, 3) := by decide +kernel
theorem dX1_unitAt_9 : decode cX1_unitAt 9 = .ok (.new 114, 3) := by decide +kernel
theorem dX1_unitAt_12 : decode cX1_unitAt 12 = .ok (.dup, 1) := by decide +kernel
theorem dX1_unitAt_13 : decode cX1_unitAt 13 = .ok (.ldc 116, 2) := by decide +kernel
theorem dX1_unitAt_15 : decode cX1_unitAt 15 = .ok (.invokespecial 118, 3) := by decide +kernel
theorem dX1_unitAt_18 : decode cX1_unitAt 18 = .ok (.athrow, 1) := by decide +kernel
theorem dX1_unitAt_19 : decode cX1_unitAt 19 = .ok (.aload_n 0, 1) := by decide +kernel
theorem dX1_unitAt_20 : decode cX1_unitAt 20 = .ok (.getfield 15, 3) := by decide +kernel
theorem dX1_unitAt_23 : decode cX1_unitAt 23 = .ok (.iload_n 1, 1) := by decide +kernel
theorem dX1_unitAt_24 : decode cX1_unitAt 24 = .ok (.aaload, 1) := by decide +kernel
theorem dX1_unitAt_25 : decode cX1_unitAt 25 = .ok (.areturn, 1) := by decide +kernel
theorem dX1_sample_0 : decode cX1_sample 0 = .ok (.aload_n 1, 1) := by decide +kernel
theorem dX1_sample_1 : decode cX1_sample 1 = .ok (.getfield 73, 3) := by decide +kernel
theorem dX1_sample_4 : decode cX1_sample 4 = .ok (.iconst 1, 1) := by decide +kernel
theorem dX1_sample_5 : decode cX1_sample 5 = .ok (.if_icmp .eq 11, 3) := by decide +kernel
theorem dX1_sample_8 : decode cX1_sample 8 = .ok (.aload_n 1, 1) := by decide +kernel
theorem dX1_sample_9 : decode cX1_sample 9 = .ok (.getfield 73, 3) := by decide +kernel
theorem dX1_sample_12 : decode cX1_sample 12 = .ok (.iconst 3, 1) := by decide +kernel
theorem dX1_sample_13 : decode cX1_sample 13 = .ok (.if_icmp .ne 17, 3) := by decide +kernel
theorem dX1_sample_16 : decode cX1_sample 16 = .ok (.aload_n 0, 1) := by decide +kernel
theorem dX1_sample_17 : decode cX1_sample 17 = .ok (.aload_n 1, 1) := by decide +kernel
theorem dX1_sample_18 : decode cX1_sample 18 = .ok (.iload_n 2, 1) := by decide +kernel
theorem dX1_sample_19 : decode cX1_sample 19 = .ok (.iload_n 3, 1) := by decide +kernel
theorem dX1_sample_20 : decode cX1_sample 20 = .ok (.iload 4, 2) := by decide +kernel
theorem dX1_sample_22 : decode cX1_sample 22 = .ok (.aload 5, 2) := by decide +kernel
theorem dX1_sample_24 : decode cX1_sample 24 = .ok (.invokevirtual 119, 3) := by decide +kernel
theorem dX1_sample_27 : decode cX1_sample 27 = .ok (.goto 14, 3) := by decide +kernel
theorem dX1_sample_30 : decode cX1_sample 30 = .ok (.aload_n 0, 1) := by decide +kernel
theorem dX1_sample_31 : decode cX1_sample 31 = .ok (.aload_n 1, 1) := by decide +kernel
theorem dX1_sample_32 : decode cX1_sample 32 = .ok (.iload_n 2, 1) := by decide +kernel
theorem dX1_sample_33 : decode cX1_sample 33 = .ok (.iload_n 3, 1) := by decide +kernel
theorem dX1_sample_34 : decode cX1_sample 34 = .ok (.iload 4, 2) := by decide +kernel
theorem dX1_sample_36 : decode cX1_sample 36 = .ok (.aload 5, 2) := by decide +kernel
theorem dX1_sample_38 : decode cX1_sample 38 = .ok (.invokevirtual 122, 3) := by decide +kernel
theorem dX1_sample_41 : decode cX1_sample 41 = .ok (.return_, 1) := by decide +kernel
theorem dX1_sampleOne_0 : decode cX1_sampleOne 0 = .ok (.aload_n 1, 1) := by decide +kernel
theorem dX1_sampleOne_1 : decode cX1_sampleOne 1 = .ok (.iload_n 2, 1) := by decide +kernel
theorem dX1_sampleOne_2 : decode cX1_sampleOne 2 = .ok (.invokevirtual 84, 3) := by decide +kernel
theorem dX1_sampleOne_5 : decode cX1_sampleOne 5 = .ok (.istore 6, 2) := by decide +kernel
theorem dX1_sampleOne_7 : decode cX1_sampleOne 7 = .ok (.aload_n 1, 1) := by decide +kernel
theorem dX1_sampleOne_8 : decode cX1_sampleOne 8 = .ok (.iload_n 2, 1) := by decide +kernel
theorem dX1_sampleOne_9 : decode cX1_sampleOne 9 = .ok (.invokevirtual 88, 3) := by decide +kernel
theorem dX1_sampleOne_12 : decode cX1_sampleOne 12 = .ok (.istore 7, 2) := by decide +kernel
theorem dX1_sampleOne_14 : decode cX1_sampleOne 14 = .ok (.aload_n 1, 1) := by decide +kernel
theorem dX1_sampleOne_15 : decode cX1_sampleOne 15 = .ok (.getfield 67, 3) := by decide +kernel
theorem dX1_sampleOne_18 : decode cX1_sampleOne 18 = .ok (.iload_n 3, 1) := by decide +kernel
theorem dX1_sampleOne_19 : decode cX1_sampleOne 19 = .ok (.i2l, 1) := by decide +kernel
theorem dX1_sampleOne_20 : decode cX1_sampleOne 20 = .ok (.iload 6, 2) := by decide +kernel
theorem dX1_sampleOne_22 : decode cX1_sampleOne 22 = .ok (.i2l, 1) := by decide +kernel
theorem dX1_sampleOne_23 : decode cX1_sampleOne 23 = .ok (.lmul, 1) := by decide +kernel
theorem dX1_sampleOne_24 : decode cX1_sampleOne 24 = .ok (.invokestatic 125, 3) := by decide +kernel
theorem dX1_sampleOne_27 : decode cX1_sampleOne 27 = .ok (.iload 6, 2) := by decide +kernel
theorem dX1_sampleOne_29 : decode cX1_sampleOne 29 = .ok (.invokestatic 129, 3) := by decide +kernel
theorem dX1_sampleOne_32 : decode cX1_sampleOne 32 = .ok (.istore 8, 2) := by decide +kernel
theorem dX1_sampleOne_34 : decode cX1_sampleOne 34 = .ok (.aload_n 1, 1) := by decide +kernel
theorem dX1_sampleOne_35 : decode cX1_sampleOne 35 = .ok (.getfield 70, 3) := by decide +kernel
theorem dX1_sampleOne_38 : decode cX1_sampleOne 38 = .ok (.iload 4, 2) := by decide +kernel
theorem dX1_sampleOne_40 : decode cX1_sampleOne 40 = .ok (.i2l, 1) := by decide +kernel
theorem dX1_sampleOne_41 : decode cX1_sampleOne 41 = .ok (.iload 7, 2) := by decide +kernel
theorem dX1_sampleOne_43 : decode cX1_sampleOne 43 = .ok (.i2l, 1) := by decide +kernel
theorem dX1_sampleOne_44 : decode cX1_sampleOne 44 = .ok (.lmul, 1) := by decide +kernel
theorem dX1_sampleOne_45 : decode cX1_sampleOne 45 = .ok (.invokestatic 125, 3) := by decide +kernel
theorem dX1_sampleOne_48 : decode cX1_sampleOne 48 = .ok (.iload 7, 2) := by decide +kernel
theorem dX1_sampleOne_50 : decode cX1_sampleOne 50 = .ok (.invokestatic 129, 3) := by decide +kernel
theorem dX1_sampleOne_53 : decode cX1_sampleOne 53 = .ok (.istore 9, 2) := by decide +kernel
theorem dX1_sampleOne_55 : decode cX1_sampleOne 55 = .ok (.iconst 0, 1) := by decide +kernel
theorem dX1_sampleOne_56 : decode cX1_sampleOne 56 = .ok (.istore 10, 2) := by decide +kernel
theorem dX1_sampleOne_58 : decode cX1_sampleOne 58 = .ok (.iload 10, 2) := by decide +kernel
theorem dX1_sampleOne_60 : decode cX1_sampleOne 60 = .ok (.iconst 4, 1) := by decide +kernel
theorem dX1_sampleOne_61 : decode cX1_sampleOne 61 = .ok (.if_icmp .ge 26, 3) := by decide +kernel
theorem dX1_sampleOne_64 : decode cX1_sampleOne 64 = .ok (.aload 5, 2) := by decide +kernel
theorem dX1_sampleOne_66 : decode cX1_sampleOne 66 = .ok (.iload 10, 2) := by decide +kernel
theorem dX1_sampleOne_68 : decode cX1_sampleOne 68 = .ok (.aload_n 0, 1) := by decide +kernel
theorem dX1_sampleOne_69 : decode cX1_sampleOne 69 = .ok (.aload_n 1, 1) := by decide +kernel
theorem dX1_sampleOne_70 : decode cX1_sampleOne 70 = .ok (.iload_n 2, 1) := by decide +kernel
theorem dX1_sampleOne_71 : decode cX1_sampleOne 71 = .ok (.iload 8, 2) := by decide +kernel
theorem dX1_sampleOne_73 : decode cX1_sampleOne 73 = .ok (.iload 9, 2) := by decide +kernel
theorem dX1_sampleOne_75 : decode cX1_sampleOne 75 = .ok (.iload 10, 2) := by decide +kernel
theorem dX1_sampleOne_77 : decode cX1_sampleOne 77 = .ok (.invokevirtual 132, 3) := by decide +kernel
theorem dX1_sampleOne_80 : decode cX1_sampleOne 80 = .ok (.iastore, 1) := by decide +kernel
theorem dX1_sampleOne_81 : decode cX1_sampleOne 81 = .ok (.iinc 10 1, 3) := by decide +kernel
theorem dX1_sampleOne_84 : decode cX1_sampleOne 84 = .ok (.goto (-26), 3) := by decide +kernel
theorem dX1_sampleOne_87 : decode cX1_sampleOne 87 = .ok (.return_, 1) := by decide +kernel
theorem dX1_sampleFour_0 : decode cX1_sampleFour 0 = .ok (.aload_n 1, 1) := by decide +kernel
theorem dX1_sampleFour_1 : decode cX1_sampleFour 1 = .ok (.iload_n 2, 1) := by decide +kernel
theorem dX1_sampleFour_2 : decode cX1_sampleFour 2 = .ok (.invokevirtual 84, 3) := by decide +kernel
theorem dX1_sampleFour_5 : decode cX1_sampleFour 5 = .ok (.istore 6, 2) := by decide +kernel
theorem dX1_sampleFour_7 : decode cX1_sampleFour 7 = .ok (.aload_n 1, 1) := by decide +kernel
theorem dX1_sampleFour_8 : decode cX1_sampleFour 8 = .ok (.iload_n 2, 1) := by decide +kernel
theorem dX1_sampleFour_9 : decode cX1_sampleFour 9 = .ok (.invokevirtual 88, 3) := by decide +kernel
theorem dX1_sampleFour_12 : decode cX1_sampleFour 12 = .ok (.istore 7, 2) := by decide +kernel
theorem dX1_sampleFour_14 : decode cX1_sampleFour 14 = .ok (.iload_n 3, 1) := by decide +kernel
theorem dX1_sampleFour_15 : decode cX1_sampleFour 15 = .ok (.i2l, 1) := by decide +kernel
theorem dX1_sampleFour_16 : decode cX1_sampleFour 16 = .ok (.iload 6, 2) := by decide +kernel
theorem dX1_sampleFour_18 : decode cX1_sampleFour 18 = .ok (.i2l, 1) := by decide +kernel
theorem dX1_sampleFour_19 : decode cX1_sampleFour 19 = .ok (.lmul, 1) := by decide +kernel
theorem dX1_sampleFour_20 : decode cX1_sampleFour 20 = .ok (.ldc2_w 135, 3) := by decide +kernel
theorem dX1_sampleFour_23 : decode cX1_sampleFour 23 = .ok (.lsub, 1) := by decide +kernel
theorem dX1_sampleFour_24 : decode cX1_sampleFour 24 = .ok (.lstore 8, 2) := by decide +kernel
theorem dX1_sampleFour_26 : decode cX1_sampleFour 26 = .ok (.iload 4, 2) := by decide +kernel
theorem dX1_sampleFour_28 : decode cX1_sampleFour 28 = .ok (.i2l, 1) := by decide +kernel
theorem dX1_sampleFour_29 : decode cX1_sampleFour 29 = .ok (.iload 7, 2) := by decide +kernel
theorem dX1_sampleFour_31 : decode cX1_sampleFour 31 = .ok (.i2l, 1) := by decide +kernel
theorem dX1_sampleFour_32 : decode cX1_sampleFour 32 = .ok (.lmul, 1) := by decide +kernel
theorem dX1_sampleFour_33 : decode cX1_sampleFour 33 = .ok (.ldc2_w 135, 3) := by decide +kernel
theorem dX1_sampleFour_36 : decode cX1_sampleFour 36 = .ok (.lsub, 1) := by decide +kernel
theorem dX1_sampleFour_37 : decode cX1_sampleFour 37 = .ok (.lstore 10, 2) := by decide +kernel
theorem dX1_sampleFour_39 : decode cX1_sampleFour 39 = .ok (.aload_n 1, 1) := by decide +kernel
theorem dX1_sampleFour_40 : decode cX1_sampleFour 40 = .ok (.getfield 67, 3) := by decide +kernel
theorem dX1_sampleFour_43 : decode cX1_sampleFour 43 = .ok (.lload 8, 2) := by decide +kernel
theorem dX1_sampleFour_45 : decode cX1_sampleFour 45 = .ok (.invokestatic 125, 3) := by decide +kernel
theorem dX1_sampleFour_48 : decode cX1_sampleFour 48 = .ok (.iload 6, 2) := by decide +kernel
theorem dX1_sampleFour_50 : decode cX1_sampleFour 50 = .ok (.invokestatic 129, 3) := by decide +kernel
theorem dX1_sampleFour_53 : decode cX1_sampleFour 53 = .ok (.istore 12, 2) := by decide +kernel
theorem dX1_sampleFour_55 : decode cX1_sampleFour 55 = .ok (.aload_n 1, 1) := by decide +kernel
theorem dX1_sampleFour_56 : decode cX1_sampleFour 56 = .ok (.getfield 67, 3) := by decide +kernel
theorem dX1_sampleFour_59 : decode cX1_sampleFour 59 = .ok (.lload 8, 2) := by decide +kernel
theorem dX1_sampleFour_61 : decode cX1_sampleFour 61 = .ok (.invokestatic 125, 3) := by decide +kernel
theorem dX1_sampleFour_64 : decode cX1_sampleFour 64 = .ok (.iconst 1, 1) := by decide +kernel
theorem dX1_sampleFour_65 : decode cX1_sampleFour 65 = .ok (.iadd, 1) := by decide +kernel
theorem dX1_sampleFour_66 : decode cX1_sampleFour 66 = .ok (.iload 6, 2) := by decide +kernel
theorem dX1_sampleFour_68 : decode cX1_sampleFour 68 = .ok (.invokestatic 129, 3) := by decide +kernel
theorem dX1_sampleFour_71 : decode cX1_sampleFour 71 = .ok (.istore 13, 2) := by decide +kernel
theorem dX1_sampleFour_73 : decode cX1_sampleFour 73 = .ok (.aload_n 1, 1) := by decide +kernel
theorem dX1_sampleFour_74 : decode cX1_sampleFour 74 = .ok (.getfield 70, 3) := by decide +kernel
theorem dX1_sampleFour_77 : decode cX1_sampleFour 77 = .ok (.lload 10, 2) := by decide +kernel
theorem dX1_sampleFour_79 : decode cX1_sampleFour 79 = .ok (.invokestatic 125, 3) := by decide +kernel
theorem dX1_sampleFour_82 : decode cX1_sampleFour 82 = .ok (.iload 7, 2) := by decide +kernel
theorem dX1_sampleFour_84 : decode cX1_sampleFour 84 = .ok (.invokestatic 129, 3) := by decide +kernel
theorem dX1_sampleFour_87 : decode cX1_sampleFour 87 = .ok (.istore 14, 2) := by decide +kernel
theorem dX1_sampleFour_89 : decode cX1_sampleFour 89 = .ok (.aload_n 1, 1) := by decide +kernel
theorem dX1_sampleFour_90 : decode cX1_sampleFour 90 = .ok (.getfield 70, 3) := by decide +kernel
theorem dX1_sampleFour_93 : decode cX1_sampleFour 93 = .ok (.lload 10, 2) := by decide +kernel
theorem dX1_sampleFour_95 : decode cX1_sampleFour 95 = .ok (.invokestatic 125, 3) := by decide +kernel
theorem dX1_sampleFour_98 : decode cX1_sampleFour 98 = .ok (.iconst 1, 1) := by decide +kernel
theorem dX1_sampleFour_99 : decode cX1_sampleFour 99 = .ok (.iadd, 1) := by decide +kernel
theorem dX1_sampleFour_100 : decode cX1_sampleFour 100 = .ok (.iload 7, 2) := by decide +kernel
theorem dX1_sampleFour_102 : decode cX1_sampleFour 102 = .ok (.invokestatic 129, 3) := by decide +kernel
theorem dX1_sampleFour_105 : decode cX1_sampleFour 105 = .ok (.istore 15, 2) := by decide +kernel
theorem dX1_sampleFour_107 : decode cX1_sampleFour 107 = .ok (.lload 8, 2) := by decide +kernel
theorem dX1_sampleFour_109 : decode cX1_sampleFour 109 = .ok (.invokestatic 137, 3) := by decide +kernel
theorem dX1_sampleFour_112 : decode cX1_sampleFour 112 = .ok (.istore 16, 2) := by decide +kernel
theorem dX1_sampleFour_114 : decode cX1_sampleFour 114 = .ok (.lload 10, 2) := by decide +kernel
theorem dX1_sampleFour_116 : decode cX1_sampleFour 116 = .ok (.invokestatic 137, 3) := by decide +kernel
theorem dX1_sampleFour_119 : decode cX1_sampleFour 119 = .ok (.istore 17, 2) := by decide +kernel
theorem dX1_sampleFour_121 : decode cX1_sampleFour 121 = .ok (.iconst 0, 1) := by decide +kernel
theorem dX1_sampleFour_122 : decode cX1_sampleFour 122 = .ok (.istore 18, 2) := by decide +kernel
theorem dX1_sampleFour_124 : decode cX1_sampleFour 124 = .ok (.iload 18, 2) := by decide +kernel
theorem dX1_sampleFour_126 : decode cX1_sampleFour 126 = .ok (.iconst 4, 1) := by decide +kernel
theorem dX1_sampleFour_127 : decode cX1_sampleFour 127 = .ok (.if_icmp .ge 85, 3) := by decide +kernel
theorem dX1_sampleFour_130 : decode cX1_sampleFour 130 = .ok (.aload_n 0, 1) := by decide +kernel
theorem dX1_sampleFour_131 : decode cX1_sampleFour 131 = .ok (.aload_n 1, 1) := by decide +kernel
theorem dX1_sampleFour_132 : decode cX1_sampleFour 132 = .ok (.iload_n 2, 1) := by decide +kernel
theorem dX1_sampleFour_133 : decode cX1_sampleFour 133 = .ok (.iload 12, 2) := by decide +kernel
theorem dX1_sampleFour_135 : decode cX1_sampleFour 135 = .ok (.iload 14, 2) := by decide +kernel
theorem dX1_sampleFour_137 : decode cX1_sampleFour 137 = .ok (.iload 18, 2) := by decide +kernel
theorem dX1_sampleFour_139 : decode cX1_sampleFour 139 = .ok (.invokevirtual 132, 3) := by decide +kernel
theorem dX1_sampleFour_142 : decode cX1_sampleFour 142 = .ok (.aload_n 0, 1) := by decide +kernel
theorem dX1_sampleFour_143 : decode cX1_sampleFour 143 = .ok (.aload_n 1, 1) := by decide +kernel
theorem dX1_sampleFour_144 : decode cX1_sampleFour 144 = .ok (.iload_n 2, 1) := by decide +kernel
theorem dX1_sampleFour_145 : decode cX1_sampleFour 145 = .ok (.iload 13, 2) := by decide +kernel
theorem dX1_sampleFour_147 : decode cX1_sampleFour 147 = .ok (.iload 14, 2) := by decide +kernel
theorem dX1_sampleFour_149 : decode cX1_sampleFour 149 = .ok (.iload 18, 2) := by decide +kernel
theorem dX1_sampleFour_151 : decode cX1_sampleFour 151 = .ok (.invokevirtual 132, 3) := by decide +kernel
theorem dX1_sampleFour_154 : decode cX1_sampleFour 154 = .ok (.iload 16, 2) := by decide +kernel
theorem dX1_sampleFour_156 : decode cX1_sampleFour 156 = .ok (.invokestatic 111, 3) := by decide +kernel
theorem dX1_sampleFour_159 : decode cX1_sampleFour 159 = .ok (.istore 19, 2) := by decide +kernel
theorem dX1_sampleFour_161 : decode cX1_sampleFour 161 = .ok (.aload_n 0, 1) := by decide +kernel
theorem dX1_sampleFour_162 : decode cX1_sampleFour 162 = .ok (.aload_n 1, 1) := by decide +kernel
theorem dX1_sampleFour_163 : decode cX1_sampleFour 163 = .ok (.iload_n 2, 1) := by decide +kernel
theorem dX1_sampleFour_164 : decode cX1_sampleFour 164 = .ok (.iload 12, 2) := by decide +kernel
theorem dX1_sampleFour_166 : decode cX1_sampleFour 166 = .ok (.iload 15, 2) := by decide +kernel
theorem dX1_sampleFour_168 : decode cX1_sampleFour 168 = .ok (.iload 18, 2) := by decide +kernel
theorem dX1_sampleFour_170 : decode cX1_sampleFour 170 = .ok (.invokevirtual 132, 3) := by decide +kernel
theorem dX1_sampleFour_173 : decode cX1_sampleFour 173 = .ok (.aload_n 0, 1) := by decide +kernel
theorem dX1_sampleFour_174 : decode cX1_sampleFour 174 = .ok (.aload_n 1, 1) := by decide +kernel
theorem dX1_sampleFour_175 : decode cX1_sampleFour 175 = .ok (.iload_n 2, 1) := by decide +kernel
theorem dX1_sampleFour_176 : decode cX1_sampleFour 176 = .ok (.iload 13, 2) := by decide +kernel
theorem dX1_sampleFour_178 : decode cX1_sampleFour 178 = .ok (.iload 15, 2) := by decide +kernel
theorem dX1_sampleFour_180 : decode cX1_sampleFour 180 = .ok (.iload 18, 2) := by decide +kernel
theorem dX1_sampleFour_182 : decode cX1_sampleFour 182 = .ok (.invokevirtual 132, 3) := by decide +kernel
theorem dX1_sampleFour_185 : decode cX1_sampleFour 185 = .ok (.iload 16, 2) := by decide +kernel
theorem dX1_sampleFour_187 : decode cX1_sampleFour 187 = .ok (.invokestatic 111, 3) := by decide +kernel
theorem dX1_sampleFour_190 : decode cX1_sampleFour 190 = .ok (.istore 20, 2) := by decide +kernel
theorem dX1_sampleFour_192 : decode cX1_sampleFour 192 = .ok (.aload 5, 2) := by decide +kernel
theorem dX1_sampleFour_194 : decode cX1_sampleFour 194 = .ok (.iload 18, 2) := by decide +kernel
theorem dX1_sampleFour_196 : decode cX1_sampleFour 196 = .ok (.iload 19, 2) := by decide +kernel
theorem dX1_sampleFour_198 : decode cX1_sampleFour 198 = .ok (.iload 20, 2) := by decide +kernel
theorem dX1_sampleFour_200 : decode cX1_sampleFour 200 = .ok (.iload 17, 2) := by decide +kernel
theorem dX1_sampleFour_202 : decode cX1_sampleFour 202 = .ok (.invokestatic 111, 3) := by decide +kernel
theorem dX1_sampleFour_205 : decode cX1_sampleFour 205 = .ok (.iastore, 1) := by decide +kernel
theorem dX1_sampleFour_206 : decode cX1_sampleFour 206 = .ok (.iinc 18 1, 3) := by decide +kernel
theorem dX1_sampleFour_209 : decode cX1_sampleFour 209 = .ok (.goto (-85), 3) := by decide +kernel
theorem dX1_sampleFour_212 : decode cX1_sampleFour 212 = .ok (.return_, 1) := by decide +kernel
theorem dX1_storedOrBorder_0 : decode cX1_storedOrBorder 0 = .ok (.iload_n 3, 1) := by decide +kernel
theorem dX1_storedOrBorder_1 : decode cX1_storedOrBorder 1 = .ok (.iconst (-1), 1) := by decide +kernel
theorem dX1_storedOrBorder_2 : decode cX1_storedOrBorder 2 = .ok (.if_icmp .eq 9, 3) := by decide +kernel
theorem dX1_storedOrBorder_5 : decode cX1_storedOrBorder 5 = .ok (.iload 4, 2) := by decide +kernel
theorem dX1_storedOrBorder_7 : decode cX1_storedOrBorder 7 = .ok (.iconst (-1), 1) := by decide +kernel
theorem dX1_storedOrBorder_8 : decode cX1_storedOrBorder 8 = .ok (.if_icmp .ne 11, 3) := by decide +kernel
theorem dX1_storedOrBorder_11 : decode cX1_storedOrBorder 11 = .ok (.aload_n 1, 1) := by decide +kernel
theorem dX1_storedOrBorder_12 : decode cX1_storedOrBorder 12 = .ok (.getfield 76, 3) := by decide +kernel
theorem dX1_storedOrBorder_15 : decode cX1_storedOrBorder 15 = .ok (.iload 5, 2) := by decide +kernel
theorem dX1_storedOrBorder_17 : decode cX1_storedOrBorder 17 = .ok (.iaload, 1) := by decide +kernel
theorem dX1_storedOrBorder_18 : decode cX1_storedOrBorder 18 = .ok (.ireturn, 1) := by decide +kernel
theorem dX1_storedOrBorder_19 : decode cX1_storedOrBorder 19 = .ok (.aload_n 0, 1) := by decide +kernel
theorem dX1_storedOrBorder_20 : decode cX1_storedOrBorder 20 = .ok (.aload_n 1, 1) := by decide +kernel
theorem dX1_storedOrBorder_21 : decode cX1_storedOrBorder 21 = .ok (.iload_n 2, 1) := by decide +kernel
theorem dX1_storedOrBorder_22 : decode cX1_storedOrBorder 22 = .ok (.iload_n 3, 1) := by decide +kernel
theorem dX1_storedOrBorder_23 : decode cX1_storedOrBorder 23 = .ok (.iload 4, 2) := by decide +kernel
theorem dX1_storedOrBorder_25 : decode cX1_storedOrBorder 25 = .ok (.iload 5, 2) := by decide +kernel
theorem dX1_storedOrBorder_27 : decode cX1_storedOrBorder 27 = .ok (.invokevirtual 95, 3) := by decide +kernel
theorem dX1_storedOrBorder_30 : decode cX1_storedOrBorder 30 = .ok (.ireturn, 1) := by decide +kernel
theorem dX1_stored_0 : decode cX1_stored 0 = .ok (.aload_n 1, 1) := by decide +kernel
theorem dX1_stored_1 : decode cX1_stored 1 = .ok (.getfield 56, 3) := by decide +kernel
theorem dX1_stored_4 : decode cX1_stored 4 = .ok (.iconst 4, 1) := by decide +kernel
theorem dX1_stored_5 : decode cX1_stored 5 = .ok (.imul, 1) := by decide +kernel
theorem dX1_stored_6 : decode cX1_stored 6 = .ok (.iload 5, 2) := by decide +kernel
theorem dX1_stored_8 : decode cX1_stored 8 = .ok (.iadd, 1) := by decide +kernel
theorem dX1_stored_9 : decode cX1_stored 9 = .ok (.istore 6, 2) := by decide +kernel
theorem dX1_stored_11 : decode cX1_stored 11 = .ok (.iconst 1, 1) := by decide +kernel
theorem dX1_stored_12 : decode cX1_stored 12 = .ok (.getstatic 140, 3) := by decide +kernel
theorem dX1_stored_15 : decode cX1_stored 15 = .ok (.iload 6, 2) := by decide +kernel
theorem dX1_stored_17 : decode cX1_stored 17 = .ok (.iaload, 1) := by decide +kernel
theorem dX1_stored_18 : decode cX1_stored 18 = .ok (.ishl, 1) := by decide +kernel
theorem dX1_stored_19 : decode cX1_stored 19 = .ok (.iconst 1, 1) := by decide +kernel
theorem dX1_stored_20 : decode cX1_stored 20 = .ok (.isub, 1) := by decide +kernel
theorem dX1_stored_21 : decode cX1_stored 21 = .ok (.istore 7, 2) := by decide +kernel
theorem dX1_stored_23 : decode cX1_stored 23 = .ok (.iload 7, 2) := by decide +kernel
theorem dX1_stored_25 : decode cX1_stored 25 = .ok (.ifCond .ne 16, 3) := by decide +kernel
theorem dX1_stored_28 : decode cX1_stored 28 = .ok (.iload 5, 2) := by decide +kernel
theorem dX1_stored_30 : decode cX1_stored 30 = .ok (.iconst 3, 1) := by decide +kernel
theorem dX1_stored_31 : decode cX1_stored 31 = .ok (.if_icmp .ne 8, 3) := by decide +kernel
theorem dX1_stored_34 : decode cX1_stored 34 = .ok (.ldc 143, 2) := by decide +kernel
theorem dX1_stored_36 : decode cX1_stored 36 = .ok (.goto 4, 3) := by decide +kernel
theorem dX1_stored_39 : decode cX1_stored 39 = .ok (.iconst 0, 1) := by decide +kernel
theorem dX1_stored_40 : decode cX1_stored 40 = .ok (.ireturn, 1) := by decide +kernel
theorem dX1_stored_41 : decode cX1_stored 41 = .ok (.aload_n 1, 1) := by decide +kernel
theorem dX1_stored_42 : decode cX1_stored 42 = .ok (.iload_n 2, 1) := by decide +kernel
theorem dX1_stored_43 : decode cX1_stored 43 = .ok (.iload_n 3, 1) := by decide +kernel
theorem dX1_stored_44 : decode cX1_stored 44 = .ok (.iload 4, 2) := by decide +kernel
theorem dX1_stored_46 : decode cX1_stored 46 = .ok (.invokevirtual 144, 3) := by decide +kernel
theorem dX1_stored_49 : decode cX1_stored 49 = .ok (.i2l, 1) := by decide +kernel
theorem dX1_stored_50 : decode cX1_stored 50 = .ok (.getstatic 147, 3) := by decide +kernel
theorem dX1_stored_53 : decode cX1_stored 53 = .ok (.aload_n 1, 1) := by decide +kernel
theorem dX1_stored_54 : decode cX1_stored 54 = .ok (.getfield 56, 3) := by decide +kernel
theorem dX1_stored_57 : decode cX1_stored 57 = .ok (.iaload, 1) := by decide +kernel
theorem dX1_stored_58 : decode cX1_stored 58 = .ok (.i2l, 1) := by decide +kernel
theorem dX1_stored_59 : decode cX1_stored 59 = .ok (.lmul, 1) := by decide +kernel
theorem dX1_stored_60 : decode cX1_stored 60 = .ok (.lstore 8, 2) := by decide +kernel
theorem dX1_stored_62 : decode cX1_stored 62 = .ok (.lload 8, 2) := by decide +kernel
theorem dX1_stored_64 : decode cX1_stored 64 = .ok (.ldc2_w 150, 3) := by decide +kernel
theorem dX1_stored_67 : decode cX1_stored 67 = .ok (.land, 1) := by decide +kernel
theorem dX1_stored_68 : decode cX1_stored 68 = .ok (.l2i, 1) := by decide +kernel
theorem dX1_stored_69 : decode cX1_stored 69 = .ok (.getstatic 152, 3) := by decide +kernel
theorem dX1_stored_72 : decode cX1_stored 72 = .ok (.iload 6, 2) := by decide +kernel
theorem dX1_stored_74 : decode cX1_stored 74 = .ok (.iaload, 1) := by decide +kernel
theorem dX1_stored_75 : decode cX1_stored 75 = .ok (.iadd, 1) := by decide +kernel
theorem dX1_stored_76 : decode cX1_stored 76 = .ok (.istore 10, 2) := by decide +kernel
theorem dX1_stored_78 : decode cX1_stored 78 = .ok (.aload_n 0, 1) := by decide +kernel
theorem dX1_stored_79 : decode cX1_stored 79 = .ok (.aload_n 1, 1) := by decide +kernel
theorem dX1_stored_80 : decode cX1_stored 80 = .ok (.getfield 52, 3) := by decide +kernel
theorem dX1_stored_83 : decode cX1_stored 83 = .ok (.i2l, 1) := by decide +kernel
theorem dX1_stored_84 : decode cX1_stored 84 = .ok (.lload 8, 2) := by decide +kernel
theorem dX1_stored_86 : decode cX1_stored 86 = .ok (.iconst 5, 1) := by decide +kernel
theorem dX1_stored_87 : decode cX1_stored 87 = .ok (.lshr, 1) := by decide +kernel
theorem dX1_stored_88 : decode cX1_stored 88 = .ok (.ladd, 1) := by decide +kernel
theorem dX1_stored_89 : decode cX1_stored 89 = .ok (.invokevirtual 155, 3) := by decide +kernel
theorem dX1_stored_92 : decode cX1_stored 92 = .ok (.iload 10, 2) := by decide +kernel
theorem dX1_stored_94 : decode cX1_stored 94 = .ok (.iushr, 1) := by decide +kernel
theorem dX1_stored_95 : decode cX1_stored 95 = .ok (.iload 7, 2) := by decide +kernel
theorem dX1_stored_97 : decode cX1_stored 97 = .ok (.iand, 1) := by decide +kernel
theorem dX1_stored_98 : decode cX1_stored 98 = .ok (.istore 11, 2) := by decide +kernel
theorem dX1_stored_100 : decode cX1_stored 100 = .ok (.iload 11, 2) := by decide +kernel
theorem dX1_stored_102 : decode cX1_stored 102 = .ok (.ldc 143, 2) := by decide +kernel
theorem dX1_stored_104 : decode cX1_stored 104 = .ok (.imul, 1) := by decide +kernel
theorem dX1_stored_105 : decode cX1_stored 105 = .ok (.iload 7, 2) := by decide +kernel
theorem dX1_stored_107 : decode cX1_stored 107 = .ok (.iconst 1, 1) := by decide +kernel
theorem dX1_stored_108 : decode cX1_stored 108 = .ok (.ishr, 1) := by decide +kernel
theorem dX1_stored_109 : decode cX1_stored 109 = .ok (.iadd, 1) := by decide +kernel
theorem dX1_stored_110 : decode cX1_stored 110 = .ok (.iload 7, 2) := by decide +kernel
theorem dX1_stored_112 : decode cX1_stored 112 = .ok (.idiv, 1) := by decide +kernel
theorem dX1_stored_113 : decode cX1_stored 113 = .ok (.ireturn, 1) := by decide +kernel
theorem dX1_wordAt_0 : decode cX1_wordAt 0 = .ok (.lload_n 1, 1) := by decide +kernel
theorem dX1_wordAt_1 : decode cX1_wordAt 1 = .ok (.lconst 0, 1) := by decide +kernel
theorem dX1_wordAt_2 : decode cX1_wordAt 2 = .ok (.lcmp, 1) := by decide +kernel
theorem dX1_wordAt_3 : decode cX1_wordAt 3 = .ok (.ifCond .lt 11, 3) := by decide +kernel
theorem dX1_wordAt_6 : decode cX1_wordAt 6 = .ok (.lload_n 1, 1) := by decide +kernel
theorem dX1_wordAt_7 : decode cX1_wordAt 7 = .ok (.ldc2_w 158, 3) := by decide +kernel
theorem dX1_wordAt_10 : decode cX1_wordAt 10 = .ok (.lcmp, 1) := by decide +kernel
theorem dX1_wordAt_11 : decode cX1_wordAt 11 = .ok (.ifCond .lt 5, 3) := by decide +kernel
theorem dX1_wordAt_14 : decode cX1_wordAt 14 = .ok (.iconst 0, 1) := by decide +kernel
theorem dX1_wordAt_15 : decode cX1_wordAt 15 = .ok (.ireturn, 1) := by decide +kernel
theorem dX1_wordAt_16 : decode cX1_wordAt 16 = .ok (.aload_n 0, 1) := by decide +kernel
theorem dX1_wordAt_17 : decode cX1_wordAt 17 = .ok (.getfield 9, 3) := by decide +kernel
theorem dX1_wordAt_20 : decode cX1_wordAt 20 = .ok (.lload_n 1, 1) := by decide +kernel
theorem dX1_wordAt_21 : decode cX1_wordAt 21 = .ok (.l2i, 1) := by decide +kernel
theorem dX1_wordAt_22 : decode cX1_wordAt 22 = .ok (.iaload, 1) := by decide +kernel
theorem dX1_wordAt_23 : decode cX1_wordAt 23 = .ok (.ireturn, 1) := by decide +kernel
theorem dX1_wrapped_0 : decode cX1_wrapped 0 = .ok (.iload_n 0, 1) := by decide +kernel
theorem dX1_wrapped_1 : decode cX1_wrapped 1 = .ok (.tableswitch 48 0 2 #[27, 33, 42], 27) := by decide +kernel
theorem dX1_wrapped_28 : decode cX1_wrapped 28 = .ok (.iload_n 1, 1) := by decide +kernel
theorem dX1_wrapped_29 : decode cX1_wrapped 29 = .ok (.iload_n 2, 1) := by decide +kernel
theorem dX1_wrapped_30 : decode cX1_wrapped 30 = .ok (.iconst 1, 1) := by decide +kernel
theorem dX1_wrapped_31 : decode cX1_wrapped 31 = .ok (.isub, 1) := by decide +kernel
theorem dX1_wrapped_32 : decode cX1_wrapped 32 = .ok (.iand, 1) := by decide +kernel
theorem dX1_wrapped_33 : decode cX1_wrapped 33 = .ok (.ireturn, 1) := by decide +kernel
theorem dX1_wrapped_34 : decode cX1_wrapped 34 = .ok (.iload_n 1, 1) := by decide +kernel
theorem dX1_wrapped_35 : decode cX1_wrapped 35 = .ok (.iconst 0, 1) := by decide +kernel
theorem dX1_wrapped_36 : decode cX1_wrapped 36 = .ok (.iload_n 2, 1) := by decide +kernel
theorem dX1_wrapped_37 : decode cX1_wrapped 37 = .ok (.iconst 1, 1) := by decide +kernel
theorem dX1_wrapped_38 : decode cX1_wrapped 38 = .ok (.isub, 1) := by decide +kernel
theorem dX1_wrapped_39 : decode cX1_wrapped 39 = .ok (.invokestatic 102, 3) := by decide +kernel
theorem dX1_wrapped_42 : decode cX1_wrapped 42 = .ok (.ireturn, 1) := by decide +kernel
theorem dX1_wrapped_43 : decode cX1_wrapped 43 = .ok (.iload_n 1, 1) := by decide +kernel
theorem dX1_wrapped_44 : decode cX1_wrapped 44 = .ok (.iload_n 2, 1) := by decide +kernel
theorem dX1_wrapped_45 : decode cX1_wrapped 45 = .ok (.invokestatic 160, 3) := by decide +kernel
theorem dX1_wrapped_48 : decode cX1_wrapped 48 = .ok (.ireturn, 1) := by decide +kernel
theorem dX1_wrapped_49 : decode cX1_wrapped 49 = .ok (.iload_n 1, 1) := by decide +kernel
theorem dX1_wrapped_50 : decode cX1_wrapped 50 = .ok (.iconst 0, 1) := by decide +kernel
theorem dX1_wrapped_51 : decode cX1_wrapped 51 = .ok (.iload_n 2, 1) := by decide +kernel
theorem dX1_wrapped_52 : decode cX1_wrapped 52 = .ok (.iconst 1, 1) := by decide +kernel
theorem dX1_wrapped_53 : decode cX1_wrapped 53 = .ok (.isub, 1) := by decide +kernel
theorem dX1_wrapped_54 : decode cX1_wrapped 54 = .ok (.invokestatic 26, 3) := by decide +kernel
theorem dX1_wrapped_57 : decode cX1_wrapped 57 = .ok (.ifCond .eq 7, 3) := by decide +kernel
theorem dX1_wrapped_60 : decode cX1_wrapped 60 = .ok (.iload_n 1, 1) := by decide +kernel
theorem dX1_wrapped_61 : decode cX1_wrapped 61 = .ok (.goto 4, 3) := by decide +kernel
theorem dX1_wrapped_64 : decode cX1_wrapped 64 = .ok (.iconst (-1), 1) := by decide +kernel
theorem dX1_wrapped_65 : decode cX1_wrapped 65 = .ok (.ireturn, 1) := by decide +kernel
theorem dX1_mirrored_0 : decode cX1_mirrored 0 = .ok (.iload_n 0, 1) := by decide +kernel
theorem dX1_mirrored_1 : decode cX1_mirrored 1 = .ok (.iconst 2, 1) := by decide +kernel
theorem dX1_mirrored_2 : decode cX1_mirrored 2 = .ok (.iload_n 1, 1) := by decide +kernel
theorem dX1_mirrored_3 : decode cX1_mirrored 3 = .ok (.imul, 1) := by decide +kernel
theorem dX1_mirrored_4 : decode cX1_mirrored 4 = .ok (.iconst 1, 1) := by decide +kernel
theorem dX1_mirrored_5 : decode cX1_mirrored 5 = .ok (.isub, 1) := by decide +kernel
theorem dX1_mirrored_6 : decode cX1_mirrored 6 = .ok (.iand, 1) := by decide +kernel
theorem dX1_mirrored_7 : decode cX1_mirrored 7 = .ok (.istore_n 2, 1) := by decide +kernel
theorem dX1_mirrored_8 : decode cX1_mirrored 8 = .ok (.iload_n 2, 1) := by decide +kernel
theorem dX1_mirrored_9 : decode cX1_mirrored 9 = .ok (.iload_n 1, 1) := by decide +kernel
theorem dX1_mirrored_10 : decode cX1_mirrored 10 = .ok (.if_icmp .ge 7, 3) := by decide +kernel
theorem dX1_mirrored_13 : decode cX1_mirrored 13 = .ok (.iload_n 2, 1) := by decide +kernel
theorem dX1_mirrored_14 : decode cX1_mirrored 14 = .ok (.goto 10, 3) := by decide +kernel
theorem dX1_mirrored_17 : decode cX1_mirrored 17 = .ok (.iconst 2, 1) := by decide +kernel
theorem dX1_mirrored_18 : decode cX1_mirrored 18 = .ok (.iload_n 1, 1) := by decide +kernel
theorem dX1_mirrored_19 : decode cX1_mirrored 19 = .ok (.imul, 1) := by decide +kernel
theorem dX1_mirrored_20 : decode cX1_mirrored 20 = .ok (.iconst 1, 1) := by decide +kernel
theorem dX1_mirrored_21 : decode cX1_mirrored 21 = .ok (.isub, 1) := by decide +kernel
theorem dX1_mirrored_22 : decode cX1_mirrored 22 = .ok (.iload_n 2, 1) := by decide +kernel
theorem dX1_mirrored_23 : decode cX1_mirrored 23 = .ok (.isub, 1) := by decide +kernel
theorem dX1_mirrored_24 : decode cX1_mirrored 24 = .ok (.ireturn, 1) := by decide +kernel
theorem dX1_mix_0 : decode cX1_mix 0 = .ok (.iload_n 1, 1) := by decide +kernel
theorem dX1_mix_1 : decode cX1_mix 1 = .ok (.i2l, 1) := by decide +kernel
theorem dX1_mix_2 : decode cX1_mix 2 = .ok (.iload_n 0, 1) := by decide +kernel
theorem dX1_mix_3 : decode cX1_mix 3 = .ok (.i2l, 1) := by decide +kernel
theorem dX1_mix_4 : decode cX1_mix 4 = .ok (.lsub, 1) := by decide +kernel
theorem dX1_mix_5 : decode cX1_mix 5 = .ok (.lstore_n 3, 1) := by decide +kernel
theorem dX1_mix_6 : decode cX1_mix 6 = .ok (.iload_n 0, 1) := by decide +kernel
theorem dX1_mix_7 : decode cX1_mix 7 = .ok (.i2l, 1) := by decide +kernel
theorem dX1_mix_8 : decode cX1_mix 8 = .ok (.lload_n 3, 1) := by decide +kernel
theorem dX1_mix_9 : decode cX1_mix 9 = .ok (.iload_n 2, 1) := by decide +kernel
theorem dX1_mix_10 : decode cX1_mix 10 = .ok (.i2l, 1) := by decide +kernel
theorem dX1_mix_11 : decode cX1_mix 11 = .ok (.lmul, 1) := by decide +kernel
theorem dX1_mix_12 : decode cX1_mix 12 = .ok (.bipush 16, 2) := by decide +kernel
theorem dX1_mix_14 : decode cX1_mix 14 = .ok (.lshr, 1) := by decide +kernel
theorem dX1_mix_15 : decode cX1_mix 15 = .ok (.ladd, 1) := by decide +kernel
theorem dX1_mix_16 : decode cX1_mix 16 = .ok (.l2i, 1) := by decide +kernel
theorem dX1_mix_17 : decode cX1_mix 17 = .ok (.ireturn, 1) := by decide +kernel
theorem dX1_whole_0 : decode cX1_whole 0 = .ok (.lload_n 0, 1) := by decide +kernel
theorem dX1_whole_1 : decode cX1_whole 1 = .ok (.bipush 16, 2) := by decide +kernel
theorem dX1_whole_3 : decode cX1_whole 3 = .ok (.lshr, 1) := by decide +kernel
theorem dX1_whole_4 : decode cX1_whole 4 = .ok (.l2i, 1) := by decide +kernel
theorem dX1_whole_5 : decode cX1_whole 5 = .ok (.ireturn, 1) := by decide +kernel
theorem dX1_rest_0 : decode cX1_rest 0 = .ok (.lload_n 0, 1) := by decide +kernel
theorem dX1_rest_1 : decode cX1_rest 1 = .ok (.ldc2_w 164, 3) := by decide +kernel
theorem dX1_rest_4 : decode cX1_rest 4 = .ok (.land, 1) := by decide +kernel
theorem dX1_rest_5 : decode cX1_rest 5 = .ok (.l2i, 1) := by decide +kernel
theorem dX1_rest_6 : decode cX1_rest 6 = .ok (.ireturn, 1) := by decide +kernel
theorem dX1_cut_0 : decode cX1_cut 0 = .ok (.iload_n 1, 1) := by decide +kernel
theorem dX1_cut_1 : decode cX1_cut 1 = .ok (.iload_n 2, 1) := by decide +kernel
theorem dX1_cut_2 : decode cX1_cut 2 = .ok (.iload_n 0, 1) := by decide +kernel
theorem dX1_cut_3 : decode cX1_cut 3 = .ok (.invokestatic 166, 3) := by decide +kernel
theorem dX1_cut_6 : decode cX1_cut 6 = .ok (.invokestatic 171, 3) := by decide +kernel
theorem dX1_cut_9 : decode cX1_cut 9 = .ok (.ireturn, 1) := by decide +kernel
theorem dX1_within_0 : decode cX1_within 0 = .ok (.iload_n 0, 1) := by decide +kernel
theorem dX1_within_1 : decode cX1_within 1 = .ok (.iload_n 1, 1) := by decide +kernel
theorem dX1_within_2 : decode cX1_within 2 = .ok (.if_icmp .lt 12, 3) := by decide +kernel
theorem dX1_within_5 : decode cX1_within 5 = .ok (.iload_n 0, 1) := by decide +kernel
theorem dX1_within_6 : decode cX1_within 6 = .ok (.iload_n 2, 1) := by decide +kernel
theorem dX1_within_7 : decode cX1_within 7 = .ok (.if_icmp .gt 7, 3) := by decide +kernel
theorem dX1_within_10 : decode cX1_within 10 = .ok (.iconst 1, 1) := by decide +kernel
theorem dX1_within_11 : decode cX1_within 11 = .ok (.goto 4, 3) := by decide +kernel
theorem dX1_within_14 : decode cX1_within 14 = .ok (.iconst 0, 1) := by decide +kernel
theorem dX1_within_15 : decode cX1_within 15 = .ok (.ireturn, 1) := by decide +kernel
