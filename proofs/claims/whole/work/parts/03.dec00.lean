theorem dX0_init_0 : decode cX0_init 0 = .ok (.aload_n 0, 1) := by decide +kernel
theorem dX0_init_1 : decode cX0_init 1 = .ok (.invokespecial 3, 3) := by decide +kernel
theorem dX0_init_4 : decode cX0_init 4 = .ok (.aload_n 0, 1) := by decide +kernel
theorem dX0_init_5 : decode cX0_init 5 = .ok (.iload_n 1, 1) := by decide +kernel
theorem dX0_init_6 : decode cX0_init 6 = .ok (.putfield 9, 3) := by decide +kernel
theorem dX0_init_9 : decode cX0_init 9 = .ok (.aload_n 0, 1) := by decide +kernel
theorem dX0_init_10 : decode cX0_init 10 = .ok (.iload_n 2, 1) := by decide +kernel
theorem dX0_init_11 : decode cX0_init 11 = .ok (.putfield 15, 3) := by decide +kernel
theorem dX0_init_14 : decode cX0_init 14 = .ok (.aload_n 0, 1) := by decide +kernel
theorem dX0_init_15 : decode cX0_init 15 = .ok (.iload_n 3, 1) := by decide +kernel
theorem dX0_init_16 : decode cX0_init 16 = .ok (.putfield 18, 3) := by decide +kernel
theorem dX0_init_19 : decode cX0_init 19 = .ok (.aload_n 0, 1) := by decide +kernel
theorem dX0_init_20 : decode cX0_init 20 = .ok (.iload 4, 2) := by decide +kernel
theorem dX0_init_22 : decode cX0_init 22 = .ok (.putfield 21, 3) := by decide +kernel
theorem dX0_init_25 : decode cX0_init 25 = .ok (.aload_n 0, 1) := by decide +kernel
theorem dX0_init_26 : decode cX0_init 26 = .ok (.iload 5, 2) := by decide +kernel
theorem dX0_init_28 : decode cX0_init 28 = .ok (.putfield 24, 3) := by decide +kernel
theorem dX0_init_31 : decode cX0_init 31 = .ok (.aload_n 0, 1) := by decide +kernel
theorem dX0_init_32 : decode cX0_init 32 = .ok (.aload 6, 2) := by decide +kernel
theorem dX0_init_34 : decode cX0_init 34 = .ok (.putfield 27, 3) := by decide +kernel
theorem dX0_init_37 : decode cX0_init 37 = .ok (.return_, 1) := by decide +kernel
theorem dX0_step_0 : decode cX0_step 0 = .ok (.iload_n 2, 1) := by decide +kernel
theorem dX0_step_1 : decode cX0_step 1 = .ok (.iconst 3, 1) := by decide +kernel
theorem dX0_step_2 : decode cX0_step 2 = .ok (.ishl, 1) := by decide +kernel
theorem dX0_step_3 : decode cX0_step 3 = .ok (.iload_n 1, 1) := by decide +kernel
theorem dX0_step_4 : decode cX0_step 4 = .ok (.ior, 1) := by decide +kernel
theorem dX0_step_5 : decode cX0_step 5 = .ok (.bipush 7, 2) := by decide +kernel
theorem dX0_step_7 : decode cX0_step 7 = .ok (.ishl, 1) := by decide +kernel
theorem dX0_step_8 : decode cX0_step 8 = .ok (.iload_n 0, 1) := by decide +kernel
theorem dX0_step_9 : decode cX0_step 9 = .ok (.ior, 1) := by decide +kernel
theorem dX0_step_10 : decode cX0_step 10 = .ok (.ireturn, 1) := by decide +kernel
theorem dX0_holdsFor_0 : decode cX0_holdsFor 0 = .ok (.iconst 0, 1) := by decide +kernel
theorem dX0_holdsFor_1 : decode cX0_holdsFor 1 = .ok (.istore_n 3, 1) := by decide +kernel
theorem dX0_holdsFor_2 : decode cX0_holdsFor 2 = .ok (.iconst 0, 1) := by decide +kernel
theorem dX0_holdsFor_3 : decode cX0_holdsFor 3 = .ok (.istore 4, 2) := by decide +kernel
theorem dX0_holdsFor_5 : decode cX0_holdsFor 5 = .ok (.iload 4, 2) := by decide +kernel
theorem dX0_holdsFor_7 : decode cX0_holdsFor 7 = .ok (.aload_n 0, 1) := by decide +kernel
theorem dX0_holdsFor_8 : decode cX0_holdsFor 8 = .ok (.getfield 27, 3) := by decide +kernel
theorem dX0_holdsFor_11 : decode cX0_holdsFor 11 = .ok (.arraylength, 1) := by decide +kernel
theorem dX0_holdsFor_12 : decode cX0_holdsFor 12 = .ok (.if_icmp .ge 119, 3) := by decide +kernel
theorem dX0_holdsFor_15 : decode cX0_holdsFor 15 = .ok (.aload_n 0, 1) := by decide +kernel
theorem dX0_holdsFor_16 : decode cX0_holdsFor 16 = .ok (.getfield 27, 3) := by decide +kernel
theorem dX0_holdsFor_19 : decode cX0_holdsFor 19 = .ok (.iload 4, 2) := by decide +kernel
theorem dX0_holdsFor_21 : decode cX0_holdsFor 21 = .ok (.iaload, 1) := by decide +kernel
theorem dX0_holdsFor_22 : decode cX0_holdsFor 22 = .ok (.invokestatic 31, 3) := by decide +kernel
theorem dX0_holdsFor_25 : decode cX0_holdsFor 25 = .ok (.istore 5, 2) := by decide +kernel
theorem dX0_holdsFor_27 : decode cX0_holdsFor 27 = .ok (.iload 5, 2) := by decide +kernel
theorem dX0_holdsFor_29 : decode cX0_holdsFor 29 = .ok (.bipush 10, 2) := by decide +kernel
theorem dX0_holdsFor_31 : decode cX0_holdsFor 31 = .ok (.if_icmp .ne 10, 3) := by decide +kernel
theorem dX0_holdsFor_34 : decode cX0_holdsFor 34 = .ok (.iload_n 3, 1) := by decide +kernel
theorem dX0_holdsFor_35 : decode cX0_holdsFor 35 = .ok (.iconst 1, 1) := by decide +kernel
theorem dX0_holdsFor_36 : decode cX0_holdsFor 36 = .ok (.ixor, 1) := by decide +kernel
theorem dX0_holdsFor_37 : decode cX0_holdsFor 37 = .ok (.istore_n 3, 1) := by decide +kernel
theorem dX0_holdsFor_38 : decode cX0_holdsFor 38 = .ok (.goto 87, 3) := by decide +kernel
theorem dX0_holdsFor_41 : decode cX0_holdsFor 41 = .ok (.iload 5, 2) := by decide +kernel
theorem dX0_holdsFor_43 : decode cX0_holdsFor 43 = .ok (.bipush 9, 2) := by decide +kernel
theorem dX0_holdsFor_45 : decode cX0_holdsFor 45 = .ok (.if_icmp .ne 15, 3) := by decide +kernel
theorem dX0_holdsFor_48 : decode cX0_holdsFor 48 = .ok (.iload_n 3, 1) := by decide +kernel
theorem dX0_holdsFor_49 : decode cX0_holdsFor 49 = .ok (.iconst 1, 1) := by decide +kernel
theorem dX0_holdsFor_50 : decode cX0_holdsFor 50 = .ok (.ishr, 1) := by decide +kernel
theorem dX0_holdsFor_51 : decode cX0_holdsFor 51 = .ok (.iload_n 3, 1) := by decide +kernel
theorem dX0_holdsFor_52 : decode cX0_holdsFor 52 = .ok (.bipush (-2), 2) := by decide +kernel
theorem dX0_holdsFor_54 : decode cX0_holdsFor 54 = .ok (.ior, 1) := by decide +kernel
theorem dX0_holdsFor_55 : decode cX0_holdsFor 55 = .ok (.iand, 1) := by decide +kernel
theorem dX0_holdsFor_56 : decode cX0_holdsFor 56 = .ok (.istore_n 3, 1) := by decide +kernel
theorem dX0_holdsFor_57 : decode cX0_holdsFor 57 = .ok (.goto 68, 3) := by decide +kernel
theorem dX0_holdsFor_60 : decode cX0_holdsFor 60 = .ok (.iload 5, 2) := by decide +kernel
theorem dX0_holdsFor_62 : decode cX0_holdsFor 62 = .ok (.bipush 8, 2) := by decide +kernel
theorem dX0_holdsFor_64 : decode cX0_holdsFor 64 = .ok (.if_icmp .ne 14, 3) := by decide +kernel
theorem dX0_holdsFor_67 : decode cX0_holdsFor 67 = .ok (.iload_n 3, 1) := by decide +kernel
theorem dX0_holdsFor_68 : decode cX0_holdsFor 68 = .ok (.iconst 1, 1) := by decide +kernel
theorem dX0_holdsFor_69 : decode cX0_holdsFor 69 = .ok (.ishr, 1) := by decide +kernel
theorem dX0_holdsFor_70 : decode cX0_holdsFor 70 = .ok (.iload_n 3, 1) := by decide +kernel
theorem dX0_holdsFor_71 : decode cX0_holdsFor 71 = .ok (.iconst 1, 1) := by decide +kernel
theorem dX0_holdsFor_72 : decode cX0_holdsFor 72 = .ok (.iand, 1) := by decide +kernel
theorem dX0_holdsFor_73 : decode cX0_holdsFor 73 = .ok (.ior, 1) := by decide +kernel
theorem dX0_holdsFor_74 : decode cX0_holdsFor 74 = .ok (.istore_n 3, 1) := by decide +kernel
theorem dX0_holdsFor_75 : decode cX0_holdsFor 75 = .ok (.goto 50, 3) := by decide +kernel
theorem dX0_holdsFor_78 : decode cX0_holdsFor 78 = .ok (.aload_n 1, 1) := by decide +kernel
theorem dX0_holdsFor_79 : decode cX0_holdsFor 79 = .ok (.aload_n 0, 1) := by decide +kernel
theorem dX0_holdsFor_80 : decode cX0_holdsFor 80 = .ok (.getfield 27, 3) := by decide +kernel
theorem dX0_holdsFor_83 : decode cX0_holdsFor 83 = .ok (.iload 4, 2) := by decide +kernel
theorem dX0_holdsFor_85 : decode cX0_holdsFor 85 = .ok (.iaload, 1) := by decide +kernel
theorem dX0_holdsFor_86 : decode cX0_holdsFor 86 = .ok (.invokestatic 35, 3) := by decide +kernel
theorem dX0_holdsFor_89 : decode cX0_holdsFor 89 = .ok (.iload_n 2, 1) := by decide +kernel
theorem dX0_holdsFor_90 : decode cX0_holdsFor 90 = .ok (.invokevirtual 38, 3) := by decide +kernel
theorem dX0_holdsFor_93 : decode cX0_holdsFor 93 = .ok (.istore 6, 2) := by decide +kernel
theorem dX0_holdsFor_95 : decode cX0_holdsFor 95 = .ok (.iload_n 3, 1) := by decide +kernel
theorem dX0_holdsFor_96 : decode cX0_holdsFor 96 = .ok (.iconst 1, 1) := by decide +kernel
theorem dX0_holdsFor_97 : decode cX0_holdsFor 97 = .ok (.ishl, 1) := by decide +kernel
theorem dX0_holdsFor_98 : decode cX0_holdsFor 98 = .ok (.iload 6, 2) := by decide +kernel
theorem dX0_holdsFor_100 : decode cX0_holdsFor 100 = .ok (.iload 5, 2) := by decide +kernel
theorem dX0_holdsFor_102 : decode cX0_holdsFor 102 = .ok (.aload_n 0, 1) := by decide +kernel
theorem dX0_holdsFor_103 : decode cX0_holdsFor 103 = .ok (.getfield 27, 3) := by decide +kernel
theorem dX0_holdsFor_106 : decode cX0_holdsFor 106 = .ok (.iload 4, 2) := by decide +kernel
theorem dX0_holdsFor_108 : decode cX0_holdsFor 108 = .ok (.iaload, 1) := by decide +kernel
theorem dX0_holdsFor_109 : decode cX0_holdsFor 109 = .ok (.invokestatic 44, 3) := by decide +kernel
theorem dX0_holdsFor_112 : decode cX0_holdsFor 112 = .ok (.invokestatic 47, 3) := by decide +kernel
theorem dX0_holdsFor_115 : decode cX0_holdsFor 115 = .ok (.ifCond .eq 7, 3) := by decide +kernel
theorem dX0_holdsFor_118 : decode cX0_holdsFor 118 = .ok (.iconst 1, 1) := by decide +kernel
theorem dX0_holdsFor_119 : decode cX0_holdsFor 119 = .ok (.goto 4, 3) := by decide +kernel
theorem dX0_holdsFor_122 : decode cX0_holdsFor 122 = .ok (.iconst 0, 1) := by decide +kernel
theorem dX0_holdsFor_123 : decode cX0_holdsFor 123 = .ok (.ior, 1) := by decide +kernel
theorem dX0_holdsFor_124 : decode cX0_holdsFor 124 = .ok (.istore_n 3, 1) := by decide +kernel
theorem dX0_holdsFor_125 : decode cX0_holdsFor 125 = .ok (.iinc 4 1, 3) := by decide +kernel
theorem dX0_holdsFor_128 : decode cX0_holdsFor 128 = .ok (.goto (-123), 3) := by decide +kernel
theorem dX0_holdsFor_131 : decode cX0_holdsFor 131 = .ok (.iload_n 3, 1) := by decide +kernel
theorem dX0_holdsFor_132 : decode cX0_holdsFor 132 = .ok (.iconst 1, 1) := by decide +kernel
theorem dX0_holdsFor_133 : decode cX0_holdsFor 133 = .ok (.iand, 1) := by decide +kernel
theorem dX0_holdsFor_134 : decode cX0_holdsFor 134 = .ok (.iconst 1, 1) := by decide +kernel
theorem dX0_holdsFor_135 : decode cX0_holdsFor 135 = .ok (.if_icmp .ne 7, 3) := by decide +kernel
theorem dX0_holdsFor_138 : decode cX0_holdsFor 138 = .ok (.iconst 1, 1) := by decide +kernel
theorem dX0_holdsFor_139 : decode cX0_holdsFor 139 = .ok (.goto 4, 3) := by decide +kernel
theorem dX0_holdsFor_142 : decode cX0_holdsFor 142 = .ok (.iconst 0, 1) := by decide +kernel
theorem dX0_holdsFor_143 : decode cX0_holdsFor 143 = .ok (.ireturn, 1) := by decide +kernel
theorem dX0_sumFor_0 : decode cX0_sumFor 0 = .ok (.iconst 0, 1) := by decide +kernel
theorem dX0_sumFor_1 : decode cX0_sumFor 1 = .ok (.istore_n 3, 1) := by decide +kernel
theorem dX0_sumFor_2 : decode cX0_sumFor 2 = .ok (.iconst 0, 1) := by decide +kernel
theorem dX0_sumFor_3 : decode cX0_sumFor 3 = .ok (.istore 4, 2) := by decide +kernel
theorem dX0_sumFor_5 : decode cX0_sumFor 5 = .ok (.iload 4, 2) := by decide +kernel
theorem dX0_sumFor_7 : decode cX0_sumFor 7 = .ok (.aload_n 0, 1) := by decide +kernel
theorem dX0_sumFor_8 : decode cX0_sumFor 8 = .ok (.getfield 27, 3) := by decide +kernel
theorem dX0_sumFor_11 : decode cX0_sumFor 11 = .ok (.arraylength, 1) := by decide +kernel
theorem dX0_sumFor_12 : decode cX0_sumFor 12 = .ok (.if_icmp .ge 38, 3) := by decide +kernel
theorem dX0_sumFor_15 : decode cX0_sumFor 15 = .ok (.iload_n 3, 1) := by decide +kernel
theorem dX0_sumFor_16 : decode cX0_sumFor 16 = .ok (.aload_n 0, 1) := by decide +kernel
theorem dX0_sumFor_17 : decode cX0_sumFor 17 = .ok (.getfield 27, 3) := by decide +kernel
theorem dX0_sumFor_20 : decode cX0_sumFor 20 = .ok (.iload 4, 2) := by decide +kernel
theorem dX0_sumFor_22 : decode cX0_sumFor 22 = .ok (.iaload, 1) := by decide +kernel
theorem dX0_sumFor_23 : decode cX0_sumFor 23 = .ok (.invokestatic 44, 3) := by decide +kernel
theorem dX0_sumFor_26 : decode cX0_sumFor 26 = .ok (.aload_n 1, 1) := by decide +kernel
theorem dX0_sumFor_27 : decode cX0_sumFor 27 = .ok (.aload_n 0, 1) := by decide +kernel
theorem dX0_sumFor_28 : decode cX0_sumFor 28 = .ok (.getfield 27, 3) := by decide +kernel
theorem dX0_sumFor_31 : decode cX0_sumFor 31 = .ok (.iload 4, 2) := by decide +kernel
theorem dX0_sumFor_33 : decode cX0_sumFor 33 = .ok (.iaload, 1) := by decide +kernel
theorem dX0_sumFor_34 : decode cX0_sumFor 34 = .ok (.invokestatic 35, 3) := by decide +kernel
theorem dX0_sumFor_37 : decode cX0_sumFor 37 = .ok (.iload_n 2, 1) := by decide +kernel
theorem dX0_sumFor_38 : decode cX0_sumFor 38 = .ok (.invokevirtual 38, 3) := by decide +kernel
theorem dX0_sumFor_41 : decode cX0_sumFor 41 = .ok (.imul, 1) := by decide +kernel
theorem dX0_sumFor_42 : decode cX0_sumFor 42 = .ok (.iadd, 1) := by decide +kernel
theorem dX0_sumFor_43 : decode cX0_sumFor 43 = .ok (.istore_n 3, 1) := by decide +kernel
theorem dX0_sumFor_44 : decode cX0_sumFor 44 = .ok (.iinc 4 1, 3) := by decide +kernel
theorem dX0_sumFor_47 : decode cX0_sumFor 47 = .ok (.goto (-42), 3) := by decide +kernel
theorem dX0_sumFor_50 : decode cX0_sumFor 50 = .ok (.iload_n 3, 1) := by decide +kernel
theorem dX0_sumFor_51 : decode cX0_sumFor 51 = .ok (.ireturn, 1) := by decide +kernel
theorem dX0_compares_0 : decode cX0_compares 0 = .ok (.iload_n 1, 1) := by decide +kernel
theorem dX0_compares_1 : decode cX0_compares 1 = .ok (.lookupswitch 49 #[(60, 27), (62, 38)], 27) := by decide +kernel
theorem dX0_compares_28 : decode cX0_compares 28 = .ok (.iload_n 0, 1) := by decide +kernel
theorem dX0_compares_29 : decode cX0_compares 29 = .ok (.iload_n 2, 1) := by decide +kernel
theorem dX0_compares_30 : decode cX0_compares 30 = .ok (.if_icmp .ge 7, 3) := by decide +kernel
theorem dX0_compares_33 : decode cX0_compares 33 = .ok (.iconst 1, 1) := by decide +kernel
theorem dX0_compares_34 : decode cX0_compares 34 = .ok (.goto 4, 3) := by decide +kernel
theorem dX0_compares_37 : decode cX0_compares 37 = .ok (.iconst 0, 1) := by decide +kernel
theorem dX0_compares_38 : decode cX0_compares 38 = .ok (.ireturn, 1) := by decide +kernel
theorem dX0_compares_39 : decode cX0_compares 39 = .ok (.iload_n 0, 1) := by decide +kernel
theorem dX0_compares_40 : decode cX0_compares 40 = .ok (.iload_n 2, 1) := by decide +kernel
theorem dX0_compares_41 : decode cX0_compares 41 = .ok (.if_icmp .le 7, 3) := by decide +kernel
theorem dX0_compares_44 : decode cX0_compares 44 = .ok (.iconst 1, 1) := by decide +kernel
theorem dX0_compares_45 : decode cX0_compares 45 = .ok (.goto 4, 3) := by decide +kernel
theorem dX0_compares_48 : decode cX0_compares 48 = .ok (.iconst 0, 1) := by decide +kernel
theorem dX0_compares_49 : decode cX0_compares 49 = .ok (.ireturn, 1) := by decide +kernel
theorem dX0_compares_50 : decode cX0_compares 50 = .ok (.iload_n 0, 1) := by decide +kernel
theorem dX0_compares_51 : decode cX0_compares 51 = .ok (.iload_n 2, 1) := by decide +kernel
theorem dX0_compares_52 : decode cX0_compares 52 = .ok (.if_icmp .ne 7, 3) := by decide +kernel
theorem dX0_compares_55 : decode cX0_compares 55 = .ok (.iconst 1, 1) := by decide +kernel
theorem dX0_compares_56 : decode cX0_compares 56 = .ok (.goto 4, 3) := by decide +kernel
theorem dX0_compares_59 : decode cX0_compares 59 = .ok (.iconst 0, 1) := by decide +kernel
theorem dX0_compares_60 : decode cX0_compares 60 = .ok (.ireturn, 1) := by decide +kernel
theorem dX0_doesOf_0 : decode cX0_doesOf 0 = .ok (.iload_n 0, 1) := by decide +kernel
theorem dX0_doesOf_1 : decode cX0_doesOf 1 = .ok (.bipush 127, 2) := by decide +kernel
theorem dX0_doesOf_3 : decode cX0_doesOf 3 = .ok (.iand, 1) := by decide +kernel
theorem dX0_doesOf_4 : decode cX0_doesOf 4 = .ok (.ireturn, 1) := by decide +kernel
theorem dX0_nameOf_0 : decode cX0_nameOf 0 = .ok (.iload_n 0, 1) := by decide +kernel
theorem dX0_nameOf_1 : decode cX0_nameOf 1 = .ok (.bipush 7, 2) := by decide +kernel
theorem dX0_nameOf_3 : decode cX0_nameOf 3 = .ok (.ishr, 1) := by decide +kernel
theorem dX0_nameOf_4 : decode cX0_nameOf 4 = .ok (.bipush 7, 2) := by decide +kernel
theorem dX0_nameOf_6 : decode cX0_nameOf 6 = .ok (.iand, 1) := by decide +kernel
theorem dX0_nameOf_7 : decode cX0_nameOf 7 = .ok (.ireturn, 1) := by decide +kernel
theorem dX0_numberOf_0 : decode cX0_numberOf 0 = .ok (.iload_n 0, 1) := by decide +kernel
theorem dX0_numberOf_1 : decode cX0_numberOf 1 = .ok (.bipush 10, 2) := by decide +kernel
theorem dX0_numberOf_3 : decode cX0_numberOf 3 = .ok (.ishr, 1) := by decide +kernel
theorem dX0_numberOf_4 : decode cX0_numberOf 4 = .ok (.ireturn, 1) := by decide +kernel
theorem dX1_init_0 : decode cX1_init 0 = .ok (.aload_n 0, 1) := by decide +kernel
theorem dX1_init_1 : decode cX1_init 1 = .ok (.invokespecial 3, 3) := by decide +kernel
theorem dX1_init_4 : decode cX1_init 4 = .ok (.return_, 1) := by decide +kernel
theorem dX1_takeIn_0 : decode cX1_takeIn 0 = .ok (.aload_n 0, 1) := by decide +kernel
theorem dX1_takeIn_1 : decode cX1_takeIn 1 = .ok (.dup, 1) := by decide +kernel
theorem dX1_takeIn_2 : decode cX1_takeIn 2 = .ok (.getfield 9, 3) := by decide +kernel
theorem dX1_takeIn_5 : decode cX1_takeIn 5 = .ok (.iload_n 1, 1) := by decide +kernel
theorem dX1_takeIn_6 : decode cX1_takeIn 6 = .ok (.i2l, 1) := by decide +kernel
theorem dX1_takeIn_7 : decode cX1_takeIn 7 = .ok (.ladd, 1) := by decide +kernel
theorem dX1_takeIn_8 : decode cX1_takeIn 8 = .ok (.putfield 9, 3) := by decide +kernel
theorem dX1_takeIn_11 : decode cX1_takeIn 11 = .ok (.aload_n 0, 1) := by decide +kernel
theorem dX1_takeIn_12 : decode cX1_takeIn 12 = .ok (.ldc 15, 2) := by decide +kernel
theorem dX1_takeIn_14 : decode cX1_takeIn 14 = .ok (.aload_n 0, 1) := by decide +kernel
theorem dX1_takeIn_15 : decode cX1_takeIn 15 = .ok (.getfield 16, 3) := by decide +kernel
theorem dX1_takeIn_18 : decode cX1_takeIn 18 = .ok (.iload_n 1, 1) := by decide +kernel
theorem dX1_takeIn_19 : decode cX1_takeIn 19 = .ok (.iadd, 1) := by decide +kernel
theorem dX1_takeIn_20 : decode cX1_takeIn 20 = .ok (.invokestatic 20, 3) := by decide +kernel
theorem dX1_takeIn_23 : decode cX1_takeIn 23 = .ok (.putfield 16, 3) := by decide +kernel
theorem dX1_takeIn_26 : decode cX1_takeIn 26 = .ok (.return_, 1) := by decide +kernel
theorem dX1_payOut_0 : decode cX1_payOut 0 = .ok (.iload_n 1, 1) := by decide +kernel
theorem dX1_payOut_1 : decode cX1_payOut 1 = .ok (.aload_n 0, 1) := by decide +kernel
theorem dX1_payOut_2 : decode cX1_payOut 2 = .ok (.getfield 16, 3) := by decide +kernel
theorem dX1_payOut_5 : decode cX1_payOut 5 = .ok (.invokestatic 20, 3) := by decide +kernel
theorem dX1_payOut_8 : decode cX1_payOut 8 = .ok (.istore_n 2, 1) := by decide +kernel
theorem dX1_payOut_9 : decode cX1_payOut 9 = .ok (.aload_n 0, 1) := by decide +kernel
theorem dX1_payOut_10 : decode cX1_payOut 10 = .ok (.dup, 1) := by decide +kernel
theorem dX1_payOut_11 : decode cX1_payOut 11 = .ok (.getfield 16, 3) := by decide +kernel
theorem dX1_payOut_14 : decode cX1_payOut 14 = .ok (.iload_n 2, 1) := by decide +kernel
theorem dX1_payOut_15 : decode cX1_payOut 15 = .ok (.isub, 1) := by decide +kernel
theorem dX1_payOut_16 : decode cX1_payOut 16 = .ok (.putfield 16, 3) := by decide +kernel
theorem dX1_payOut_19 : decode cX1_payOut 19 = .ok (.iload_n 2, 1) := by decide +kernel
theorem dX1_payOut_20 : decode cX1_payOut 20 = .ok (.ireturn, 1) := by decide +kernel
theorem dX2_init_0 : decode cX2_init 0 = .ok (.aload_n 0, 1) := by decide +kernel
theorem dX2_init_1 : decode cX2_init 1 = .ok (.invokespecial 1, 3) := by decide +kernel
theorem dX2_init_4 : decode cX2_init 4 = .ok (.aload_n 0, 1) := by decide +kernel
theorem dX2_init_5 : decode cX2_init 5 = .ok (.iload_n 1, 1) := by decide +kernel
theorem dX2_init_6 : decode cX2_init 6 = .ok (.putfield 7, 3) := by decide +kernel
theorem dX2_init_9 : decode cX2_init 9 = .ok (.aload_n 0, 1) := by decide +kernel
theorem dX2_init_10 : decode cX2_init 10 = .ok (.iload_n 2, 1) := by decide +kernel
theorem dX2_init_11 : decode cX2_init 11 = .ok (.putfield 13, 3) := by decide +kernel
theorem dX2_init_14 : decode cX2_init 14 = .ok (.aload_n 0, 1) := by decide +kernel
theorem dX2_init_15 : decode cX2_init 15 = .ok (.iload_n 3, 1) := by decide +kernel
theorem dX2_init_16 : decode cX2_init 16 = .ok (.putfield 16, 3) := by decide +kernel
theorem dX2_init_19 : decode cX2_init 19 = .ok (.return_, 1) := by decide +kernel
theorem dX2_isDueOn_0 : decode cX2_isDueOn 0 = .ok (.aload_n 0, 1) := by decide +kernel
theorem dX2_isDueOn_1 : decode cX2_isDueOn 1 = .ok (.getfield 13, 3) := by decide +kernel
theorem dX2_isDueOn_4 : decode cX2_isDueOn 4 = .ok (.ifCond .le 29, 3) := by decide +kernel
theorem dX2_isDueOn_7 : decode cX2_isDueOn 7 = .ok (.iload_n 1, 1) := by decide +kernel
theorem dX2_isDueOn_8 : decode cX2_isDueOn 8 = .ok (.aload_n 0, 1) := by decide +kernel
theorem dX2_isDueOn_9 : decode cX2_isDueOn 9 = .ok (.getfield 16, 3) := by decide +kernel
theorem dX2_isDueOn_12 : decode cX2_isDueOn 12 = .ok (.if_icmp .lt 21, 3) := by decide +kernel
theorem dX2_isDueOn_15 : decode cX2_isDueOn 15 = .ok (.iload_n 1, 1) := by decide +kernel
theorem dX2_isDueOn_16 : decode cX2_isDueOn 16 = .ok (.aload_n 0, 1) := by decide +kernel
theorem dX2_isDueOn_17 : decode cX2_isDueOn 17 = .ok (.getfield 16, 3) := by decide +kernel
theorem dX2_isDueOn_20 : decode cX2_isDueOn 20 = .ok (.isub, 1) := by decide +kernel
theorem dX2_isDueOn_21 : decode cX2_isDueOn 21 = .ok (.aload_n 0, 1) := by decide +kernel
theorem dX2_isDueOn_22 : decode cX2_isDueOn 22 = .ok (.getfield 13, 3) := by decide +kernel
theorem dX2_isDueOn_25 : decode cX2_isDueOn 25 = .ok (.irem, 1) := by decide +kernel
theorem dX2_isDueOn_26 : decode cX2_isDueOn 26 = .ok (.ifCond .ne 7, 3) := by decide +kernel
theorem dX2_isDueOn_29 : decode cX2_isDueOn 29 = .ok (.iconst 1, 1) := by decide +kernel
theorem dX2_isDueOn_30 : decode cX2_isDueOn 30 = .ok (.goto 4, 3) := by decide +kernel
theorem dX2_isDueOn_33 : decode cX2_isDueOn 33 = .ok (.iconst 0, 1) := by decide +kernel
theorem dX2_isDueOn_34 : decode cX2_isDueOn 34 = .ok (.ireturn, 1) := by decide +kernel
theorem dX3_init_0 : decode cX3_init 0 = .ok (.aload_n 0, 1) := by decide +kernel
theorem dX3_init_1 : decode cX3_init 1 = .ok (.invokespecial 3, 3) := by decide +kernel
theorem dX3_init_4 : decode cX3_init 4 = .ok (.aload_n 0, 1) := by decide +kernel
theorem dX3_init_5 : decode cX3_init 5 = .ok (.bipush 6, 2) := by decide +kernel
theorem dX3_init_7 : decode cX3_init 7 = .ok (.newarray .int, 2) := by decide +kernel
theorem dX3_init_9 : decode cX3_init 9 = .ok (.putfield 9, 3) := by decide +kernel
theorem dX3_init_12 : decode cX3_init 12 = .ok (.aload_n 0, 1) := by decide +kernel
theorem dX3_init_13 : decode cX3_init 13 = .ok (.bipush 6, 2) := by decide +kernel
theorem dX3_init_15 : decode cX3_init 15 = .ok (.newarray .int, 2) := by decide +kernel
theorem dX3_init_17 : decode cX3_init 17 = .ok (.putfield 15, 3) := by decide +kernel
theorem dX3_init_20 : decode cX3_init 20 = .ok (.aload_n 0, 1) := by decide +kernel
theorem dX3_init_21 : decode cX3_init 21 = .ok (.ldc 18, 2) := by decide +kernel
theorem dX3_init_23 : decode cX3_init 23 = .ok (.putfield 19, 3) := by decide +kernel
theorem dX3_init_26 : decode cX3_init 26 = .ok (.aload_n 0, 1) := by decide +kernel
theorem dX3_init_27 : decode cX3_init 27 = .ok (.iconst (-1), 1) := by decide +kernel
theorem dX3_init_28 : decode cX3_init 28 = .ok (.putfield 23, 3) := by decide +kernel
theorem dX3_init_31 : decode cX3_init 31 = .ok (.aload_n 0, 1) := by decide +kernel
theorem dX3_init_32 : decode cX3_init 32 = .ok (.iload_n 1, 1) := by decide +kernel
theorem dX3_init_33 : decode cX3_init 33 = .ok (.putfield 26, 3) := by decide +kernel
theorem dX3_init_36 : decode cX3_init 36 = .ok (.aload_n 0, 1) := by decide +kernel
theorem dX3_init_37 : decode cX3_init 37 = .ok (.iload_n 2, 1) := by decide +kernel
theorem dX3_init_38 : decode cX3_init 38 = .ok (.putfield 29, 3) := by decide +kernel
theorem dX3_init_41 : decode cX3_init 41 = .ok (.aload_n 0, 1) := by decide +kernel
theorem dX3_init_42 : decode cX3_init 42 = .ok (.iload_n 3, 1) := by decide +kernel
theorem dX3_init_43 : decode cX3_init 43 = .ok (.putfield 32, 3) := by decide +kernel
theorem dX3_init_46 : decode cX3_init 46 = .ok (.aload_n 0, 1) := by decide +kernel
theorem dX3_init_47 : decode cX3_init 47 = .ok (.iload 4, 2) := by decide +kernel
theorem dX3_init_49 : decode cX3_init 49 = .ok (.putfield 36, 3) := by decide +kernel
theorem dX3_init_52 : decode cX3_init 52 = .ok (.return_, 1) := by decide +kernel
theorem dX3_tellMeans_0 : decode cX3_tellMeans 0 = .ok (.aload_n 0, 1) := by decide +kernel
theorem dX3_tellMeans_1 : decode cX3_tellMeans 1 = .ok (.getfield 39, 3) := by decide +kernel
theorem dX3_tellMeans_4 : decode cX3_tellMeans 4 = .ok (.aload_n 0, 1) := by decide +kernel
theorem dX3_tellMeans_5 : decode cX3_tellMeans 5 = .ok (.getfield 9, 3) := by decide +kernel
theorem dX3_tellMeans_8 : decode cX3_tellMeans 8 = .ok (.arraylength, 1) := by decide +kernel
theorem dX3_tellMeans_9 : decode cX3_tellMeans 9 = .ok (.if_icmp .ge 45, 3) := by decide +kernel
theorem dX3_tellMeans_12 : decode cX3_tellMeans 12 = .ok (.aload_n 0, 1) := by decide +kernel
theorem dX3_tellMeans_13 : decode cX3_tellMeans 13 = .ok (.getfield 39, 3) := by decide +kernel
theorem dX3_tellMeans_16 : decode cX3_tellMeans 16 = .ok (.aload_n 0, 1) := by decide +kernel
theorem dX3_tellMeans_17 : decode cX3_tellMeans 17 = .ok (.getfield 15, 3) := by decide +kernel
theorem dX3_tellMeans_20 : decode cX3_tellMeans 20 = .ok (.arraylength, 1) := by decide +kernel
theorem dX3_tellMeans_21 : decode cX3_tellMeans 21 = .ok (.if_icmp .ge 33, 3) := by decide +kernel
theorem dX3_tellMeans_24 : decode cX3_tellMeans 24 = .ok (.aload_n 0, 1) := by decide +kernel
theorem dX3_tellMeans_25 : decode cX3_tellMeans 25 = .ok (.getfield 9, 3) := by decide +kernel
theorem dX3_tellMeans_28 : decode cX3_tellMeans 28 = .ok (.aload_n 0, 1) := by decide +kernel
theorem dX3_tellMeans_29 : decode cX3_tellMeans 29 = .ok (.getfield 39, 3) := by decide +kernel
theorem dX3_tellMeans_32 : decode cX3_tellMeans 32 = .ok (.iload_n 1, 1) := by decide +kernel
theorem dX3_tellMeans_33 : decode cX3_tellMeans 33 = .ok (.iastore, 1) := by decide +kernel
theorem dX3_tellMeans_34 : decode cX3_tellMeans 34 = .ok (.aload_n 0, 1) := by decide +kernel
theorem dX3_tellMeans_35 : decode cX3_tellMeans 35 = .ok (.getfield 15, 3) := by decide +kernel
theorem dX3_tellMeans_38 : decode cX3_tellMeans 38 = .ok (.aload_n 0, 1) := by decide +kernel
theorem dX3_tellMeans_39 : decode cX3_tellMeans 39 = .ok (.getfield 39, 3) := by decide +kernel
theorem dX3_tellMeans_42 : decode cX3_tellMeans 42 = .ok (.iload_n 2, 1) := by decide +kernel
theorem dX3_tellMeans_43 : decode cX3_tellMeans 43 = .ok (.iastore, 1) := by decide +kernel
theorem dX3_tellMeans_44 : decode cX3_tellMeans 44 = .ok (.aload_n 0, 1) := by decide +kernel
theorem dX3_tellMeans_45 : decode cX3_tellMeans 45 = .ok (.dup, 1) := by decide +kernel
theorem dX3_tellMeans_46 : decode cX3_tellMeans 46 = .ok (.getfield 39, 3) := by decide +kernel
theorem dX3_tellMeans_49 : decode cX3_tellMeans 49 = .ok (.iconst 1, 1) := by decide +kernel
theorem dX3_tellMeans_50 : decode cX3_tellMeans 50 = .ok (.iadd, 1) := by decide +kernel
theorem dX3_tellMeans_51 : decode cX3_tellMeans 51 = .ok (.putfield 39, 3) := by decide +kernel
theorem dX3_tellMeans_54 : decode cX3_tellMeans 54 = .ok (.return_, 1) := by decide +kernel
theorem dX3_tell_0 : decode cX3_tell 0 = .ok (.iload_n 1, 1) := by decide +kernel
theorem dX3_tell_1 : decode cX3_tell 1 = .ok (.tableswitch 95 0 4 #[35, 50, 65, 71, 84], 35) := by decide +kernel
theorem dX3_tell_36 : decode cX3_tell 36 = .ok (.iconst 0, 1) := by decide +kernel
theorem dX3_tell_37 : decode cX3_tell 37 = .ok (.iload_n 2, 1) := by decide +kernel
theorem dX3_tell_38 : decode cX3_tell 38 = .ok (.aload_n 0, 1) := by decide +kernel
theorem dX3_tell_39 : decode cX3_tell 39 = .ok (.getfield 26, 3) := by decide +kernel
theorem dX3_tell_42 : decode cX3_tell 42 = .ok (.isub, 1) := by decide +kernel
theorem dX3_tell_43 : decode cX3_tell 43 = .ok (.invokestatic 42, 3) := by decide +kernel
theorem dX3_tell_46 : decode cX3_tell 46 = .ok (.sipush 365, 3) := by decide +kernel
theorem dX3_tell_49 : decode cX3_tell 49 = .ok (.idiv, 1) := by decide +kernel
theorem dX3_tell_50 : decode cX3_tell 50 = .ok (.ireturn, 1) := by decide +kernel
theorem dX3_tell_51 : decode cX3_tell 51 = .ok (.iconst 0, 1) := by decide +kernel
theorem dX3_tell_52 : decode cX3_tell 52 = .ok (.iload_n 2, 1) := by decide +kernel
theorem dX3_tell_53 : decode cX3_tell 53 = .ok (.aload_n 0, 1) := by decide +kernel
theorem dX3_tell_54 : decode cX3_tell 54 = .ok (.getfield 29, 3) := by decide +kernel
theorem dX3_tell_57 : decode cX3_tell 57 = .ok (.isub, 1) := by decide +kernel
theorem dX3_tell_58 : decode cX3_tell 58 = .ok (.invokestatic 42, 3) := by decide +kernel
theorem dX3_tell_61 : decode cX3_tell 61 = .ok (.sipush 365, 3) := by decide +kernel
theorem dX3_tell_64 : decode cX3_tell 64 = .ok (.idiv, 1) := by decide +kernel
theorem dX3_tell_65 : decode cX3_tell 65 = .ok (.ireturn, 1) := by decide +kernel
theorem dX3_tell_66 : decode cX3_tell 66 = .ok (.aload_n 0, 1) := by decide +kernel
theorem dX3_tell_67 : decode cX3_tell 67 = .ok (.iload_n 2, 1) := by decide +kernel
theorem dX3_tell_68 : decode cX3_tell 68 = .ok (.invokevirtual 48, 3) := by decide +kernel
theorem dX3_tell_71 : decode cX3_tell 71 = .ok (.ireturn, 1) := by decide +kernel
theorem dX3_tell_72 : decode cX3_tell 72 = .ok (.aload_n 0, 1) := by decide +kernel
theorem dX3_tell_73 : decode cX3_tell 73 = .ok (.getfield 32, 3) := by decide +kernel
theorem dX3_tell_76 : decode cX3_tell 76 = .ok (.ifCond .eq 7, 3) := by decide +kernel
theorem dX3_tell_79 : decode cX3_tell 79 = .ok (.iconst 1, 1) := by decide +kernel
theorem dX3_tell_80 : decode cX3_tell 80 = .ok (.goto 4, 3) := by decide +kernel
theorem dX3_tell_83 : decode cX3_tell 83 = .ok (.iconst 0, 1) := by decide +kernel
theorem dX3_tell_84 : decode cX3_tell 84 = .ok (.ireturn, 1) := by decide +kernel
theorem dX3_tell_85 : decode cX3_tell 85 = .ok (.iconst 0, 1) := by decide +kernel
theorem dX3_tell_86 : decode cX3_tell 86 = .ok (.iload_n 2, 1) := by decide +kernel
theorem dX3_tell_87 : decode cX3_tell 87 = .ok (.aload_n 0, 1) := by decide +kernel
theorem dX3_tell_88 : decode cX3_tell 88 = .ok (.getfield 36, 3) := by decide +kernel
theorem dX3_tell_91 : decode cX3_tell 91 = .ok (.isub, 1) := by decide +kernel
theorem dX3_tell_92 : decode cX3_tell 92 = .ok (.invokestatic 42, 3) := by decide +kernel
theorem dX3_tell_95 : decode cX3_tell 95 = .ok (.ireturn, 1) := by decide +kernel
theorem dX3_tell_96 : decode cX3_tell 96 = .ok (.iconst 1, 1) := by decide +kernel
theorem dX3_tell_97 : decode cX3_tell 97 = .ok (.ireturn, 1) := by decide +kernel
theorem dX3_meansOn_0 : decode cX3_meansOn 0 = .ok (.iconst (-1), 1) := by decide +kernel
theorem dX3_meansOn_1 : decode cX3_meansOn 1 = .ok (.istore_n 2, 1) := by decide +kernel
theorem dX3_meansOn_2 : decode cX3_meansOn 2 = .ok (.iconst 0, 1) := by decide +kernel
theorem dX3_meansOn_3 : decode cX3_meansOn 3 = .ok (.istore_n 3, 1) := by decide +kernel
theorem dX3_meansOn_4 : decode cX3_meansOn 4 = .ok (.iconst 0, 1) := by decide +kernel
theorem dX3_meansOn_5 : decode cX3_meansOn 5 = .ok (.istore 4, 2) := by decide +kernel
theorem dX3_meansOn_7 : decode cX3_meansOn 7 = .ok (.iload 4, 2) := by decide +kernel
theorem dX3_meansOn_9 : decode cX3_meansOn 9 = .ok (.aload_n 0, 1) := by decide +kernel
theorem dX3_meansOn_10 : decode cX3_meansOn 10 = .ok (.getfield 39, 3) := by decide +kernel
theorem dX3_meansOn_13 : decode cX3_meansOn 13 = .ok (.if_icmp .ge 57, 3) := by decide +kernel
theorem dX3_meansOn_16 : decode cX3_meansOn 16 = .ok (.iload 4, 2) := by decide +kernel
theorem dX3_meansOn_18 : decode cX3_meansOn 18 = .ok (.aload_n 0, 1) := by decide +kernel
theorem dX3_meansOn_19 : decode cX3_meansOn 19 = .ok (.getfield 9, 3) := by decide +kernel
theorem dX3_meansOn_22 : decode cX3_meansOn 22 = .ok (.arraylength, 1) := by decide +kernel
theorem dX3_meansOn_23 : decode cX3_meansOn 23 = .ok (.if_icmp .ge 47, 3) := by decide +kernel
theorem dX3_meansOn_26 : decode cX3_meansOn 26 = .ok (.aload_n 0, 1) := by decide +kernel
theorem dX3_meansOn_27 : decode cX3_meansOn 27 = .ok (.getfield 9, 3) := by decide +kernel
theorem dX3_meansOn_30 : decode cX3_meansOn 30 = .ok (.iload 4, 2) := by decide +kernel
theorem dX3_meansOn_32 : decode cX3_meansOn 32 = .ok (.iaload, 1) := by decide +kernel
theorem dX3_meansOn_33 : decode cX3_meansOn 33 = .ok (.iload_n 1, 1) := by decide +kernel
theorem dX3_meansOn_34 : decode cX3_meansOn 34 = .ok (.if_icmp .gt 30, 3) := by decide +kernel
theorem dX3_meansOn_37 : decode cX3_meansOn 37 = .ok (.aload_n 0, 1) := by decide +kernel
theorem dX3_meansOn_38 : decode cX3_meansOn 38 = .ok (.getfield 9, 3) := by decide +kernel
theorem dX3_meansOn_41 : decode cX3_meansOn 41 = .ok (.iload 4, 2) := by decide +kernel
theorem dX3_meansOn_43 : decode cX3_meansOn 43 = .ok (.iaload, 1) := by decide +kernel
theorem dX3_meansOn_44 : decode cX3_meansOn 44 = .ok (.iload_n 2, 1) := by decide +kernel
theorem dX3_meansOn_45 : decode cX3_meansOn 45 = .ok (.if_icmp .lt 19, 3) := by decide +kernel
theorem dX3_meansOn_48 : decode cX3_meansOn 48 = .ok (.aload_n 0, 1) := by decide +kernel
theorem dX3_meansOn_49 : decode cX3_meansOn 49 = .ok (.getfield 9, 3) := by decide +kernel
theorem dX3_meansOn_52 : decode cX3_meansOn 52 = .ok (.iload 4, 2) := by decide +kernel
theorem dX3_meansOn_54 : decode cX3_meansOn 54 = .ok (.iaload, 1) := by decide +kernel
theorem dX3_meansOn_55 : decode cX3_meansOn 55 = .ok (.istore_n 2, 1) := by decide +kernel
theorem dX3_meansOn_56 : decode cX3_meansOn 56 = .ok (.aload_n 0, 1) := by decide +kernel
theorem dX3_meansOn_57 : decode cX3_meansOn 57 = .ok (.getfield 15, 3) := by decide +kernel
theorem dX3_meansOn_60 : decode cX3_meansOn 60 = .ok (.iload 4, 2) := by decide +kernel
theorem dX3_meansOn_62 : decode cX3_meansOn 62 = .ok (.iaload, 1) := by decide +kernel
theorem dX3_meansOn_63 : decode cX3_meansOn 63 = .ok (.istore_n 3, 1) := by decide +kernel
theorem dX3_meansOn_64 : decode cX3_meansOn 64 = .ok (.iinc 4 1, 3) := by decide +kernel
theorem dX3_meansOn_67 : decode cX3_meansOn 67 = .ok (.goto (-60), 3) := by decide +kernel
theorem dX3_meansOn_70 : decode cX3_meansOn 70 = .ok (.iload_n 3, 1) := by decide +kernel
theorem dX3_meansOn_71 : decode cX3_meansOn 71 = .ok (.ireturn, 1) := by decide +kernel
theorem dX4_init_0 : decode cX4_init 0 = .ok (.aload_n 0, 1) := by decide +kernel
theorem dX4_init_1 : decode cX4_init 1 = .ok (.invokespecial 3, 3) := by decide +kernel
theorem dX4_init_4 : decode cX4_init 4 = .ok (.aload_n 0, 1) := by decide +kernel
theorem dX4_init_5 : decode cX4_init 5 = .ok (.new 9, 3) := by decide +kernel
theorem dX4_init_8 : decode cX4_init 8 = .ok (.dup, 1) := by decide +kernel
theorem dX4_init_9 : decode cX4_init 9 = .ok (.invokespecial 11, 3) := by decide +kernel
theorem dX4_init_12 : decode cX4_init 12 = .ok (.putfield 12, 3) := by decide +kernel
theorem dX4_init_15 : decode cX4_init 15 = .ok (.aload_n 0, 1) := by decide +kernel
theorem dX4_init_16 : decode cX4_init 16 = .ok (.bipush 12, 2) := by decide +kernel
theorem dX4_init_18 : decode cX4_init 18 = .ok (.newarray .int, 2) := by decide +kernel
theorem dX4_init_20 : decode cX4_init 20 = .ok (.putfield 18, 3) := by decide +kernel
theorem dX4_init_23 : decode cX4_init 23 = .ok (.aload_n 0, 1) := by decide +kernel
theorem dX4_init_24 : decode cX4_init 24 = .ok (.bipush 12, 2) := by decide +kernel
theorem dX4_init_26 : decode cX4_init 26 = .ok (.newarray .int, 2) := by decide +kernel
theorem dX4_init_28 : decode cX4_init 28 = .ok (.putfield 22, 3) := by decide +kernel
theorem dX4_init_31 : decode cX4_init 31 = .ok (.aload_n 0, 1) := by decide +kernel
theorem dX4_init_32 : decode cX4_init 32 = .ok (.bipush 12, 2) := by decide +kernel
theorem dX4_init_34 : decode cX4_init 34 = .ok (.newarray .int, 2) := by decide +kernel
theorem dX4_init_36 : decode cX4_init 36 = .ok (.putfield 25, 3) := by decide +kernel
theorem dX4_init_39 : decode cX4_init 39 = .ok (.aload_n 0, 1) := by decide +kernel
theorem dX4_init_40 : decode cX4_init 40 = .ok (.aload_n 1, 1) := by decide +kernel
theorem dX4_init_41 : decode cX4_init 41 = .ok (.putfield 28, 3) := by decide +kernel
theorem dX4_init_44 : decode cX4_init 44 = .ok (.return_, 1) := by decide +kernel
theorem dX4_read_0 : decode cX4_read 0 = .ok (.aload_n 0, 1) := by decide +kernel
theorem dX4_read_1 : decode cX4_read 1 = .ok (.invokevirtual 32, 3) := by decide +kernel
theorem dX4_read_4 : decode cX4_read 4 = .ok (.aload_n 0, 1) := by decide +kernel
theorem dX4_read_5 : decode cX4_read 5 = .ok (.getfield 28, 3) := by decide +kernel
theorem dX4_read_8 : decode cX4_read 8 = .ok (.iload_n 1, 1) := by decide +kernel
theorem dX4_read_9 : decode cX4_read 9 = .ok (.invokevirtual 35, 3) := by decide +kernel
theorem dX4_read_12 : decode cX4_read 12 = .ok (.iconst 0, 1) := by decide +kernel
theorem dX4_read_13 : decode cX4_read 13 = .ok (.istore_n 2, 1) := by decide +kernel
theorem dX4_read_14 : decode cX4_read 14 = .ok (.iconst 0, 1) := by decide +kernel
theorem dX4_read_15 : decode cX4_read 15 = .ok (.istore_n 3, 1) := by decide +kernel
theorem dX4_read_16 : decode cX4_read 16 = .ok (.iload_n 3, 1) := by decide +kernel
theorem dX4_read_17 : decode cX4_read 17 = .ok (.sipush 300, 3) := by decide +kernel
theorem dX4_read_20 : decode cX4_read 20 = .ok (.if_icmp .gt 28, 3) := by decide +kernel
theorem dX4_read_23 : decode cX4_read 23 = .ok (.iload_n 2, 1) := by decide +kernel
theorem dX4_read_24 : decode cX4_read 24 = .ok (.bipush 12, 2) := by decide +kernel
theorem dX4_read_26 : decode cX4_read 26 = .ok (.if_icmp .eq 22, 3) := by decide +kernel
theorem dX4_read_29 : decode cX4_read 29 = .ok (.aload_n 0, 1) := by decide +kernel
theorem dX4_read_30 : decode cX4_read 30 = .ok (.getfield 28, 3) := by decide +kernel
theorem dX4_read_33 : decode cX4_read 33 = .ok (.invokevirtual 41, 3) := by decide +kernel
theorem dX4_read_36 : decode cX4_read 36 = .ok (.aload_n 0, 1) := by decide +kernel
theorem dX4_read_37 : decode cX4_read 37 = .ok (.iload_n 2, 1) := by decide +kernel
theorem dX4_read_38 : decode cX4_read 38 = .ok (.invokevirtual 44, 3) := by decide +kernel
theorem dX4_read_41 : decode cX4_read 41 = .ok (.istore_n 2, 1) := by decide +kernel
theorem dX4_read_42 : decode cX4_read 42 = .ok (.iinc 3 1, 3) := by decide +kernel
theorem dX4_read_45 : decode cX4_read 45 = .ok (.goto (-29), 3) := by decide +kernel
theorem dX4_read_48 : decode cX4_read 48 = .ok (.aload_n 0, 1) := by decide +kernel
theorem dX4_read_49 : decode cX4_read 49 = .ok (.getfield 48, 3) := by decide +kernel
theorem dX4_read_52 : decode cX4_read 52 = .ok (.ireturn, 1) := by decide +kernel
theorem dX4_whatOf_0 : decode cX4_whatOf 0 = .ok (.iload_n 1, 1) := by decide +kernel
theorem dX4_whatOf_1 : decode cX4_whatOf 1 = .ok (.ifCond .lt 20, 3) := by decide +kernel
theorem dX4_whatOf_4 : decode cX4_whatOf 4 = .ok (.iload_n 1, 1) := by decide +kernel
theorem dX4_whatOf_5 : decode cX4_whatOf 5 = .ok (.aload_n 0, 1) := by decide +kernel
theorem dX4_whatOf_6 : decode cX4_whatOf 6 = .ok (.getfield 52, 3) := by decide +kernel
theorem dX4_whatOf_9 : decode cX4_whatOf 9 = .ok (.if_icmp .ge 12, 3) := by decide +kernel
theorem dX4_whatOf_12 : decode cX4_whatOf 12 = .ok (.aload_n 0, 1) := by decide +kernel
theorem dX4_whatOf_13 : decode cX4_whatOf 13 = .ok (.getfield 18, 3) := by decide +kernel
theorem dX4_whatOf_16 : decode cX4_whatOf 16 = .ok (.iload_n 1, 1) := by decide +kernel
theorem dX4_whatOf_17 : decode cX4_whatOf 17 = .ok (.iaload, 1) := by decide +kernel
theorem dX4_whatOf_18 : decode cX4_whatOf 18 = .ok (.goto 4, 3) := by decide +kernel
theorem dX4_whatOf_21 : decode cX4_whatOf 21 = .ok (.iconst 0, 1) := by decide +kernel
theorem dX4_whatOf_22 : decode cX4_whatOf 22 = .ok (.ireturn, 1) := by decide +kernel
theorem dX4_numberOf_0 : decode cX4_numberOf 0 = .ok (.iload_n 1, 1) := by decide +kernel
theorem dX4_numberOf_1 : decode cX4_numberOf 1 = .ok (.ifCond .lt 20, 3) := by decide +kernel
theorem dX4_numberOf_4 : decode cX4_numberOf 4 = .ok (.iload_n 1, 1) := by decide +kernel
theorem dX4_numberOf_5 : decode cX4_numberOf 5 = .ok (.aload_n 0, 1) := by decide +kernel
theorem dX4_numberOf_6 : decode cX4_numberOf 6 = .ok (.getfield 52, 3) := by decide +kernel
theorem dX4_numberOf_9 : decode cX4_numberOf 9 = .ok (.if_icmp .ge 12, 3) := by decide +kernel
theorem dX4_numberOf_12 : decode cX4_numberOf 12 = .ok (.aload_n 0, 1) := by decide +kernel
theorem dX4_numberOf_13 : decode cX4_numberOf 13 = .ok (.getfield 22, 3) := by decide +kernel
theorem dX4_numberOf_16 : decode cX4_numberOf 16 = .ok (.iload_n 1, 1) := by decide +kernel
theorem dX4_numberOf_17 : decode cX4_numberOf 17 = .ok (.iaload, 1) := by decide +kernel
theorem dX4_numberOf_18 : decode cX4_numberOf 18 = .ok (.goto 4, 3) := by decide +kernel
theorem dX4_numberOf_21 : decode cX4_numberOf 21 = .ok (.iconst 0, 1) := by decide +kernel
theorem dX4_numberOf_22 : decode cX4_numberOf 22 = .ok (.ireturn, 1) := by decide +kernel
theorem dX4_codeOf_0 : decode cX4_codeOf 0 = .ok (.iload_n 1, 1) := by decide +kernel
theorem dX4_codeOf_1 : decode cX4_codeOf 1 = .ok (.ifCond .lt 11, 3) := by decide +kernel
theorem dX4_codeOf_4 : decode cX4_codeOf 4 = .ok (.iload_n 1, 1) := by decide +kernel
theorem dX4_codeOf_5 : decode cX4_codeOf 5 = .ok (.aload_n 0, 1) := by decide +kernel
theorem dX4_codeOf_6 : decode cX4_codeOf 6 = .ok (.getfield 52, 3) := by decide +kernel
theorem dX4_codeOf_9 : decode cX4_codeOf 9 = .ok (.if_icmp .lt 7, 3) := by decide +kernel
theorem dX4_codeOf_12 : decode cX4_codeOf 12 = .ok (.iconst 0, 1) := by decide +kernel
theorem dX4_codeOf_13 : decode cX4_codeOf 13 = .ok (.newarray .int, 2) := by decide +kernel
theorem dX4_codeOf_15 : decode cX4_codeOf 15 = .ok (.areturn, 1) := by decide +kernel
theorem dX4_codeOf_16 : decode cX4_codeOf 16 = .ok (.iload_n 1, 1) := by decide +kernel
theorem dX4_codeOf_17 : decode cX4_codeOf 17 = .ok (.ifCond .ne 7, 3) := by decide +kernel
theorem dX4_codeOf_20 : decode cX4_codeOf 20 = .ok (.iconst 0, 1) := by decide +kernel
theorem dX4_codeOf_21 : decode cX4_codeOf 21 = .ok (.goto 11, 3) := by decide +kernel
theorem dX4_codeOf_24 : decode cX4_codeOf 24 = .ok (.aload_n 0, 1) := by decide +kernel
theorem dX4_codeOf_25 : decode cX4_codeOf 25 = .ok (.getfield 25, 3) := by decide +kernel
theorem dX4_codeOf_28 : decode cX4_codeOf 28 = .ok (.iload_n 1, 1) := by decide +kernel
theorem dX4_codeOf_29 : decode cX4_codeOf 29 = .ok (.iconst 1, 1) := by decide +kernel
theorem dX4_codeOf_30 : decode cX4_codeOf 30 = .ok (.isub, 1) := by decide +kernel
theorem dX4_codeOf_31 : decode cX4_codeOf 31 = .ok (.iaload, 1) := by decide +kernel
theorem dX4_codeOf_32 : decode cX4_codeOf 32 = .ok (.istore_n 2, 1) := by decide +kernel
theorem dX4_codeOf_33 : decode cX4_codeOf 33 = .ok (.aload_n 0, 1) := by decide +kernel
theorem dX4_codeOf_34 : decode cX4_codeOf 34 = .ok (.getfield 25, 3) := by decide +kernel
theorem dX4_codeOf_37 : decode cX4_codeOf 37 = .ok (.iload_n 1, 1) := by decide +kernel
theorem dX4_codeOf_38 : decode cX4_codeOf 38 = .ok (.iaload, 1) := by decide +kernel
theorem dX4_codeOf_39 : decode cX4_codeOf 39 = .ok (.istore_n 3, 1) := by decide +kernel
theorem dX4_codeOf_40 : decode cX4_codeOf 40 = .ok (.iload_n 2, 1) := by decide +kernel
theorem dX4_codeOf_41 : decode cX4_codeOf 41 = .ok (.ifCond .lt 20, 3) := by decide +kernel
theorem dX4_codeOf_44 : decode cX4_codeOf 44 = .ok (.iload_n 2, 1) := by decide +kernel
theorem dX4_codeOf_45 : decode cX4_codeOf 45 = .ok (.iload_n 3, 1) := by decide +kernel
theorem dX4_codeOf_46 : decode cX4_codeOf 46 = .ok (.if_icmp .gt 15, 3) := by decide +kernel
theorem dX4_codeOf_49 : decode cX4_codeOf 49 = .ok (.iload_n 3, 1) := by decide +kernel
theorem dX4_codeOf_50 : decode cX4_codeOf 50 = .ok (.aload_n 0, 1) := by decide +kernel
theorem dX4_codeOf_51 : decode cX4_codeOf 51 = .ok (.getfield 12, 3) := by decide +kernel
theorem dX4_codeOf_54 : decode cX4_codeOf 54 = .ok (.getfield 55, 3) := by decide +kernel
theorem dX4_codeOf_57 : decode cX4_codeOf 57 = .ok (.arraylength, 1) := by decide +kernel
theorem dX4_codeOf_58 : decode cX4_codeOf 58 = .ok (.if_icmp .le 7, 3) := by decide +kernel
theorem dX4_codeOf_61 : decode cX4_codeOf 61 = .ok (.iconst 0, 1) := by decide +kernel
theorem dX4_codeOf_62 : decode cX4_codeOf 62 = .ok (.newarray .int, 2) := by decide +kernel
theorem dX4_codeOf_64 : decode cX4_codeOf 64 = .ok (.areturn, 1) := by decide +kernel
theorem dX4_codeOf_65 : decode cX4_codeOf 65 = .ok (.aload_n 0, 1) := by decide +kernel
theorem dX4_codeOf_66 : decode cX4_codeOf 66 = .ok (.getfield 12, 3) := by decide +kernel
theorem dX4_codeOf_69 : decode cX4_codeOf 69 = .ok (.getfield 55, 3) := by decide +kernel
theorem dX4_codeOf_72 : decode cX4_codeOf 72 = .ok (.iload_n 2, 1) := by decide +kernel
theorem dX4_codeOf_73 : decode cX4_codeOf 73 = .ok (.iload_n 3, 1) := by decide +kernel
theorem dX4_codeOf_74 : decode cX4_codeOf 74 = .ok (.invokestatic 58, 3) := by decide +kernel
theorem dX4_codeOf_77 : decode cX4_codeOf 77 = .ok (.areturn, 1) := by decide +kernel
theorem dX4_begin_0 : decode cX4_begin 0 = .ok (.aload_n 0, 1) := by decide +kernel
theorem dX4_begin_1 : decode cX4_begin 1 = .ok (.getfield 12, 3) := by decide +kernel
theorem dX4_begin_4 : decode cX4_begin 4 = .ok (.invokevirtual 64, 3) := by decide +kernel
theorem dX4_begin_7 : decode cX4_begin 7 = .ok (.aload_n 0, 1) := by decide +kernel
theorem dX4_begin_8 : decode cX4_begin 8 = .ok (.iconst 0, 1) := by decide +kernel
theorem dX4_begin_9 : decode cX4_begin 9 = .ok (.putfield 52, 3) := by decide +kernel
theorem dX4_begin_12 : decode cX4_begin 12 = .ok (.aload_n 0, 1) := by decide +kernel
theorem dX4_begin_13 : decode cX4_begin 13 = .ok (.iconst 0, 1) := by decide +kernel
theorem dX4_begin_14 : decode cX4_begin 14 = .ok (.putfield 48, 3) := by decide +kernel
theorem dX4_begin_17 : decode cX4_begin 17 = .ok (.aload_n 0, 1) := by decide +kernel
theorem dX4_begin_18 : decode cX4_begin 18 = .ok (.iconst 0, 1) := by decide +kernel
theorem dX4_begin_19 : decode cX4_begin 19 = .ok (.putfield 65, 3) := by decide +kernel
theorem dX4_begin_22 : decode cX4_begin 22 = .ok (.aload_n 0, 1) := by decide +kernel
theorem dX4_begin_23 : decode cX4_begin 23 = .ok (.iconst 0, 1) := by decide +kernel
theorem dX4_begin_24 : decode cX4_begin 24 = .ok (.putfield 68, 3) := by decide +kernel
theorem dX4_begin_27 : decode cX4_begin 27 = .ok (.aload_n 0, 1) := by decide +kernel
theorem dX4_begin_28 : decode cX4_begin 28 = .ok (.iconst 0, 1) := by decide +kernel
theorem dX4_begin_29 : decode cX4_begin 29 = .ok (.putfield 71, 3) := by decide +kernel
theorem dX4_begin_32 : decode cX4_begin 32 = .ok (.return_, 1) := by decide +kernel
theorem dX4_step_0 : decode cX4_step 0 = .ok (.iload_n 1, 1) := by decide +kernel
theorem dX4_step_1 : decode cX4_step 1 = .ok (.tableswitch 125 0 11 #[63, 68, 74, 80, 85, 90, 95, 100, 105, 110, 115, 120], 63) := by decide +kernel
theorem dX4_step_64 : decode cX4_step 64 = .ok (.aload_n 0, 1) := by decide +kernel
theorem dX4_step_65 : decode cX4_step 65 = .ok (.invokevirtual 74, 3) := by decide +kernel
theorem dX4_step_68 : decode cX4_step 68 = .ok (.ireturn, 1) := by decide +kernel
theorem dX4_step_69 : decode cX4_step 69 = .ok (.aload_n 0, 1) := by decide +kernel
theorem dX4_step_70 : decode cX4_step 70 = .ok (.iconst 4, 1) := by decide +kernel
theorem dX4_step_71 : decode cX4_step 71 = .ok (.invokevirtual 78, 3) := by decide +kernel
theorem dX4_step_74 : decode cX4_step 74 = .ok (.ireturn, 1) := by decide +kernel
theorem dX4_step_75 : decode cX4_step 75 = .ok (.aload_n 0, 1) := by decide +kernel
theorem dX4_step_76 : decode cX4_step 76 = .ok (.iconst 3, 1) := by decide +kernel
theorem dX4_step_77 : decode cX4_step 77 = .ok (.invokevirtual 78, 3) := by decide +kernel
theorem dX4_step_80 : decode cX4_step 80 = .ok (.ireturn, 1) := by decide +kernel
theorem dX4_step_81 : decode cX4_step 81 = .ok (.aload_n 0, 1) := by decide +kernel
theorem dX4_step_82 : decode cX4_step 82 = .ok (.invokevirtual 81, 3) := by decide +kernel
theorem dX4_step_85 : decode cX4_step 85 = .ok (.ireturn, 1) := by decide +kernel
theorem dX4_step_86 : decode cX4_step 86 = .ok (.aload_n 0, 1) := by decide +kernel
theorem dX4_step_87 : decode cX4_step 87 = .ok (.invokevirtual 84, 3) := by decide +kernel
theorem dX4_step_90 : decode cX4_step 90 = .ok (.ireturn, 1) := by decide +kernel
theorem dX4_step_91 : decode cX4_step 91 = .ok (.aload_n 0, 1) := by decide +kernel
theorem dX4_step_92 : decode cX4_step 92 = .ok (.invokevirtual 87, 3) := by decide +kernel
theorem dX4_step_95 : decode cX4_step 95 = .ok (.ireturn, 1) := by decide +kernel
theorem dX4_step_96 : decode cX4_step 96 = .ok (.aload_n 0, 1) := by decide +kernel
theorem dX4_step_97 : decode cX4_step 97 = .ok (.invokevirtual 90, 3) := by decide +kernel
theorem dX4_step_100 : decode cX4_step 100 = .ok (.ireturn, 1) := by decide +kernel
theorem dX4_step_101 : decode cX4_step 101 = .ok (.aload_n 0, 1) := by decide +kernel
theorem dX4_step_102 : decode cX4_step 102 = .ok (.invokevirtual 93, 3) := by decide +kernel
theorem dX4_step_105 : decode cX4_step 105 = .ok (.ireturn, 1) := by decide +kernel
theorem dX4_step_106 : decode cX4_step 106 = .ok (.aload_n 0, 1) := by decide +kernel
theorem dX4_step_107 : decode cX4_step 107 = .ok (.invokevirtual 96, 3) := by decide +kernel
theorem dX4_step_110 : decode cX4_step 110 = .ok (.ireturn, 1) := by decide +kernel
theorem dX4_step_111 : decode cX4_step 111 = .ok (.aload_n 0, 1) := by decide +kernel
theorem dX4_step_112 : decode cX4_step 112 = .ok (.invokevirtual 99, 3) := by decide +kernel
theorem dX4_step_115 : decode cX4_step 115 = .ok (.ireturn, 1) := by decide +kernel
theorem dX4_step_116 : decode cX4_step 116 = .ok (.aload_n 0, 1) := by decide +kernel
theorem dX4_step_117 : decode cX4_step 117 = .ok (.invokevirtual 102, 3) := by decide +kernel
theorem dX4_step_120 : decode cX4_step 120 = .ok (.ireturn, 1) := by decide +kernel
theorem dX4_step_121 : decode cX4_step 121 = .ok (.aload_n 0, 1) := by decide +kernel
theorem dX4_step_122 : decode cX4_step 122 = .ok (.invokevirtual 105, 3) := by decide +kernel
theorem dX4_step_125 : decode cX4_step 125 = .ok (.ireturn, 1) := by decide +kernel
theorem dX4_step_126 : decode cX4_step 126 = .ok (.bipush 12, 2) := by decide +kernel
theorem dX4_step_128 : decode cX4_step 128 = .ok (.ireturn, 1) := by decide +kernel
theorem dX4_readChange_0 : decode cX4_readChange 0 = .ok (.aload_n 0, 1) := by decide +kernel
theorem dX4_readChange_1 : decode cX4_readChange 1 = .ok (.getfield 28, 3) := by decide +kernel
theorem dX4_readChange_4 : decode cX4_readChange 4 = .ok (.getfield 108, 3) := by decide +kernel
theorem dX4_readChange_7 : decode cX4_readChange 7 = .ok (.istore_n 1, 1) := by decide +kernel
theorem dX4_readChange_8 : decode cX4_readChange 8 = .ok (.iload_n 1, 1) := by decide +kernel
theorem dX4_readChange_9 : decode cX4_readChange 9 = .ok (.iconst 5, 1) := by decide +kernel
theorem dX4_readChange_10 : decode cX4_readChange 10 = .ok (.if_icmp .eq 21, 3) := by decide +kernel
theorem dX4_readChange_13 : decode cX4_readChange 13 = .ok (.iload_n 1, 1) := by decide +kernel
theorem dX4_readChange_14 : decode cX4_readChange 14 = .ok (.bipush 6, 2) := by decide +kernel
theorem dX4_readChange_16 : decode cX4_readChange 16 = .ok (.if_icmp .eq 15, 3) := by decide +kernel
theorem dX4_readChange_19 : decode cX4_readChange 19 = .ok (.iload_n 1, 1) := by decide +kernel
theorem dX4_readChange_20 : decode cX4_readChange 20 = .ok (.bipush 7, 2) := by decide +kernel
theorem dX4_readChange_22 : decode cX4_readChange 22 = .ok (.if_icmp .eq 9, 3) := by decide +kernel
theorem dX4_readChange_25 : decode cX4_readChange 25 = .ok (.aload_n 0, 1) := by decide +kernel
theorem dX4_readChange_26 : decode cX4_readChange 26 = .ok (.iconst 1, 1) := by decide +kernel
theorem dX4_readChange_27 : decode cX4_readChange 27 = .ok (.invokevirtual 111, 3) := by decide +kernel
theorem dX4_readChange_30 : decode cX4_readChange 30 = .ok (.ireturn, 1) := by decide +kernel
theorem dX4_readChange_31 : decode cX4_readChange 31 = .ok (.aload_n 0, 1) := by decide +kernel
theorem dX4_readChange_32 : decode cX4_readChange 32 = .ok (.getfield 52, 3) := by decide +kernel
theorem dX4_readChange_35 : decode cX4_readChange 35 = .ok (.bipush 12, 2) := by decide +kernel
theorem dX4_readChange_37 : decode cX4_readChange 37 = .ok (.if_icmp .lt 9, 3) := by decide +kernel
theorem dX4_readChange_40 : decode cX4_readChange 40 = .ok (.aload_n 0, 1) := by decide +kernel
theorem dX4_readChange_41 : decode cX4_readChange 41 = .ok (.iconst 4, 1) := by decide +kernel
theorem dX4_readChange_42 : decode cX4_readChange 42 = .ok (.invokevirtual 111, 3) := by decide +kernel
theorem dX4_readChange_45 : decode cX4_readChange 45 = .ok (.ireturn, 1) := by decide +kernel
theorem dX4_readChange_46 : decode cX4_readChange 46 = .ok (.aload_n 0, 1) := by decide +kernel
theorem dX4_readChange_47 : decode cX4_readChange 47 = .ok (.getfield 18, 3) := by decide +kernel
theorem dX4_readChange_50 : decode cX4_readChange 50 = .ok (.aload_n 0, 1) := by decide +kernel
theorem dX4_readChange_51 : decode cX4_readChange 51 = .ok (.getfield 52, 3) := by decide +kernel
theorem dX4_readChange_54 : decode cX4_readChange 54 = .ok (.iload_n 1, 1) := by decide +kernel
theorem dX4_readChange_55 : decode cX4_readChange 55 = .ok (.iastore, 1) := by decide +kernel
theorem dX4_readChange_56 : decode cX4_readChange 56 = .ok (.aload_n 0, 1) := by decide +kernel
theorem dX4_readChange_57 : decode cX4_readChange 57 = .ok (.getfield 22, 3) := by decide +kernel
theorem dX4_readChange_60 : decode cX4_readChange 60 = .ok (.aload_n 0, 1) := by decide +kernel
theorem dX4_readChange_61 : decode cX4_readChange 61 = .ok (.getfield 52, 3) := by decide +kernel
theorem dX4_readChange_64 : decode cX4_readChange 64 = .ok (.iconst 0, 1) := by decide +kernel
theorem dX4_readChange_65 : decode cX4_readChange 65 = .ok (.iastore, 1) := by decide +kernel
theorem dX4_readChange_66 : decode cX4_readChange 66 = .ok (.aload_n 0, 1) := by decide +kernel
theorem dX4_readChange_67 : decode cX4_readChange 67 = .ok (.dup, 1) := by decide +kernel
theorem dX4_readChange_68 : decode cX4_readChange 68 = .ok (.getfield 52, 3) := by decide +kernel
theorem dX4_readChange_71 : decode cX4_readChange 71 = .ok (.iconst 1, 1) := by decide +kernel
theorem dX4_readChange_72 : decode cX4_readChange 72 = .ok (.iadd, 1) := by decide +kernel
theorem dX4_readChange_73 : decode cX4_readChange 73 = .ok (.putfield 52, 3) := by decide +kernel
theorem dX4_readChange_76 : decode cX4_readChange 76 = .ok (.aload_n 0, 1) := by decide +kernel
theorem dX4_readChange_77 : decode cX4_readChange 77 = .ok (.iconst 0, 1) := by decide +kernel
theorem dX4_readChange_78 : decode cX4_readChange 78 = .ok (.putfield 114, 3) := by decide +kernel
theorem dX4_readChange_81 : decode cX4_readChange 81 = .ok (.iload_n 1, 1) := by decide +kernel
theorem dX4_readChange_82 : decode cX4_readChange 82 = .ok (.bipush 7, 2) := by decide +kernel
theorem dX4_readChange_84 : decode cX4_readChange 84 = .ok (.if_icmp .ne 6, 3) := by decide +kernel
theorem dX4_readChange_87 : decode cX4_readChange 87 = .ok (.bipush 8, 2) := by decide +kernel
theorem dX4_readChange_89 : decode cX4_readChange 89 = .ok (.ireturn, 1) := by decide +kernel
theorem dX4_readChange_90 : decode cX4_readChange 90 = .ok (.iload_n 1, 1) := by decide +kernel
theorem dX4_readChange_91 : decode cX4_readChange 91 = .ok (.iconst 5, 1) := by decide +kernel
theorem dX4_readChange_92 : decode cX4_readChange 92 = .ok (.if_icmp .ne 7, 3) := by decide +kernel
theorem dX4_readChange_95 : decode cX4_readChange 95 = .ok (.iconst 1, 1) := by decide +kernel
theorem dX4_readChange_96 : decode cX4_readChange 96 = .ok (.goto 4, 3) := by decide +kernel
theorem dX4_readChange_99 : decode cX4_readChange 99 = .ok (.iconst 2, 1) := by decide +kernel
theorem dX4_readChange_100 : decode cX4_readChange 100 = .ok (.ireturn, 1) := by decide +kernel
theorem dX4_readClauseNumber_0 : decode cX4_readClauseNumber 0 = .ok (.aload_n 0, 1) := by decide +kernel
theorem dX4_readClauseNumber_1 : decode cX4_readClauseNumber 1 = .ok (.getfield 28, 3) := by decide +kernel
theorem dX4_readClauseNumber_4 : decode cX4_readClauseNumber 4 = .ok (.getfield 108, 3) := by decide +kernel
theorem dX4_readClauseNumber_7 : decode cX4_readClauseNumber 7 = .ok (.iconst 2, 1) := by decide +kernel
theorem dX4_readClauseNumber_8 : decode cX4_readClauseNumber 8 = .ok (.if_icmp .eq 9, 3) := by decide +kernel
theorem dX4_readClauseNumber_11 : decode cX4_readClauseNumber 11 = .ok (.aload_n 0, 1) := by decide +kernel
theorem dX4_readClauseNumber_12 : decode cX4_readClauseNumber 12 = .ok (.iconst 1, 1) := by decide +kernel
theorem dX4_readClauseNumber_13 : decode cX4_readClauseNumber 13 = .ok (.invokevirtual 111, 3) := by decide +kernel
theorem dX4_readClauseNumber_16 : decode cX4_readClauseNumber 16 = .ok (.ireturn, 1) := by decide +kernel
theorem dX4_readClauseNumber_17 : decode cX4_readClauseNumber 17 = .ok (.aload_n 0, 1) := by decide +kernel
theorem dX4_readClauseNumber_18 : decode cX4_readClauseNumber 18 = .ok (.getfield 28, 3) := by decide +kernel
theorem dX4_readClauseNumber_21 : decode cX4_readClauseNumber 21 = .ok (.getfield 117, 3) := by decide +kernel
theorem dX4_readClauseNumber_24 : decode cX4_readClauseNumber 24 = .ok (.iconst 1, 1) := by decide +kernel
theorem dX4_readClauseNumber_25 : decode cX4_readClauseNumber 25 = .ok (.if_icmp .lt 15, 3) := by decide +kernel
theorem dX4_readClauseNumber_28 : decode cX4_readClauseNumber 28 = .ok (.aload_n 0, 1) := by decide +kernel
theorem dX4_readClauseNumber_29 : decode cX4_readClauseNumber 29 = .ok (.getfield 28, 3) := by decide +kernel
theorem dX4_readClauseNumber_32 : decode cX4_readClauseNumber 32 = .ok (.getfield 117, 3) := by decide +kernel
theorem dX4_readClauseNumber_35 : decode cX4_readClauseNumber 35 = .ok (.bipush 12, 2) := by decide +kernel
theorem dX4_readClauseNumber_37 : decode cX4_readClauseNumber 37 = .ok (.if_icmp .le 9, 3) := by decide +kernel
theorem dX4_readClauseNumber_40 : decode cX4_readClauseNumber 40 = .ok (.aload_n 0, 1) := by decide +kernel
theorem dX4_readClauseNumber_41 : decode cX4_readClauseNumber 41 = .ok (.iconst 3, 1) := by decide +kernel
theorem dX4_readClauseNumber_42 : decode cX4_readClauseNumber 42 = .ok (.invokevirtual 111, 3) := by decide +kernel
theorem dX4_readClauseNumber_45 : decode cX4_readClauseNumber 45 = .ok (.ireturn, 1) := by decide +kernel
theorem dX4_readClauseNumber_46 : decode cX4_readClauseNumber 46 = .ok (.aload_n 0, 1) := by decide +kernel
theorem dX4_readClauseNumber_47 : decode cX4_readClauseNumber 47 = .ok (.getfield 52, 3) := by decide +kernel
theorem dX4_readClauseNumber_50 : decode cX4_readClauseNumber 50 = .ok (.ifCond .le 21, 3) := by decide +kernel
theorem dX4_readClauseNumber_53 : decode cX4_readClauseNumber 53 = .ok (.aload_n 0, 1) := by decide +kernel
theorem dX4_readClauseNumber_54 : decode cX4_readClauseNumber 54 = .ok (.getfield 22, 3) := by decide +kernel
theorem dX4_readClauseNumber_57 : decode cX4_readClauseNumber 57 = .ok (.aload_n 0, 1) := by decide +kernel
theorem dX4_readClauseNumber_58 : decode cX4_readClauseNumber 58 = .ok (.getfield 52, 3) := by decide +kernel
theorem dX4_readClauseNumber_61 : decode cX4_readClauseNumber 61 = .ok (.iconst 1, 1) := by decide +kernel
theorem dX4_readClauseNumber_62 : decode cX4_readClauseNumber 62 = .ok (.isub, 1) := by decide +kernel
theorem dX4_readClauseNumber_63 : decode cX4_readClauseNumber 63 = .ok (.aload_n 0, 1) := by decide +kernel
theorem dX4_readClauseNumber_64 : decode cX4_readClauseNumber 64 = .ok (.getfield 28, 3) := by decide +kernel
theorem dX4_readClauseNumber_67 : decode cX4_readClauseNumber 67 = .ok (.getfield 117, 3) := by decide +kernel
theorem dX4_readClauseNumber_70 : decode cX4_readClauseNumber 70 = .ok (.iastore, 1) := by decide +kernel
theorem dX4_readClauseNumber_71 : decode cX4_readClauseNumber 71 = .ok (.iload_n 1, 1) := by decide +kernel
theorem dX4_readClauseNumber_72 : decode cX4_readClauseNumber 72 = .ok (.ireturn, 1) := by decide +kernel
theorem dX4_readBehindChange_0 : decode cX4_readBehindChange 0 = .ok (.aload_n 0, 1) := by decide +kernel
theorem dX4_readBehindChange_1 : decode cX4_readBehindChange 1 = .ok (.getfield 28, 3) := by decide +kernel
theorem dX4_readBehindChange_4 : decode cX4_readBehindChange 4 = .ok (.getfield 108, 3) := by decide +kernel
theorem dX4_readBehindChange_7 : decode cX4_readBehindChange 7 = .ok (.bipush 59, 2) := by decide +kernel
theorem dX4_readBehindChange_9 : decode cX4_readBehindChange 9 = .ok (.if_icmp .eq 19, 3) := by decide +kernel
theorem dX4_readBehindChange_12 : decode cX4_readBehindChange 12 = .ok (.aload_n 0, 1) := by decide +kernel
theorem dX4_readBehindChange_13 : decode cX4_readBehindChange 13 = .ok (.getfield 28, 3) := by decide +kernel
theorem dX4_readBehindChange_16 : decode cX4_readBehindChange 16 = .ok (.getfield 108, 3) := by decide +kernel
theorem dX4_readBehindChange_19 : decode cX4_readBehindChange 19 = .ok (.ifCond .eq 9, 3) := by decide +kernel
theorem dX4_readBehindChange_22 : decode cX4_readBehindChange 22 = .ok (.aload_n 0, 1) := by decide +kernel
theorem dX4_readBehindChange_23 : decode cX4_readBehindChange 23 = .ok (.iconst 1, 1) := by decide +kernel
theorem dX4_readBehindChange_24 : decode cX4_readBehindChange 24 = .ok (.invokevirtual 111, 3) := by decide +kernel
theorem dX4_readBehindChange_27 : decode cX4_readBehindChange 27 = .ok (.ireturn, 1) := by decide +kernel
theorem dX4_readBehindChange_28 : decode cX4_readBehindChange 28 = .ok (.aload_n 0, 1) := by decide +kernel
theorem dX4_readBehindChange_29 : decode cX4_readBehindChange 29 = .ok (.getfield 52, 3) := by decide +kernel
theorem dX4_readBehindChange_32 : decode cX4_readBehindChange 32 = .ok (.ifCond .le 21, 3) := by decide +kernel
theorem dX4_readBehindChange_35 : decode cX4_readBehindChange 35 = .ok (.aload_n 0, 1) := by decide +kernel
theorem dX4_readBehindChange_36 : decode cX4_readBehindChange 36 = .ok (.getfield 25, 3) := by decide +kernel
theorem dX4_readBehindChange_39 : decode cX4_readBehindChange 39 = .ok (.aload_n 0, 1) := by decide +kernel
theorem dX4_readBehindChange_40 : decode cX4_readBehindChange 40 = .ok (.getfield 52, 3) := by decide +kernel
theorem dX4_readBehindChange_43 : decode cX4_readBehindChange 43 = .ok (.iconst 1, 1) := by decide +kernel
theorem dX4_readBehindChange_44 : decode cX4_readBehindChange 44 = .ok (.isub, 1) := by decide +kernel
theorem dX4_readBehindChange_45 : decode cX4_readBehindChange 45 = .ok (.aload_n 0, 1) := by decide +kernel
theorem dX4_readBehindChange_46 : decode cX4_readBehindChange 46 = .ok (.getfield 12, 3) := by decide +kernel
theorem dX4_readBehindChange_49 : decode cX4_readBehindChange 49 = .ok (.getfield 120, 3) := by decide +kernel
theorem dX4_readBehindChange_52 : decode cX4_readBehindChange 52 = .ok (.iastore, 1) := by decide +kernel
theorem dX4_readBehindChange_53 : decode cX4_readBehindChange 53 = .ok (.aload_n 0, 1) := by decide +kernel
theorem dX4_readBehindChange_54 : decode cX4_readBehindChange 54 = .ok (.getfield 28, 3) := by decide +kernel
theorem dX4_readBehindChange_57 : decode cX4_readBehindChange 57 = .ok (.getfield 108, 3) := by decide +kernel
theorem dX4_readBehindChange_60 : decode cX4_readBehindChange 60 = .ok (.ifCond .ne 8, 3) := by decide +kernel
theorem dX4_readBehindChange_63 : decode cX4_readBehindChange 63 = .ok (.bipush 12, 2) := by decide +kernel
theorem dX4_readBehindChange_65 : decode cX4_readBehindChange 65 = .ok (.goto 4, 3) := by decide +kernel
theorem dX4_readBehindChange_68 : decode cX4_readBehindChange 68 = .ok (.iconst 0, 1) := by decide +kernel
theorem dX4_readBehindChange_69 : decode cX4_readBehindChange 69 = .ok (.ireturn, 1) := by decide +kernel
