section DEC
theorem d_M_init_0 : decode b_M_init 0 = .ok (.aload_n 0, 1) := by decide +kernel
theorem d_M_init_1 : decode b_M_init 1 = .ok (.invokespecial 1, 3) := by decide +kernel
theorem d_M_init_4 : decode b_M_init 4 = .ok (.aload_n 0, 1) := by decide +kernel
theorem d_M_init_5 : decode b_M_init 5 = .ok (.bipush 6, 2) := by decide +kernel
theorem d_M_init_7 : decode b_M_init 7 = .ok (.newarray .int, 2) := by decide +kernel
theorem d_M_init_9 : decode b_M_init 9 = .ok (.dup, 1) := by decide +kernel
theorem d_M_init_10 : decode b_M_init 10 = .ok (.iconst 0, 1) := by decide +kernel
theorem d_M_init_11 : decode b_M_init 11 = .ok (.iconst 5, 1) := by decide +kernel
theorem d_M_init_12 : decode b_M_init 12 = .ok (.iastore, 1) := by decide +kernel
theorem d_M_init_13 : decode b_M_init 13 = .ok (.dup, 1) := by decide +kernel
theorem d_M_init_14 : decode b_M_init 14 = .ok (.iconst 1, 1) := by decide +kernel
theorem d_M_init_15 : decode b_M_init 15 = .ok (.bipush 10, 2) := by decide +kernel
theorem d_M_init_17 : decode b_M_init 17 = .ok (.iastore, 1) := by decide +kernel
theorem d_M_init_18 : decode b_M_init 18 = .ok (.dup, 1) := by decide +kernel
theorem d_M_init_19 : decode b_M_init 19 = .ok (.iconst 2, 1) := by decide +kernel
theorem d_M_init_20 : decode b_M_init 20 = .ok (.bipush 20, 2) := by decide +kernel
theorem d_M_init_22 : decode b_M_init 22 = .ok (.iastore, 1) := by decide +kernel
theorem d_M_init_23 : decode b_M_init 23 = .ok (.dup, 1) := by decide +kernel
theorem d_M_init_24 : decode b_M_init 24 = .ok (.iconst 3, 1) := by decide +kernel
theorem d_M_init_25 : decode b_M_init 25 = .ok (.bipush 100, 2) := by decide +kernel
theorem d_M_init_27 : decode b_M_init 27 = .ok (.iastore, 1) := by decide +kernel
theorem d_M_init_28 : decode b_M_init 28 = .ok (.dup, 1) := by decide +kernel
theorem d_M_init_29 : decode b_M_init 29 = .ok (.iconst 4, 1) := by decide +kernel
theorem d_M_init_30 : decode b_M_init 30 = .ok (.iconst 2, 1) := by decide +kernel
theorem d_M_init_31 : decode b_M_init 31 = .ok (.iastore, 1) := by decide +kernel
theorem d_M_init_32 : decode b_M_init 32 = .ok (.dup, 1) := by decide +kernel
theorem d_M_init_33 : decode b_M_init 33 = .ok (.iconst 5, 1) := by decide +kernel
theorem d_M_init_34 : decode b_M_init 34 = .ok (.iconst 1, 1) := by decide +kernel
theorem d_M_init_35 : decode b_M_init 35 = .ok (.iastore, 1) := by decide +kernel
theorem d_M_init_36 : decode b_M_init 36 = .ok (.putfield 7, 3) := by decide +kernel
theorem d_M_init_39 : decode b_M_init 39 = .ok (.aload_n 0, 1) := by decide +kernel
theorem d_M_init_40 : decode b_M_init 40 = .ok (.bipush 7, 2) := by decide +kernel
theorem d_M_init_42 : decode b_M_init 42 = .ok (.newarray .int, 2) := by decide +kernel
theorem d_M_init_44 : decode b_M_init 44 = .ok (.putfield 13, 3) := by decide +kernel
theorem d_M_init_47 : decode b_M_init 47 = .ok (.aload_n 0, 1) := by decide +kernel
theorem d_M_init_48 : decode b_M_init 48 = .ok (.bipush 24, 2) := by decide +kernel
theorem d_M_init_50 : decode b_M_init 50 = .ok (.newarray .boolean, 2) := by decide +kernel
theorem d_M_init_52 : decode b_M_init 52 = .ok (.putfield 16, 3) := by decide +kernel
theorem d_M_init_55 : decode b_M_init 55 = .ok (.aload_n 0, 1) := by decide +kernel
theorem d_M_init_56 : decode b_M_init 56 = .ok (.bipush 24, 2) := by decide +kernel
theorem d_M_init_58 : decode b_M_init 58 = .ok (.newarray .int, 2) := by decide +kernel
theorem d_M_init_60 : decode b_M_init 60 = .ok (.putfield 20, 3) := by decide +kernel
theorem d_M_init_63 : decode b_M_init 63 = .ok (.aload_n 0, 1) := by decide +kernel
theorem d_M_init_64 : decode b_M_init 64 = .ok (.bipush 24, 2) := by decide +kernel
theorem d_M_init_66 : decode b_M_init 66 = .ok (.newarray .int, 2) := by decide +kernel
theorem d_M_init_68 : decode b_M_init 68 = .ok (.putfield 23, 3) := by decide +kernel
theorem d_M_init_71 : decode b_M_init 71 = .ok (.aload_n 0, 1) := by decide +kernel
theorem d_M_init_72 : decode b_M_init 72 = .ok (.bipush 24, 2) := by decide +kernel
theorem d_M_init_74 : decode b_M_init 74 = .ok (.newarray .int, 2) := by decide +kernel
theorem d_M_init_76 : decode b_M_init 76 = .ok (.putfield 26, 3) := by decide +kernel
theorem d_M_init_79 : decode b_M_init 79 = .ok (.aload_n 0, 1) := by decide +kernel
theorem d_M_init_80 : decode b_M_init 80 = .ok (.bipush 24, 2) := by decide +kernel
theorem d_M_init_82 : decode b_M_init 82 = .ok (.newarray .int, 2) := by decide +kernel
theorem d_M_init_84 : decode b_M_init 84 = .ok (.putfield 29, 3) := by decide +kernel
theorem d_M_init_87 : decode b_M_init 87 = .ok (.aload_n 0, 1) := by decide +kernel
theorem d_M_init_88 : decode b_M_init 88 = .ok (.bipush 24, 2) := by decide +kernel
theorem d_M_init_90 : decode b_M_init 90 = .ok (.newarray .int, 2) := by decide +kernel
theorem d_M_init_92 : decode b_M_init 92 = .ok (.putfield 32, 3) := by decide +kernel
theorem d_M_init_95 : decode b_M_init 95 = .ok (.aload_n 0, 1) := by decide +kernel
theorem d_M_init_96 : decode b_M_init 96 = .ok (.bipush 24, 2) := by decide +kernel
theorem d_M_init_98 : decode b_M_init 98 = .ok (.newarray .int, 2) := by decide +kernel
theorem d_M_init_100 : decode b_M_init 100 = .ok (.putfield 35, 3) := by decide +kernel
theorem d_M_init_103 : decode b_M_init 103 = .ok (.aload_n 0, 1) := by decide +kernel
theorem d_M_init_104 : decode b_M_init 104 = .ok (.iconst (-1), 1) := by decide +kernel
theorem d_M_init_105 : decode b_M_init 105 = .ok (.putfield 38, 3) := by decide +kernel
theorem d_M_init_108 : decode b_M_init 108 = .ok (.aload_n 0, 1) := by decide +kernel
theorem d_M_init_109 : decode b_M_init 109 = .ok (.iconst (-1), 1) := by decide +kernel
theorem d_M_init_110 : decode b_M_init 110 = .ok (.putfield 42, 3) := by decide +kernel
theorem d_M_init_113 : decode b_M_init 113 = .ok (.aload_n 0, 1) := by decide +kernel
theorem d_M_init_114 : decode b_M_init 114 = .ok (.bipush 16, 2) := by decide +kernel
theorem d_M_init_116 : decode b_M_init 116 = .ok (.newarray .int, 2) := by decide +kernel
theorem d_M_init_118 : decode b_M_init 118 = .ok (.putfield 45, 3) := by decide +kernel
theorem d_M_init_121 : decode b_M_init 121 = .ok (.aload_n 0, 1) := by decide +kernel
theorem d_M_init_122 : decode b_M_init 122 = .ok (.bipush 16, 2) := by decide +kernel
theorem d_M_init_124 : decode b_M_init 124 = .ok (.newarray .int, 2) := by decide +kernel
theorem d_M_init_126 : decode b_M_init 126 = .ok (.putfield 48, 3) := by decide +kernel
theorem d_M_init_129 : decode b_M_init 129 = .ok (.aload_n 0, 1) := by decide +kernel
theorem d_M_init_130 : decode b_M_init 130 = .ok (.bipush 16, 2) := by decide +kernel
theorem d_M_init_132 : decode b_M_init 132 = .ok (.newarray .int, 2) := by decide +kernel
theorem d_M_init_134 : decode b_M_init 134 = .ok (.putfield 51, 3) := by decide +kernel
theorem d_M_init_137 : decode b_M_init 137 = .ok (.aload_n 0, 1) := by decide +kernel
theorem d_M_init_138 : decode b_M_init 138 = .ok (.getfield 13, 3) := by decide +kernel
theorem d_M_init_141 : decode b_M_init 141 = .ok (.bipush 6, 2) := by decide +kernel
theorem d_M_init_143 : decode b_M_init 143 = .ok (.sipush 4711, 3) := by decide +kernel
theorem d_M_init_146 : decode b_M_init 146 = .ok (.iastore, 1) := by decide +kernel
theorem d_M_init_147 : decode b_M_init 147 = .ok (.return_, 1) := by decide +kernel
theorem d_M_thrown_0 : decode b_M_thrown 0 = .ok (.aload_n 0, 1) := by decide +kernel
theorem d_M_thrown_1 : decode b_M_thrown 1 = .ok (.getfield 54, 3) := by decide +kernel
theorem d_M_thrown_4 : decode b_M_thrown 4 = .ok (.ireturn, 1) := by decide +kernel
theorem d_M_raise_0 : decode b_M_raise 0 = .ok (.aload_n 0, 1) := by decide +kernel
theorem d_M_raise_1 : decode b_M_raise 1 = .ok (.iload_n 1, 1) := by decide +kernel
theorem d_M_raise_2 : decode b_M_raise 2 = .ok (.putfield 54, 3) := by decide +kernel
theorem d_M_raise_5 : decode b_M_raise 5 = .ok (.iconst 0, 1) := by decide +kernel
theorem d_M_raise_6 : decode b_M_raise 6 = .ok (.ireturn, 1) := by decide +kernel
theorem d_M_in_0 : decode b_M_in 0 = .ok (.iload_n 0, 1) := by decide +kernel
theorem d_M_in_1 : decode b_M_in 1 = .ok (.iload_n 1, 1) := by decide +kernel
theorem d_M_in_2 : decode b_M_in 2 = .ok (.if_icmp .lt 12, 3) := by decide +kernel
theorem d_M_in_5 : decode b_M_in 5 = .ok (.iload_n 0, 1) := by decide +kernel
theorem d_M_in_6 : decode b_M_in 6 = .ok (.iload_n 2, 1) := by decide +kernel
theorem d_M_in_7 : decode b_M_in 7 = .ok (.if_icmp .gt 7, 3) := by decide +kernel
theorem d_M_in_10 : decode b_M_in 10 = .ok (.iconst 1, 1) := by decide +kernel
theorem d_M_in_11 : decode b_M_in 11 = .ok (.goto 4, 3) := by decide +kernel
theorem d_M_in_14 : decode b_M_in 14 = .ok (.iconst 0, 1) := by decide +kernel
theorem d_M_in_15 : decode b_M_in 15 = .ok (.ireturn, 1) := by decide +kernel
theorem d_M_ranges_0 : decode b_M_ranges 0 = .ok (.iload_n 0, 1) := by decide +kernel
theorem d_M_ranges_1 : decode b_M_ranges 1 = .ok (.iconst 0, 1) := by decide +kernel
theorem d_M_ranges_2 : decode b_M_ranges 2 = .ok (.iconst 3, 1) := by decide +kernel
theorem d_M_ranges_3 : decode b_M_ranges 3 = .ok (.invokestatic 57, 3) := by decide +kernel
theorem d_M_ranges_6 : decode b_M_ranges 6 = .ok (.ifCond .eq 59, 3) := by decide +kernel
theorem d_M_ranges_9 : decode b_M_ranges 9 = .ok (.iload_n 1, 1) := by decide +kernel
theorem d_M_ranges_10 : decode b_M_ranges 10 = .ok (.iconst 0, 1) := by decide +kernel
theorem d_M_ranges_11 : decode b_M_ranges 11 = .ok (.bipush 6, 2) := by decide +kernel
theorem d_M_ranges_13 : decode b_M_ranges 13 = .ok (.invokestatic 57, 3) := by decide +kernel
theorem d_M_ranges_16 : decode b_M_ranges 16 = .ok (.ifCond .eq 49, 3) := by decide +kernel
theorem d_M_ranges_19 : decode b_M_ranges 19 = .ok (.iload_n 2, 1) := by decide +kernel
theorem d_M_ranges_20 : decode b_M_ranges 20 = .ok (.iconst 0, 1) := by decide +kernel
theorem d_M_ranges_21 : decode b_M_ranges 21 = .ok (.bipush 99, 2) := by decide +kernel
theorem d_M_ranges_23 : decode b_M_ranges 23 = .ok (.invokestatic 57, 3) := by decide +kernel
theorem d_M_ranges_26 : decode b_M_ranges 26 = .ok (.ifCond .eq 39, 3) := by decide +kernel
theorem d_M_ranges_29 : decode b_M_ranges 29 = .ok (.iload_n 3, 1) := by decide +kernel
theorem d_M_ranges_30 : decode b_M_ranges 30 = .ok (.iconst 0, 1) := by decide +kernel
theorem d_M_ranges_31 : decode b_M_ranges 31 = .ok (.ldc 61, 2) := by decide +kernel
theorem d_M_ranges_33 : decode b_M_ranges 33 = .ok (.invokestatic 57, 3) := by decide +kernel
theorem d_M_ranges_36 : decode b_M_ranges 36 = .ok (.ifCond .eq 29, 3) := by decide +kernel
theorem d_M_ranges_39 : decode b_M_ranges 39 = .ok (.iload 4, 2) := by decide +kernel
theorem d_M_ranges_41 : decode b_M_ranges 41 = .ok (.iconst 0, 1) := by decide +kernel
theorem d_M_ranges_42 : decode b_M_ranges 42 = .ok (.ldc 62, 2) := by decide +kernel
theorem d_M_ranges_44 : decode b_M_ranges 44 = .ok (.invokestatic 57, 3) := by decide +kernel
theorem d_M_ranges_47 : decode b_M_ranges 47 = .ok (.ifCond .eq 18, 3) := by decide +kernel
theorem d_M_ranges_50 : decode b_M_ranges 50 = .ok (.iload 5, 2) := by decide +kernel
theorem d_M_ranges_52 : decode b_M_ranges 52 = .ok (.iconst 0, 1) := by decide +kernel
theorem d_M_ranges_53 : decode b_M_ranges 53 = .ok (.ldc 62, 2) := by decide +kernel
theorem d_M_ranges_55 : decode b_M_ranges 55 = .ok (.invokestatic 57, 3) := by decide +kernel
theorem d_M_ranges_58 : decode b_M_ranges 58 = .ok (.ifCond .eq 7, 3) := by decide +kernel
theorem d_M_ranges_61 : decode b_M_ranges 61 = .ok (.iconst 1, 1) := by decide +kernel
theorem d_M_ranges_62 : decode b_M_ranges 62 = .ok (.goto 4, 3) := by decide +kernel
theorem d_M_ranges_65 : decode b_M_ranges 65 = .ok (.iconst 0, 1) := by decide +kernel
theorem d_M_ranges_66 : decode b_M_ranges 66 = .ok (.ireturn, 1) := by decide +kernel
theorem d_M_right_0 : decode b_M_right 0 = .ok (.iload_n 1, 1) := by decide +kernel
theorem d_M_right_1 : decode b_M_right 1 = .ok (.i2l, 1) := by decide +kernel
theorem d_M_right_2 : decode b_M_right 2 = .ok (.ldc2_w 63, 3) := by decide +kernel
theorem d_M_right_5 : decode b_M_right 5 = .ok (.lmul, 1) := by decide +kernel
theorem d_M_right_6 : decode b_M_right 6 = .ok (.iload_n 3, 1) := by decide +kernel
theorem d_M_right_7 : decode b_M_right 7 = .ok (.i2l, 1) := by decide +kernel
theorem d_M_right_8 : decode b_M_right 8 = .ok (.ladd, 1) := by decide +kernel
theorem d_M_right_9 : decode b_M_right 9 = .ok (.ldc2_w 65, 3) := by decide +kernel
theorem d_M_right_12 : decode b_M_right 12 = .ok (.lmul, 1) := by decide +kernel
theorem d_M_right_13 : decode b_M_right 13 = .ok (.iload 4, 2) := by decide +kernel
theorem d_M_right_15 : decode b_M_right 15 = .ok (.i2l, 1) := by decide +kernel
theorem d_M_right_16 : decode b_M_right 16 = .ok (.ladd, 1) := by decide +kernel
theorem d_M_right_17 : decode b_M_right 17 = .ok (.ldc2_w 67, 3) := by decide +kernel
theorem d_M_right_20 : decode b_M_right 20 = .ok (.lrem, 1) := by decide +kernel
theorem d_M_right_21 : decode b_M_right 21 = .ok (.iload 5, 2) := by decide +kernel
theorem d_M_right_23 : decode b_M_right 23 = .ok (.i2l, 1) := by decide +kernel
theorem d_M_right_24 : decode b_M_right 24 = .ok (.ldc2_w 69, 3) := by decide +kernel
theorem d_M_right_27 : decode b_M_right 27 = .ok (.lmul, 1) := by decide +kernel
theorem d_M_right_28 : decode b_M_right 28 = .ok (.ladd, 1) := by decide +kernel
theorem d_M_right_29 : decode b_M_right 29 = .ok (.iload 6, 2) := by decide +kernel
theorem d_M_right_31 : decode b_M_right 31 = .ok (.i2l, 1) := by decide +kernel
theorem d_M_right_32 : decode b_M_right 32 = .ok (.ldc2_w 71, 3) := by decide +kernel
theorem d_M_right_35 : decode b_M_right 35 = .ok (.lmul, 1) := by decide +kernel
theorem d_M_right_36 : decode b_M_right 36 = .ok (.ladd, 1) := by decide +kernel
theorem d_M_right_37 : decode b_M_right 37 = .ok (.lconst 1, 1) := by decide +kernel
theorem d_M_right_38 : decode b_M_right 38 = .ok (.ladd, 1) := by decide +kernel
theorem d_M_right_39 : decode b_M_right 39 = .ok (.lstore 7, 2) := by decide +kernel
theorem d_M_right_41 : decode b_M_right 41 = .ok (.lload 7, 2) := by decide +kernel
theorem d_M_right_43 : decode b_M_right 43 = .ok (.aload_n 0, 1) := by decide +kernel
theorem d_M_right_44 : decode b_M_right 44 = .ok (.getfield 13, 3) := by decide +kernel
theorem d_M_right_47 : decode b_M_right 47 = .ok (.iload_n 2, 1) := by decide +kernel
theorem d_M_right_48 : decode b_M_right 48 = .ok (.iaload, 1) := by decide +kernel
theorem d_M_right_49 : decode b_M_right 49 = .ok (.i2l, 1) := by decide +kernel
theorem d_M_right_50 : decode b_M_right 50 = .ok (.lmul, 1) := by decide +kernel
theorem d_M_right_51 : decode b_M_right 51 = .ok (.ldc2_w 67, 3) := by decide +kernel
theorem d_M_right_54 : decode b_M_right 54 = .ok (.lrem, 1) := by decide +kernel
theorem d_M_right_55 : decode b_M_right 55 = .ok (.l2i, 1) := by decide +kernel
theorem d_M_right_56 : decode b_M_right 56 = .ok (.ireturn, 1) := by decide +kernel
theorem d_M_signature_0 : decode b_M_signature 0 = .ok (.aload_n 0, 1) := by decide +kernel
theorem d_M_signature_1 : decode b_M_signature 1 = .ok (.iconst 0, 1) := by decide +kernel
theorem d_M_signature_2 : decode b_M_signature 2 = .ok (.putfield 54, 3) := by decide +kernel
theorem d_M_signature_5 : decode b_M_signature 5 = .ok (.iload_n 1, 1) := by decide +kernel
theorem d_M_signature_6 : decode b_M_signature 6 = .ok (.iload_n 2, 1) := by decide +kernel
theorem d_M_signature_7 : decode b_M_signature 7 = .ok (.iload_n 3, 1) := by decide +kernel
theorem d_M_signature_8 : decode b_M_signature 8 = .ok (.iload 4, 2) := by decide +kernel
theorem d_M_signature_10 : decode b_M_signature 10 = .ok (.iload 5, 2) := by decide +kernel
theorem d_M_signature_12 : decode b_M_signature 12 = .ok (.iload 6, 2) := by decide +kernel
theorem d_M_signature_14 : decode b_M_signature 14 = .ok (.invokestatic 73, 3) := by decide +kernel
theorem d_M_signature_17 : decode b_M_signature 17 = .ok (.ifCond .eq 19, 3) := by decide +kernel
theorem d_M_signature_20 : decode b_M_signature 20 = .ok (.aload_n 0, 1) := by decide +kernel
theorem d_M_signature_21 : decode b_M_signature 21 = .ok (.iload_n 1, 1) := by decide +kernel
theorem d_M_signature_22 : decode b_M_signature 22 = .ok (.iload_n 2, 1) := by decide +kernel
theorem d_M_signature_23 : decode b_M_signature 23 = .ok (.iload_n 3, 1) := by decide +kernel
theorem d_M_signature_24 : decode b_M_signature 24 = .ok (.iload 4, 2) := by decide +kernel
theorem d_M_signature_26 : decode b_M_signature 26 = .ok (.iload 5, 2) := by decide +kernel
theorem d_M_signature_28 : decode b_M_signature 28 = .ok (.iload 6, 2) := by decide +kernel
theorem d_M_signature_30 : decode b_M_signature 30 = .ok (.invokevirtual 77, 3) := by decide +kernel
theorem d_M_signature_33 : decode b_M_signature 33 = .ok (.goto 8, 3) := by decide +kernel
theorem d_M_signature_36 : decode b_M_signature 36 = .ok (.aload_n 0, 1) := by decide +kernel
theorem d_M_signature_37 : decode b_M_signature 37 = .ok (.iconst 1, 1) := by decide +kernel
theorem d_M_signature_38 : decode b_M_signature 38 = .ok (.invokevirtual 81, 3) := by decide +kernel
theorem d_M_signature_41 : decode b_M_signature 41 = .ok (.ireturn, 1) := by decide +kernel
theorem d_M_read_0 : decode b_M_read 0 = .ok (.iload_n 1, 1) := by decide +kernel
theorem d_M_read_1 : decode b_M_read 1 = .ok (.aload_n 0, 1) := by decide +kernel
theorem d_M_read_2 : decode b_M_read 2 = .ok (.getfield 38, 3) := by decide +kernel
theorem d_M_read_5 : decode b_M_read 5 = .ok (.if_icmp .eq 11, 3) := by decide +kernel
theorem d_M_read_8 : decode b_M_read 8 = .ok (.iload_n 1, 1) := by decide +kernel
theorem d_M_read_9 : decode b_M_read 9 = .ok (.aload_n 0, 1) := by decide +kernel
theorem d_M_read_10 : decode b_M_read 10 = .ok (.getfield 42, 3) := by decide +kernel
theorem d_M_read_13 : decode b_M_read 13 = .ok (.if_icmp .ne 7, 3) := by decide +kernel
theorem d_M_read_16 : decode b_M_read 16 = .ok (.iconst 1, 1) := by decide +kernel
theorem d_M_read_17 : decode b_M_read 17 = .ok (.goto 4, 3) := by decide +kernel
theorem d_M_read_20 : decode b_M_read 20 = .ok (.iconst 0, 1) := by decide +kernel
theorem d_M_read_21 : decode b_M_read 21 = .ok (.ireturn, 1) := by decide +kernel
theorem d_M_certify_0 : decode b_M_certify 0 = .ok (.aload_n 0, 1) := by decide +kernel
theorem d_M_certify_1 : decode b_M_certify 1 = .ok (.iconst 0, 1) := by decide +kernel
theorem d_M_certify_2 : decode b_M_certify 2 = .ok (.putfield 54, 3) := by decide +kernel
theorem d_M_certify_5 : decode b_M_certify 5 = .ok (.iload_n 1, 1) := by decide +kernel
theorem d_M_certify_6 : decode b_M_certify 6 = .ok (.iconst 0, 1) := by decide +kernel
theorem d_M_certify_7 : decode b_M_certify 7 = .ok (.iconst 5, 1) := by decide +kernel
theorem d_M_certify_8 : decode b_M_certify 8 = .ok (.invokestatic 57, 3) := by decide +kernel
theorem d_M_certify_11 : decode b_M_certify 11 = .ok (.ifCond .ne 9, 3) := by decide +kernel
theorem d_M_certify_14 : decode b_M_certify 14 = .ok (.aload_n 0, 1) := by decide +kernel
theorem d_M_certify_15 : decode b_M_certify 15 = .ok (.iconst 1, 1) := by decide +kernel
theorem d_M_certify_16 : decode b_M_certify 16 = .ok (.invokevirtual 81, 3) := by decide +kernel
theorem d_M_certify_19 : decode b_M_certify 19 = .ok (.ireturn, 1) := by decide +kernel
theorem d_M_certify_20 : decode b_M_certify 20 = .ok (.iload_n 2, 1) := by decide +kernel
theorem d_M_certify_21 : decode b_M_certify 21 = .ok (.iload_n 3, 1) := by decide +kernel
theorem d_M_certify_22 : decode b_M_certify 22 = .ok (.iload 4, 2) := by decide +kernel
theorem d_M_certify_24 : decode b_M_certify 24 = .ok (.iload 5, 2) := by decide +kernel
theorem d_M_certify_26 : decode b_M_certify 26 = .ok (.iload 6, 2) := by decide +kernel
theorem d_M_certify_28 : decode b_M_certify 28 = .ok (.iload 7, 2) := by decide +kernel
theorem d_M_certify_30 : decode b_M_certify 30 = .ok (.invokestatic 73, 3) := by decide +kernel
theorem d_M_certify_33 : decode b_M_certify 33 = .ok (.ifCond .eq 15, 3) := by decide +kernel
theorem d_M_certify_36 : decode b_M_certify 36 = .ok (.iload 8, 2) := by decide +kernel
theorem d_M_certify_38 : decode b_M_certify 38 = .ok (.iconst 0, 1) := by decide +kernel
theorem d_M_certify_39 : decode b_M_certify 39 = .ok (.sipush 9972, 3) := by decide +kernel
theorem d_M_certify_42 : decode b_M_certify 42 = .ok (.invokestatic 57, 3) := by decide +kernel
theorem d_M_certify_45 : decode b_M_certify 45 = .ok (.ifCond .ne 9, 3) := by decide +kernel
theorem d_M_certify_48 : decode b_M_certify 48 = .ok (.aload_n 0, 1) := by decide +kernel
theorem d_M_certify_49 : decode b_M_certify 49 = .ok (.iconst 2, 1) := by decide +kernel
theorem d_M_certify_50 : decode b_M_certify 50 = .ok (.invokevirtual 81, 3) := by decide +kernel
theorem d_M_certify_53 : decode b_M_certify 53 = .ok (.ireturn, 1) := by decide +kernel
theorem d_M_certify_54 : decode b_M_certify 54 = .ok (.aload_n 0, 1) := by decide +kernel
theorem d_M_certify_55 : decode b_M_certify 55 = .ok (.iload_n 1, 1) := by decide +kernel
theorem d_M_certify_56 : decode b_M_certify 56 = .ok (.invokevirtual 85, 3) := by decide +kernel
theorem d_M_certify_59 : decode b_M_certify 59 = .ok (.ifCond .eq 9, 3) := by decide +kernel
theorem d_M_certify_62 : decode b_M_certify 62 = .ok (.aload_n 0, 1) := by decide +kernel
theorem d_M_certify_63 : decode b_M_certify 63 = .ok (.iconst 3, 1) := by decide +kernel
theorem d_M_certify_64 : decode b_M_certify 64 = .ok (.invokevirtual 81, 3) := by decide +kernel
theorem d_M_certify_67 : decode b_M_certify 67 = .ok (.ireturn, 1) := by decide +kernel
theorem d_M_certify_68 : decode b_M_certify 68 = .ok (.iconst 4, 1) := by decide +kernel
theorem d_M_certify_69 : decode b_M_certify 69 = .ok (.iload_n 1, 1) := by decide +kernel
theorem d_M_certify_70 : decode b_M_certify 70 = .ok (.imul, 1) := by decide +kernel
theorem d_M_certify_71 : decode b_M_certify 71 = .ok (.iload_n 2, 1) := by decide +kernel
theorem d_M_certify_72 : decode b_M_certify 72 = .ok (.iadd, 1) := by decide +kernel
theorem d_M_certify_73 : decode b_M_certify 73 = .ok (.istore 9, 2) := by decide +kernel
theorem d_M_certify_75 : decode b_M_certify 75 = .ok (.aload_n 0, 1) := by decide +kernel
theorem d_M_certify_76 : decode b_M_certify 76 = .ok (.getfield 16, 3) := by decide +kernel
theorem d_M_certify_79 : decode b_M_certify 79 = .ok (.iload 9, 2) := by decide +kernel
theorem d_M_certify_81 : decode b_M_certify 81 = .ok (.baload, 1) := by decide +kernel
theorem d_M_certify_82 : decode b_M_certify 82 = .ok (.istore 10, 2) := by decide +kernel
theorem d_M_certify_84 : decode b_M_certify 84 = .ok (.aload_n 0, 1) := by decide +kernel
theorem d_M_certify_85 : decode b_M_certify 85 = .ok (.iload 9, 2) := by decide +kernel
theorem d_M_certify_87 : decode b_M_certify 87 = .ok (.iload_n 3, 1) := by decide +kernel
theorem d_M_certify_88 : decode b_M_certify 88 = .ok (.iload 4, 2) := by decide +kernel
theorem d_M_certify_90 : decode b_M_certify 90 = .ok (.iload 5, 2) := by decide +kernel
theorem d_M_certify_92 : decode b_M_certify 92 = .ok (.iload 6, 2) := by decide +kernel
theorem d_M_certify_94 : decode b_M_certify 94 = .ok (.iload 7, 2) := by decide +kernel
theorem d_M_certify_96 : decode b_M_certify 96 = .ok (.invokevirtual 89, 3) := by decide +kernel
theorem d_M_certify_99 : decode b_M_certify 99 = .ok (.aload_n 0, 1) := by decide +kernel
theorem d_M_certify_100 : decode b_M_certify 100 = .ok (.getfield 35, 3) := by decide +kernel
theorem d_M_certify_103 : decode b_M_certify 103 = .ok (.iload 9, 2) := by decide +kernel
theorem d_M_certify_105 : decode b_M_certify 105 = .ok (.iload 8, 2) := by decide +kernel
theorem d_M_certify_107 : decode b_M_certify 107 = .ok (.iastore, 1) := by decide +kernel
theorem d_M_certify_108 : decode b_M_certify 108 = .ok (.iload 10, 2) := by decide +kernel
theorem d_M_certify_110 : decode b_M_certify 110 = .ok (.ifCond .eq 7, 3) := by decide +kernel
theorem d_M_certify_113 : decode b_M_certify 113 = .ok (.iconst 0, 1) := by decide +kernel
theorem d_M_certify_114 : decode b_M_certify 114 = .ok (.goto 4, 3) := by decide +kernel
theorem d_M_certify_117 : decode b_M_certify 117 = .ok (.iconst 1, 1) := by decide +kernel
theorem d_M_certify_118 : decode b_M_certify 118 = .ok (.ireturn, 1) := by decide +kernel
theorem d_M_put_0 : decode b_M_put 0 = .ok (.aload_n 0, 1) := by decide +kernel
theorem d_M_put_1 : decode b_M_put 1 = .ok (.getfield 16, 3) := by decide +kernel
theorem d_M_put_4 : decode b_M_put 4 = .ok (.iload_n 1, 1) := by decide +kernel
theorem d_M_put_5 : decode b_M_put 5 = .ok (.iconst 1, 1) := by decide +kernel
theorem d_M_put_6 : decode b_M_put 6 = .ok (.bastore, 1) := by decide +kernel
theorem d_M_put_7 : decode b_M_put 7 = .ok (.aload_n 0, 1) := by decide +kernel
theorem d_M_put_8 : decode b_M_put 8 = .ok (.getfield 20, 3) := by decide +kernel
theorem d_M_put_11 : decode b_M_put 11 = .ok (.iload_n 1, 1) := by decide +kernel
theorem d_M_put_12 : decode b_M_put 12 = .ok (.iload_n 2, 1) := by decide +kernel
theorem d_M_put_13 : decode b_M_put 13 = .ok (.iastore, 1) := by decide +kernel
theorem d_M_put_14 : decode b_M_put 14 = .ok (.aload_n 0, 1) := by decide +kernel
theorem d_M_put_15 : decode b_M_put 15 = .ok (.getfield 23, 3) := by decide +kernel
theorem d_M_put_18 : decode b_M_put 18 = .ok (.iload_n 1, 1) := by decide +kernel
theorem d_M_put_19 : decode b_M_put 19 = .ok (.iload_n 3, 1) := by decide +kernel
theorem d_M_put_20 : decode b_M_put 20 = .ok (.iastore, 1) := by decide +kernel
theorem d_M_put_21 : decode b_M_put 21 = .ok (.aload_n 0, 1) := by decide +kernel
theorem d_M_put_22 : decode b_M_put 22 = .ok (.getfield 26, 3) := by decide +kernel
theorem d_M_put_25 : decode b_M_put 25 = .ok (.iload_n 1, 1) := by decide +kernel
theorem d_M_put_26 : decode b_M_put 26 = .ok (.iload 4, 2) := by decide +kernel
theorem d_M_put_28 : decode b_M_put 28 = .ok (.iastore, 1) := by decide +kernel
theorem d_M_put_29 : decode b_M_put 29 = .ok (.aload_n 0, 1) := by decide +kernel
theorem d_M_put_30 : decode b_M_put 30 = .ok (.getfield 29, 3) := by decide +kernel
theorem d_M_put_33 : decode b_M_put 33 = .ok (.iload_n 1, 1) := by decide +kernel
theorem d_M_put_34 : decode b_M_put 34 = .ok (.iload 5, 2) := by decide +kernel
theorem d_M_put_36 : decode b_M_put 36 = .ok (.iastore, 1) := by decide +kernel
theorem d_M_put_37 : decode b_M_put 37 = .ok (.aload_n 0, 1) := by decide +kernel
theorem d_M_put_38 : decode b_M_put 38 = .ok (.getfield 32, 3) := by decide +kernel
theorem d_M_put_41 : decode b_M_put 41 = .ok (.iload_n 1, 1) := by decide +kernel
theorem d_M_put_42 : decode b_M_put 42 = .ok (.iload 6, 2) := by decide +kernel
theorem d_M_put_44 : decode b_M_put 44 = .ok (.iastore, 1) := by decide +kernel
theorem d_M_put_45 : decode b_M_put 45 = .ok (.aload_n 0, 1) := by decide +kernel
theorem d_M_put_46 : decode b_M_put 46 = .ok (.getfield 35, 3) := by decide +kernel
theorem d_M_put_49 : decode b_M_put 49 = .ok (.iload_n 1, 1) := by decide +kernel
theorem d_M_put_50 : decode b_M_put 50 = .ok (.aload_n 0, 1) := by decide +kernel
theorem d_M_put_51 : decode b_M_put 51 = .ok (.iload_n 1, 1) := by decide +kernel
theorem d_M_put_52 : decode b_M_put 52 = .ok (.iconst 4, 1) := by decide +kernel
theorem d_M_put_53 : decode b_M_put 53 = .ok (.irem, 1) := by decide +kernel
theorem d_M_put_54 : decode b_M_put 54 = .ok (.iload_n 2, 1) := by decide +kernel
theorem d_M_put_55 : decode b_M_put 55 = .ok (.iload_n 3, 1) := by decide +kernel
theorem d_M_put_56 : decode b_M_put 56 = .ok (.iload 4, 2) := by decide +kernel
theorem d_M_put_58 : decode b_M_put 58 = .ok (.iload 5, 2) := by decide +kernel
theorem d_M_put_60 : decode b_M_put 60 = .ok (.iload 6, 2) := by decide +kernel
theorem d_M_put_62 : decode b_M_put 62 = .ok (.invokevirtual 77, 3) := by decide +kernel
theorem d_M_put_65 : decode b_M_put 65 = .ok (.iastore, 1) := by decide +kernel
theorem d_M_put_66 : decode b_M_put 66 = .ok (.return_, 1) := by decide +kernel
theorem d_M_valid_0 : decode b_M_valid 0 = .ok (.aload_n 0, 1) := by decide +kernel
theorem d_M_valid_1 : decode b_M_valid 1 = .ok (.getfield 16, 3) := by decide +kernel
theorem d_M_valid_4 : decode b_M_valid 4 = .ok (.iload_n 1, 1) := by decide +kernel
theorem d_M_valid_5 : decode b_M_valid 5 = .ok (.baload, 1) := by decide +kernel
theorem d_M_valid_6 : decode b_M_valid 6 = .ok (.ifCond .eq 43, 3) := by decide +kernel
theorem d_M_valid_9 : decode b_M_valid 9 = .ok (.aload_n 0, 1) := by decide +kernel
theorem d_M_valid_10 : decode b_M_valid 10 = .ok (.getfield 13, 3) := by decide +kernel
theorem d_M_valid_13 : decode b_M_valid 13 = .ok (.aload_n 0, 1) := by decide +kernel
theorem d_M_valid_14 : decode b_M_valid 14 = .ok (.getfield 20, 3) := by decide +kernel
theorem d_M_valid_17 : decode b_M_valid 17 = .ok (.iload_n 1, 1) := by decide +kernel
theorem d_M_valid_18 : decode b_M_valid 18 = .ok (.iaload, 1) := by decide +kernel
theorem d_M_valid_19 : decode b_M_valid 19 = .ok (.iaload, 1) := by decide +kernel
theorem d_M_valid_20 : decode b_M_valid 20 = .ok (.ifCond .eq 29, 3) := by decide +kernel
theorem d_M_valid_23 : decode b_M_valid 23 = .ok (.aload_n 0, 1) := by decide +kernel
theorem d_M_valid_24 : decode b_M_valid 24 = .ok (.getfield 93, 3) := by decide +kernel
theorem d_M_valid_27 : decode b_M_valid 27 = .ok (.aload_n 0, 1) := by decide +kernel
theorem d_M_valid_28 : decode b_M_valid 28 = .ok (.getfield 29, 3) := by decide +kernel
theorem d_M_valid_31 : decode b_M_valid 31 = .ok (.iload_n 1, 1) := by decide +kernel
theorem d_M_valid_32 : decode b_M_valid 32 = .ok (.iaload, 1) := by decide +kernel
theorem d_M_valid_33 : decode b_M_valid 33 = .ok (.if_icmp .lt 16, 3) := by decide +kernel
theorem d_M_valid_36 : decode b_M_valid 36 = .ok (.aload_n 0, 1) := by decide +kernel
theorem d_M_valid_37 : decode b_M_valid 37 = .ok (.getfield 93, 3) := by decide +kernel
theorem d_M_valid_40 : decode b_M_valid 40 = .ok (.aload_n 0, 1) := by decide +kernel
theorem d_M_valid_41 : decode b_M_valid 41 = .ok (.getfield 32, 3) := by decide +kernel
theorem d_M_valid_44 : decode b_M_valid 44 = .ok (.iload_n 1, 1) := by decide +kernel
theorem d_M_valid_45 : decode b_M_valid 45 = .ok (.iaload, 1) := by decide +kernel
theorem d_M_valid_46 : decode b_M_valid 46 = .ok (.if_icmp .le 5, 3) := by decide +kernel
theorem d_M_valid_49 : decode b_M_valid 49 = .ok (.iconst 0, 1) := by decide +kernel
theorem d_M_valid_50 : decode b_M_valid 50 = .ok (.ireturn, 1) := by decide +kernel
theorem d_M_valid_51 : decode b_M_valid 51 = .ok (.iload_n 1, 1) := by decide +kernel
theorem d_M_valid_52 : decode b_M_valid 52 = .ok (.iconst 4, 1) := by decide +kernel
theorem d_M_valid_53 : decode b_M_valid 53 = .ok (.irem, 1) := by decide +kernel
theorem d_M_valid_54 : decode b_M_valid 54 = .ok (.istore_n 2, 1) := by decide +kernel
theorem d_M_valid_55 : decode b_M_valid 55 = .ok (.iload_n 2, 1) := by decide +kernel
theorem d_M_valid_56 : decode b_M_valid 56 = .ok (.iconst 1, 1) := by decide +kernel
theorem d_M_valid_57 : decode b_M_valid 57 = .ok (.if_icmp .eq 8, 3) := by decide +kernel
theorem d_M_valid_60 : decode b_M_valid 60 = .ok (.iload_n 2, 1) := by decide +kernel
theorem d_M_valid_61 : decode b_M_valid 61 = .ok (.iconst 3, 1) := by decide +kernel
theorem d_M_valid_62 : decode b_M_valid 62 = .ok (.if_icmp .ne 14, 3) := by decide +kernel
theorem d_M_valid_65 : decode b_M_valid 65 = .ok (.aload_n 0, 1) := by decide +kernel
theorem d_M_valid_66 : decode b_M_valid 66 = .ok (.getfield 26, 3) := by decide +kernel
theorem d_M_valid_69 : decode b_M_valid 69 = .ok (.iload_n 1, 1) := by decide +kernel
theorem d_M_valid_70 : decode b_M_valid 70 = .ok (.iaload, 1) := by decide +kernel
theorem d_M_valid_71 : decode b_M_valid 71 = .ok (.bipush 15, 2) := by decide +kernel
theorem d_M_valid_73 : decode b_M_valid 73 = .ok (.if_icmp .gt 19, 3) := by decide +kernel
theorem d_M_valid_76 : decode b_M_valid 76 = .ok (.iload_n 2, 1) := by decide +kernel
theorem d_M_valid_77 : decode b_M_valid 77 = .ok (.iconst 3, 1) := by decide +kernel
theorem d_M_valid_78 : decode b_M_valid 78 = .ok (.if_icmp .ne 16, 3) := by decide +kernel
theorem d_M_valid_81 : decode b_M_valid 81 = .ok (.aload_n 0, 1) := by decide +kernel
theorem d_M_valid_82 : decode b_M_valid 82 = .ok (.getfield 20, 3) := by decide +kernel
theorem d_M_valid_85 : decode b_M_valid 85 = .ok (.iload_n 1, 1) := by decide +kernel
theorem d_M_valid_86 : decode b_M_valid 86 = .ok (.iaload, 1) := by decide +kernel
theorem d_M_valid_87 : decode b_M_valid 87 = .ok (.bipush 6, 2) := by decide +kernel
theorem d_M_valid_89 : decode b_M_valid 89 = .ok (.if_icmp .eq 5, 3) := by decide +kernel
theorem d_M_valid_92 : decode b_M_valid 92 = .ok (.iconst 0, 1) := by decide +kernel
theorem d_M_valid_93 : decode b_M_valid 93 = .ok (.ireturn, 1) := by decide +kernel
theorem d_M_valid_94 : decode b_M_valid 94 = .ok (.aload_n 0, 1) := by decide +kernel
theorem d_M_valid_95 : decode b_M_valid 95 = .ok (.getfield 35, 3) := by decide +kernel
theorem d_M_valid_98 : decode b_M_valid 98 = .ok (.iload_n 1, 1) := by decide +kernel
theorem d_M_valid_99 : decode b_M_valid 99 = .ok (.iaload, 1) := by decide +kernel
theorem d_M_valid_100 : decode b_M_valid 100 = .ok (.aload_n 0, 1) := by decide +kernel
theorem d_M_valid_101 : decode b_M_valid 101 = .ok (.iload_n 2, 1) := by decide +kernel
theorem d_M_valid_102 : decode b_M_valid 102 = .ok (.aload_n 0, 1) := by decide +kernel
theorem d_M_valid_103 : decode b_M_valid 103 = .ok (.getfield 20, 3) := by decide +kernel
theorem d_M_valid_106 : decode b_M_valid 106 = .ok (.iload_n 1, 1) := by decide +kernel
theorem d_M_valid_107 : decode b_M_valid 107 = .ok (.iaload, 1) := by decide +kernel
theorem d_M_valid_108 : decode b_M_valid 108 = .ok (.aload_n 0, 1) := by decide +kernel
theorem d_M_valid_109 : decode b_M_valid 109 = .ok (.getfield 23, 3) := by decide +kernel
theorem d_M_valid_112 : decode b_M_valid 112 = .ok (.iload_n 1, 1) := by decide +kernel
theorem d_M_valid_113 : decode b_M_valid 113 = .ok (.iaload, 1) := by decide +kernel
theorem d_M_valid_114 : decode b_M_valid 114 = .ok (.aload_n 0, 1) := by decide +kernel
theorem d_M_valid_115 : decode b_M_valid 115 = .ok (.getfield 26, 3) := by decide +kernel
theorem d_M_valid_118 : decode b_M_valid 118 = .ok (.iload_n 1, 1) := by decide +kernel
theorem d_M_valid_119 : decode b_M_valid 119 = .ok (.iaload, 1) := by decide +kernel
theorem d_M_valid_120 : decode b_M_valid 120 = .ok (.aload_n 0, 1) := by decide +kernel
theorem d_M_valid_121 : decode b_M_valid 121 = .ok (.getfield 29, 3) := by decide +kernel
theorem d_M_valid_124 : decode b_M_valid 124 = .ok (.iload_n 1, 1) := by decide +kernel
theorem d_M_valid_125 : decode b_M_valid 125 = .ok (.iaload, 1) := by decide +kernel
theorem d_M_valid_126 : decode b_M_valid 126 = .ok (.aload_n 0, 1) := by decide +kernel
theorem d_M_valid_127 : decode b_M_valid 127 = .ok (.getfield 32, 3) := by decide +kernel
theorem d_M_valid_130 : decode b_M_valid 130 = .ok (.iload_n 1, 1) := by decide +kernel
theorem d_M_valid_131 : decode b_M_valid 131 = .ok (.iaload, 1) := by decide +kernel
theorem d_M_valid_132 : decode b_M_valid 132 = .ok (.invokevirtual 77, 3) := by decide +kernel
theorem d_M_valid_135 : decode b_M_valid 135 = .ok (.if_icmp .ne 7, 3) := by decide +kernel
theorem d_M_valid_138 : decode b_M_valid 138 = .ok (.iconst 1, 1) := by decide +kernel
theorem d_M_valid_139 : decode b_M_valid 139 = .ok (.goto 4, 3) := by decide +kernel
theorem d_M_valid_142 : decode b_M_valid 142 = .ok (.iconst 0, 1) := by decide +kernel
theorem d_M_valid_143 : decode b_M_valid 143 = .ok (.ireturn, 1) := by decide +kernel
theorem d_M_good_0 : decode b_M_good 0 = .ok (.aload_n 0, 1) := by decide +kernel
theorem d_M_good_1 : decode b_M_good 1 = .ok (.iconst 4, 1) := by decide +kernel
theorem d_M_good_2 : decode b_M_good 2 = .ok (.iload_n 1, 1) := by decide +kernel
theorem d_M_good_3 : decode b_M_good 3 = .ok (.imul, 1) := by decide +kernel
theorem d_M_good_4 : decode b_M_good 4 = .ok (.invokevirtual 96, 3) := by decide +kernel
theorem d_M_good_7 : decode b_M_good 7 = .ok (.ifCond .eq 73, 3) := by decide +kernel
theorem d_M_good_10 : decode b_M_good 10 = .ok (.aload_n 0, 1) := by decide +kernel
theorem d_M_good_11 : decode b_M_good 11 = .ok (.iconst 4, 1) := by decide +kernel
theorem d_M_good_12 : decode b_M_good 12 = .ok (.iload_n 1, 1) := by decide +kernel
theorem d_M_good_13 : decode b_M_good 13 = .ok (.imul, 1) := by decide +kernel
theorem d_M_good_14 : decode b_M_good 14 = .ok (.iconst 1, 1) := by decide +kernel
theorem d_M_good_15 : decode b_M_good 15 = .ok (.iadd, 1) := by decide +kernel
theorem d_M_good_16 : decode b_M_good 16 = .ok (.invokevirtual 96, 3) := by decide +kernel
theorem d_M_good_19 : decode b_M_good 19 = .ok (.ifCond .eq 61, 3) := by decide +kernel
theorem d_M_good_22 : decode b_M_good 22 = .ok (.aload_n 0, 1) := by decide +kernel
theorem d_M_good_23 : decode b_M_good 23 = .ok (.iconst 4, 1) := by decide +kernel
theorem d_M_good_24 : decode b_M_good 24 = .ok (.iload_n 1, 1) := by decide +kernel
theorem d_M_good_25 : decode b_M_good 25 = .ok (.imul, 1) := by decide +kernel
theorem d_M_good_26 : decode b_M_good 26 = .ok (.iconst 2, 1) := by decide +kernel
theorem d_M_good_27 : decode b_M_good 27 = .ok (.iadd, 1) := by decide +kernel
theorem d_M_good_28 : decode b_M_good 28 = .ok (.invokevirtual 96, 3) := by decide +kernel
theorem d_M_good_31 : decode b_M_good 31 = .ok (.ifCond .eq 49, 3) := by decide +kernel
theorem d_M_good_34 : decode b_M_good 34 = .ok (.aload_n 0, 1) := by decide +kernel
theorem d_M_good_35 : decode b_M_good 35 = .ok (.getfield 23, 3) := by decide +kernel
theorem d_M_good_38 : decode b_M_good 38 = .ok (.iconst 4, 1) := by decide +kernel
theorem d_M_good_39 : decode b_M_good 39 = .ok (.iload_n 1, 1) := by decide +kernel
theorem d_M_good_40 : decode b_M_good 40 = .ok (.imul, 1) := by decide +kernel
theorem d_M_good_41 : decode b_M_good 41 = .ok (.iaload, 1) := by decide +kernel
theorem d_M_good_42 : decode b_M_good 42 = .ok (.aload_n 0, 1) := by decide +kernel
theorem d_M_good_43 : decode b_M_good 43 = .ok (.getfield 23, 3) := by decide +kernel
theorem d_M_good_46 : decode b_M_good 46 = .ok (.iconst 4, 1) := by decide +kernel
theorem d_M_good_47 : decode b_M_good 47 = .ok (.iload_n 1, 1) := by decide +kernel
theorem d_M_good_48 : decode b_M_good 48 = .ok (.imul, 1) := by decide +kernel
theorem d_M_good_49 : decode b_M_good 49 = .ok (.iconst 1, 1) := by decide +kernel
theorem d_M_good_50 : decode b_M_good 50 = .ok (.iadd, 1) := by decide +kernel
theorem d_M_good_51 : decode b_M_good 51 = .ok (.iaload, 1) := by decide +kernel
theorem d_M_good_52 : decode b_M_good 52 = .ok (.if_icmp .ne 28, 3) := by decide +kernel
theorem d_M_good_55 : decode b_M_good 55 = .ok (.aload_n 0, 1) := by decide +kernel
theorem d_M_good_56 : decode b_M_good 56 = .ok (.getfield 23, 3) := by decide +kernel
theorem d_M_good_59 : decode b_M_good 59 = .ok (.iconst 4, 1) := by decide +kernel
theorem d_M_good_60 : decode b_M_good 60 = .ok (.iload_n 1, 1) := by decide +kernel
theorem d_M_good_61 : decode b_M_good 61 = .ok (.imul, 1) := by decide +kernel
theorem d_M_good_62 : decode b_M_good 62 = .ok (.iaload, 1) := by decide +kernel
theorem d_M_good_63 : decode b_M_good 63 = .ok (.aload_n 0, 1) := by decide +kernel
theorem d_M_good_64 : decode b_M_good 64 = .ok (.getfield 23, 3) := by decide +kernel
theorem d_M_good_67 : decode b_M_good 67 = .ok (.iconst 4, 1) := by decide +kernel
theorem d_M_good_68 : decode b_M_good 68 = .ok (.iload_n 1, 1) := by decide +kernel
theorem d_M_good_69 : decode b_M_good 69 = .ok (.imul, 1) := by decide +kernel
theorem d_M_good_70 : decode b_M_good 70 = .ok (.iconst 2, 1) := by decide +kernel
theorem d_M_good_71 : decode b_M_good 71 = .ok (.iadd, 1) := by decide +kernel
theorem d_M_good_72 : decode b_M_good 72 = .ok (.iaload, 1) := by decide +kernel
theorem d_M_good_73 : decode b_M_good 73 = .ok (.if_icmp .ne 7, 3) := by decide +kernel
theorem d_M_good_76 : decode b_M_good 76 = .ok (.iconst 1, 1) := by decide +kernel
theorem d_M_good_77 : decode b_M_good 77 = .ok (.goto 4, 3) := by decide +kernel
theorem d_M_good_80 : decode b_M_good 80 = .ok (.iconst 0, 1) := by decide +kernel
theorem d_M_good_81 : decode b_M_good 81 = .ok (.ireturn, 1) := by decide +kernel
theorem d_M_authorised_0 : decode b_M_authorised 0 = .ok (.aload_n 0, 1) := by decide +kernel
theorem d_M_authorised_1 : decode b_M_authorised 1 = .ok (.iconst 4, 1) := by decide +kernel
theorem d_M_authorised_2 : decode b_M_authorised 2 = .ok (.iload_n 1, 1) := by decide +kernel
theorem d_M_authorised_3 : decode b_M_authorised 3 = .ok (.imul, 1) := by decide +kernel
theorem d_M_authorised_4 : decode b_M_authorised 4 = .ok (.invokevirtual 96, 3) := by decide +kernel
theorem d_M_authorised_7 : decode b_M_authorised 7 = .ok (.ifCond .eq 40, 3) := by decide +kernel
theorem d_M_authorised_10 : decode b_M_authorised 10 = .ok (.aload_n 0, 1) := by decide +kernel
theorem d_M_authorised_11 : decode b_M_authorised 11 = .ok (.iconst 4, 1) := by decide +kernel
theorem d_M_authorised_12 : decode b_M_authorised 12 = .ok (.iload_n 1, 1) := by decide +kernel
theorem d_M_authorised_13 : decode b_M_authorised 13 = .ok (.imul, 1) := by decide +kernel
theorem d_M_authorised_14 : decode b_M_authorised 14 = .ok (.iconst 3, 1) := by decide +kernel
theorem d_M_authorised_15 : decode b_M_authorised 15 = .ok (.iadd, 1) := by decide +kernel
theorem d_M_authorised_16 : decode b_M_authorised 16 = .ok (.invokevirtual 96, 3) := by decide +kernel
theorem d_M_authorised_19 : decode b_M_authorised 19 = .ok (.ifCond .eq 28, 3) := by decide +kernel
theorem d_M_authorised_22 : decode b_M_authorised 22 = .ok (.aload_n 0, 1) := by decide +kernel
theorem d_M_authorised_23 : decode b_M_authorised 23 = .ok (.getfield 23, 3) := by decide +kernel
theorem d_M_authorised_26 : decode b_M_authorised 26 = .ok (.iconst 4, 1) := by decide +kernel
theorem d_M_authorised_27 : decode b_M_authorised 27 = .ok (.iload_n 1, 1) := by decide +kernel
theorem d_M_authorised_28 : decode b_M_authorised 28 = .ok (.imul, 1) := by decide +kernel
theorem d_M_authorised_29 : decode b_M_authorised 29 = .ok (.iaload, 1) := by decide +kernel
theorem d_M_authorised_30 : decode b_M_authorised 30 = .ok (.aload_n 0, 1) := by decide +kernel
theorem d_M_authorised_31 : decode b_M_authorised 31 = .ok (.getfield 23, 3) := by decide +kernel
theorem d_M_authorised_34 : decode b_M_authorised 34 = .ok (.iconst 4, 1) := by decide +kernel
theorem d_M_authorised_35 : decode b_M_authorised 35 = .ok (.iload_n 1, 1) := by decide +kernel
theorem d_M_authorised_36 : decode b_M_authorised 36 = .ok (.imul, 1) := by decide +kernel
theorem d_M_authorised_37 : decode b_M_authorised 37 = .ok (.iconst 3, 1) := by decide +kernel
theorem d_M_authorised_38 : decode b_M_authorised 38 = .ok (.iadd, 1) := by decide +kernel
theorem d_M_authorised_39 : decode b_M_authorised 39 = .ok (.iaload, 1) := by decide +kernel
theorem d_M_authorised_40 : decode b_M_authorised 40 = .ok (.if_icmp .ne 7, 3) := by decide +kernel
theorem d_M_authorised_43 : decode b_M_authorised 43 = .ok (.iconst 1, 1) := by decide +kernel
theorem d_M_authorised_44 : decode b_M_authorised 44 = .ok (.goto 4, 3) := by decide +kernel
theorem d_M_authorised_47 : decode b_M_authorised 47 = .ok (.iconst 0, 1) := by decide +kernel
theorem d_M_authorised_48 : decode b_M_authorised 48 = .ok (.ireturn, 1) := by decide +kernel
theorem d_M_enrol_0 : decode b_M_enrol 0 = .ok (.aload_n 0, 1) := by decide +kernel
theorem d_M_enrol_1 : decode b_M_enrol 1 = .ok (.iconst 0, 1) := by decide +kernel
theorem d_M_enrol_2 : decode b_M_enrol 2 = .ok (.putfield 54, 3) := by decide +kernel
theorem d_M_enrol_5 : decode b_M_enrol 5 = .ok (.iload_n 1, 1) := by decide +kernel
theorem d_M_enrol_6 : decode b_M_enrol 6 = .ok (.iconst 0, 1) := by decide +kernel
theorem d_M_enrol_7 : decode b_M_enrol 7 = .ok (.iconst 5, 1) := by decide +kernel
theorem d_M_enrol_8 : decode b_M_enrol 8 = .ok (.invokestatic 57, 3) := by decide +kernel
theorem d_M_enrol_11 : decode b_M_enrol 11 = .ok (.ifCond .eq 14, 3) := by decide +kernel
theorem d_M_enrol_14 : decode b_M_enrol 14 = .ok (.iload_n 2, 1) := by decide +kernel
theorem d_M_enrol_15 : decode b_M_enrol 15 = .ok (.iconst 0, 1) := by decide +kernel
theorem d_M_enrol_16 : decode b_M_enrol 16 = .ok (.sipush 9972, 3) := by decide +kernel
theorem d_M_enrol_19 : decode b_M_enrol 19 = .ok (.invokestatic 57, 3) := by decide +kernel
theorem d_M_enrol_22 : decode b_M_enrol 22 = .ok (.ifCond .ne 9, 3) := by decide +kernel
theorem d_M_enrol_25 : decode b_M_enrol 25 = .ok (.aload_n 0, 1) := by decide +kernel
theorem d_M_enrol_26 : decode b_M_enrol 26 = .ok (.iconst 1, 1) := by decide +kernel
theorem d_M_enrol_27 : decode b_M_enrol 27 = .ok (.invokevirtual 81, 3) := by decide +kernel
theorem d_M_enrol_30 : decode b_M_enrol 30 = .ok (.ireturn, 1) := by decide +kernel
theorem d_M_enrol_31 : decode b_M_enrol 31 = .ok (.aload_n 0, 1) := by decide +kernel
theorem d_M_enrol_32 : decode b_M_enrol 32 = .ok (.getfield 99, 3) := by decide +kernel
theorem d_M_enrol_35 : decode b_M_enrol 35 = .ok (.ifCond .eq 9, 3) := by decide +kernel
theorem d_M_enrol_38 : decode b_M_enrol 38 = .ok (.aload_n 0, 1) := by decide +kernel
theorem d_M_enrol_39 : decode b_M_enrol 39 = .ok (.iconst 2, 1) := by decide +kernel
theorem d_M_enrol_40 : decode b_M_enrol 40 = .ok (.invokevirtual 81, 3) := by decide +kernel
theorem d_M_enrol_43 : decode b_M_enrol 43 = .ok (.ireturn, 1) := by decide +kernel
theorem d_M_enrol_44 : decode b_M_enrol 44 = .ok (.aload_n 0, 1) := by decide +kernel
theorem d_M_enrol_45 : decode b_M_enrol 45 = .ok (.getfield 13, 3) := by decide +kernel
theorem d_M_enrol_48 : decode b_M_enrol 48 = .ok (.iload_n 1, 1) := by decide +kernel
theorem d_M_enrol_49 : decode b_M_enrol 49 = .ok (.iaload, 1) := by decide +kernel
theorem d_M_enrol_50 : decode b_M_enrol 50 = .ok (.istore_n 3, 1) := by decide +kernel
theorem d_M_enrol_51 : decode b_M_enrol 51 = .ok (.aload_n 0, 1) := by decide +kernel
theorem d_M_enrol_52 : decode b_M_enrol 52 = .ok (.getfield 13, 3) := by decide +kernel
theorem d_M_enrol_55 : decode b_M_enrol 55 = .ok (.iload_n 1, 1) := by decide +kernel
theorem d_M_enrol_56 : decode b_M_enrol 56 = .ok (.iload_n 2, 1) := by decide +kernel
theorem d_M_enrol_57 : decode b_M_enrol 57 = .ok (.iastore, 1) := by decide +kernel
theorem d_M_enrol_58 : decode b_M_enrol 58 = .ok (.iload_n 3, 1) := by decide +kernel
theorem d_M_enrol_59 : decode b_M_enrol 59 = .ok (.ireturn, 1) := by decide +kernel
theorem d_M_log_0 : decode b_M_log 0 = .ok (.aload_n 0, 1) := by decide +kernel
theorem d_M_log_1 : decode b_M_log 1 = .ok (.getfield 103, 3) := by decide +kernel
theorem d_M_log_4 : decode b_M_log 4 = .ok (.bipush 16, 2) := by decide +kernel
theorem d_M_log_6 : decode b_M_log 6 = .ok (.if_icmp .ne 70, 3) := by decide +kernel
theorem d_M_log_9 : decode b_M_log 9 = .ok (.iconst 4, 1) := by decide +kernel
theorem d_M_log_10 : decode b_M_log 10 = .ok (.istore_n 3, 1) := by decide +kernel
theorem d_M_log_11 : decode b_M_log 11 = .ok (.iload_n 3, 1) := by decide +kernel
theorem d_M_log_12 : decode b_M_log 12 = .ok (.bipush 16, 2) := by decide +kernel
theorem d_M_log_14 : decode b_M_log 14 = .ok (.if_icmp .ge 51, 3) := by decide +kernel
theorem d_M_log_17 : decode b_M_log 17 = .ok (.aload_n 0, 1) := by decide +kernel
theorem d_M_log_18 : decode b_M_log 18 = .ok (.getfield 45, 3) := by decide +kernel
theorem d_M_log_21 : decode b_M_log 21 = .ok (.iload_n 3, 1) := by decide +kernel
theorem d_M_log_22 : decode b_M_log 22 = .ok (.iconst 4, 1) := by decide +kernel
theorem d_M_log_23 : decode b_M_log 23 = .ok (.isub, 1) := by decide +kernel
theorem d_M_log_24 : decode b_M_log 24 = .ok (.aload_n 0, 1) := by decide +kernel
theorem d_M_log_25 : decode b_M_log 25 = .ok (.getfield 45, 3) := by decide +kernel
theorem d_M_log_28 : decode b_M_log 28 = .ok (.iload_n 3, 1) := by decide +kernel
theorem d_M_log_29 : decode b_M_log 29 = .ok (.iaload, 1) := by decide +kernel
theorem d_M_log_30 : decode b_M_log 30 = .ok (.iastore, 1) := by decide +kernel
theorem d_M_log_31 : decode b_M_log 31 = .ok (.aload_n 0, 1) := by decide +kernel
theorem d_M_log_32 : decode b_M_log 32 = .ok (.getfield 48, 3) := by decide +kernel
theorem d_M_log_35 : decode b_M_log 35 = .ok (.iload_n 3, 1) := by decide +kernel
theorem d_M_log_36 : decode b_M_log 36 = .ok (.iconst 4, 1) := by decide +kernel
theorem d_M_log_37 : decode b_M_log 37 = .ok (.isub, 1) := by decide +kernel
theorem d_M_log_38 : decode b_M_log 38 = .ok (.aload_n 0, 1) := by decide +kernel
theorem d_M_log_39 : decode b_M_log 39 = .ok (.getfield 48, 3) := by decide +kernel
theorem d_M_log_42 : decode b_M_log 42 = .ok (.iload_n 3, 1) := by decide +kernel
theorem d_M_log_43 : decode b_M_log 43 = .ok (.iaload, 1) := by decide +kernel
theorem d_M_log_44 : decode b_M_log 44 = .ok (.iastore, 1) := by decide +kernel
theorem d_M_log_45 : decode b_M_log 45 = .ok (.aload_n 0, 1) := by decide +kernel
theorem d_M_log_46 : decode b_M_log 46 = .ok (.getfield 51, 3) := by decide +kernel
theorem d_M_log_49 : decode b_M_log 49 = .ok (.iload_n 3, 1) := by decide +kernel
theorem d_M_log_50 : decode b_M_log 50 = .ok (.iconst 4, 1) := by decide +kernel
theorem d_M_log_51 : decode b_M_log 51 = .ok (.isub, 1) := by decide +kernel
theorem d_M_log_52 : decode b_M_log 52 = .ok (.aload_n 0, 1) := by decide +kernel
theorem d_M_log_53 : decode b_M_log 53 = .ok (.getfield 51, 3) := by decide +kernel
theorem d_M_log_56 : decode b_M_log 56 = .ok (.iload_n 3, 1) := by decide +kernel
theorem d_M_log_57 : decode b_M_log 57 = .ok (.iaload, 1) := by decide +kernel
theorem d_M_log_58 : decode b_M_log 58 = .ok (.iastore, 1) := by decide +kernel
theorem d_M_log_59 : decode b_M_log 59 = .ok (.iinc 3 1, 3) := by decide +kernel
theorem d_M_log_62 : decode b_M_log 62 = .ok (.goto (-51), 3) := by decide +kernel
theorem d_M_log_65 : decode b_M_log 65 = .ok (.aload_n 0, 1) := by decide +kernel
theorem d_M_log_66 : decode b_M_log 66 = .ok (.bipush 12, 2) := by decide +kernel
theorem d_M_log_68 : decode b_M_log 68 = .ok (.putfield 103, 3) := by decide +kernel
theorem d_M_log_71 : decode b_M_log 71 = .ok (.aload_n 0, 1) := by decide +kernel
theorem d_M_log_72 : decode b_M_log 72 = .ok (.iconst 1, 1) := by decide +kernel
theorem d_M_log_73 : decode b_M_log 73 = .ok (.putfield 106, 3) := by decide +kernel
theorem d_M_log_76 : decode b_M_log 76 = .ok (.aload_n 0, 1) := by decide +kernel
theorem d_M_log_77 : decode b_M_log 77 = .ok (.getfield 45, 3) := by decide +kernel
theorem d_M_log_80 : decode b_M_log 80 = .ok (.aload_n 0, 1) := by decide +kernel
theorem d_M_log_81 : decode b_M_log 81 = .ok (.getfield 103, 3) := by decide +kernel
theorem d_M_log_84 : decode b_M_log 84 = .ok (.iload_n 1, 1) := by decide +kernel
theorem d_M_log_85 : decode b_M_log 85 = .ok (.iastore, 1) := by decide +kernel
theorem d_M_log_86 : decode b_M_log 86 = .ok (.aload_n 0, 1) := by decide +kernel
theorem d_M_log_87 : decode b_M_log 87 = .ok (.getfield 48, 3) := by decide +kernel
theorem d_M_log_90 : decode b_M_log 90 = .ok (.aload_n 0, 1) := by decide +kernel
theorem d_M_log_91 : decode b_M_log 91 = .ok (.getfield 103, 3) := by decide +kernel
theorem d_M_log_94 : decode b_M_log 94 = .ok (.aload_n 0, 1) := by decide +kernel
theorem d_M_log_95 : decode b_M_log 95 = .ok (.getfield 93, 3) := by decide +kernel
theorem d_M_log_98 : decode b_M_log 98 = .ok (.iastore, 1) := by decide +kernel
theorem d_M_log_99 : decode b_M_log 99 = .ok (.aload_n 0, 1) := by decide +kernel
theorem d_M_log_100 : decode b_M_log 100 = .ok (.getfield 51, 3) := by decide +kernel
theorem d_M_log_103 : decode b_M_log 103 = .ok (.aload_n 0, 1) := by decide +kernel
theorem d_M_log_104 : decode b_M_log 104 = .ok (.getfield 103, 3) := by decide +kernel
theorem d_M_log_107 : decode b_M_log 107 = .ok (.iload_n 2, 1) := by decide +kernel
theorem d_M_log_108 : decode b_M_log 108 = .ok (.iastore, 1) := by decide +kernel
theorem d_M_log_109 : decode b_M_log 109 = .ok (.aload_n 0, 1) := by decide +kernel
theorem d_M_log_110 : decode b_M_log 110 = .ok (.dup, 1) := by decide +kernel
theorem d_M_log_111 : decode b_M_log 111 = .ok (.getfield 103, 3) := by decide +kernel
theorem d_M_log_114 : decode b_M_log 114 = .ok (.iconst 1, 1) := by decide +kernel
theorem d_M_log_115 : decode b_M_log 115 = .ok (.iadd, 1) := by decide +kernel
theorem d_M_log_116 : decode b_M_log 116 = .ok (.putfield 103, 3) := by decide +kernel
theorem d_M_log_119 : decode b_M_log 119 = .ok (.return_, 1) := by decide +kernel
theorem d_M_note_0 : decode b_M_note 0 = .ok (.aload_n 0, 1) := by decide +kernel
theorem d_M_note_1 : decode b_M_note 1 = .ok (.iload_n 1, 1) := by decide +kernel
theorem d_M_note_2 : decode b_M_note 2 = .ok (.iload_n 2, 1) := by decide +kernel
theorem d_M_note_3 : decode b_M_note 3 = .ok (.ifCond .lt 25, 3) := by decide +kernel
theorem d_M_note_6 : decode b_M_note 6 = .ok (.aload_n 0, 1) := by decide +kernel
theorem d_M_note_7 : decode b_M_note 7 = .ok (.getfield 16, 3) := by decide +kernel
theorem d_M_note_10 : decode b_M_note 10 = .ok (.iconst 4, 1) := by decide +kernel
theorem d_M_note_11 : decode b_M_note 11 = .ok (.iload_n 2, 1) := by decide +kernel
theorem d_M_note_12 : decode b_M_note 12 = .ok (.imul, 1) := by decide +kernel
theorem d_M_note_13 : decode b_M_note 13 = .ok (.baload, 1) := by decide +kernel
theorem d_M_note_14 : decode b_M_note 14 = .ok (.ifCond .eq 14, 3) := by decide +kernel
theorem d_M_note_17 : decode b_M_note 17 = .ok (.aload_n 0, 1) := by decide +kernel
theorem d_M_note_18 : decode b_M_note 18 = .ok (.getfield 23, 3) := by decide +kernel
theorem d_M_note_21 : decode b_M_note 21 = .ok (.iconst 4, 1) := by decide +kernel
theorem d_M_note_22 : decode b_M_note 22 = .ok (.iload_n 2, 1) := by decide +kernel
theorem d_M_note_23 : decode b_M_note 23 = .ok (.imul, 1) := by decide +kernel
theorem d_M_note_24 : decode b_M_note 24 = .ok (.iaload, 1) := by decide +kernel
theorem d_M_note_25 : decode b_M_note 25 = .ok (.goto 4, 3) := by decide +kernel
theorem d_M_note_28 : decode b_M_note 28 = .ok (.iconst (-1), 1) := by decide +kernel
theorem d_M_note_29 : decode b_M_note 29 = .ok (.invokevirtual 109, 3) := by decide +kernel
theorem d_M_note_32 : decode b_M_note 32 = .ok (.return_, 1) := by decide +kernel
theorem d_M_start_0 : decode b_M_start 0 = .ok (.aload_n 0, 1) := by decide +kernel
theorem d_M_start_1 : decode b_M_start 1 = .ok (.iconst 0, 1) := by decide +kernel
theorem d_M_start_2 : decode b_M_start 2 = .ok (.putfield 54, 3) := by decide +kernel
theorem d_M_start_5 : decode b_M_start 5 = .ok (.iconst 0, 1) := by decide +kernel
theorem d_M_start_6 : decode b_M_start 6 = .ok (.istore_n 1, 1) := by decide +kernel
theorem d_M_start_7 : decode b_M_start 7 = .ok (.iconst 0, 1) := by decide +kernel
theorem d_M_start_8 : decode b_M_start 8 = .ok (.istore_n 2, 1) := by decide +kernel
theorem d_M_start_9 : decode b_M_start 9 = .ok (.iload_n 2, 1) := by decide +kernel
theorem d_M_start_10 : decode b_M_start 10 = .ok (.bipush 6, 2) := by decide +kernel
theorem d_M_start_12 : decode b_M_start 12 = .ok (.if_icmp .ge 21, 3) := by decide +kernel
theorem d_M_start_15 : decode b_M_start 15 = .ok (.aload_n 0, 1) := by decide +kernel
theorem d_M_start_16 : decode b_M_start 16 = .ok (.getfield 13, 3) := by decide +kernel
theorem d_M_start_19 : decode b_M_start 19 = .ok (.iload_n 2, 1) := by decide +kernel
theorem d_M_start_20 : decode b_M_start 20 = .ok (.iaload, 1) := by decide +kernel
theorem d_M_start_21 : decode b_M_start 21 = .ok (.ifCond .le 6, 3) := by decide +kernel
theorem d_M_start_24 : decode b_M_start 24 = .ok (.iinc 1 1, 3) := by decide +kernel
theorem d_M_start_27 : decode b_M_start 27 = .ok (.iinc 2 1, 3) := by decide +kernel
theorem d_M_start_30 : decode b_M_start 30 = .ok (.goto (-21), 3) := by decide +kernel
theorem d_M_start_33 : decode b_M_start 33 = .ok (.aload_n 0, 1) := by decide +kernel
theorem d_M_start_34 : decode b_M_start 34 = .ok (.getfield 99, 3) := by decide +kernel
theorem d_M_start_37 : decode b_M_start 37 = .ok (.ifCond .ne 21, 3) := by decide +kernel
theorem d_M_start_40 : decode b_M_start 40 = .ok (.iload_n 1, 1) := by decide +kernel
theorem d_M_start_41 : decode b_M_start 41 = .ok (.ifCond .eq 17, 3) := by decide +kernel
theorem d_M_start_44 : decode b_M_start 44 = .ok (.aload_n 0, 1) := by decide +kernel
theorem d_M_start_45 : decode b_M_start 45 = .ok (.getfield 38, 3) := by decide +kernel
theorem d_M_start_48 : decode b_M_start 48 = .ok (.ifCond .ge 10, 3) := by decide +kernel
theorem d_M_start_51 : decode b_M_start 51 = .ok (.aload_n 0, 1) := by decide +kernel
theorem d_M_start_52 : decode b_M_start 52 = .ok (.getfield 42, 3) := by decide +kernel
theorem d_M_start_55 : decode b_M_start 55 = .ok (.ifCond .lt 9, 3) := by decide +kernel
theorem d_M_start_58 : decode b_M_start 58 = .ok (.aload_n 0, 1) := by decide +kernel
theorem d_M_start_59 : decode b_M_start 59 = .ok (.iconst 1, 1) := by decide +kernel
theorem d_M_start_60 : decode b_M_start 60 = .ok (.invokevirtual 81, 3) := by decide +kernel
theorem d_M_start_63 : decode b_M_start 63 = .ok (.ireturn, 1) := by decide +kernel
theorem d_M_start_64 : decode b_M_start 64 = .ok (.aload_n 0, 1) := by decide +kernel
theorem d_M_start_65 : decode b_M_start 65 = .ok (.iconst 1, 1) := by decide +kernel
theorem d_M_start_66 : decode b_M_start 66 = .ok (.putfield 99, 3) := by decide +kernel
theorem d_M_start_69 : decode b_M_start 69 = .ok (.aload_n 0, 1) := by decide +kernel
theorem d_M_start_70 : decode b_M_start 70 = .ok (.iconst 0, 1) := by decide +kernel
theorem d_M_start_71 : decode b_M_start 71 = .ok (.putfield 113, 3) := by decide +kernel
theorem d_M_start_74 : decode b_M_start 74 = .ok (.aload_n 0, 1) := by decide +kernel
theorem d_M_start_75 : decode b_M_start 75 = .ok (.iconst 0, 1) := by decide +kernel
theorem d_M_start_76 : decode b_M_start 76 = .ok (.putfield 116, 3) := by decide +kernel
theorem d_M_start_79 : decode b_M_start 79 = .ok (.aload_n 0, 1) := by decide +kernel
theorem d_M_start_80 : decode b_M_start 80 = .ok (.iconst 1, 1) := by decide +kernel
theorem d_M_start_81 : decode b_M_start 81 = .ok (.iconst (-1), 1) := by decide +kernel
theorem d_M_start_82 : decode b_M_start 82 = .ok (.invokevirtual 109, 3) := by decide +kernel
theorem d_M_start_85 : decode b_M_start 85 = .ok (.iload_n 1, 1) := by decide +kernel
theorem d_M_start_86 : decode b_M_start 86 = .ok (.ireturn, 1) := by decide +kernel
theorem d_M_become_0 : decode b_M_become 0 = .ok (.aload_n 0, 1) := by decide +kernel
theorem d_M_become_1 : decode b_M_become 1 = .ok (.iload_n 1, 1) := by decide +kernel
theorem d_M_become_2 : decode b_M_become 2 = .ok (.putfield 113, 3) := by decide +kernel
theorem d_M_become_5 : decode b_M_become 5 = .ok (.aload_n 0, 1) := by decide +kernel
theorem d_M_become_6 : decode b_M_become 6 = .ok (.aload_n 0, 1) := by decide +kernel
theorem d_M_become_7 : decode b_M_become 7 = .ok (.getfield 93, 3) := by decide +kernel
theorem d_M_become_10 : decode b_M_become 10 = .ok (.putfield 119, 3) := by decide +kernel
theorem d_M_become_13 : decode b_M_become 13 = .ok (.return_, 1) := by decide +kernel
theorem d_M_insert_0 : decode b_M_insert 0 = .ok (.aload_n 0, 1) := by decide +kernel
theorem d_M_insert_1 : decode b_M_insert 1 = .ok (.iconst 0, 1) := by decide +kernel
theorem d_M_insert_2 : decode b_M_insert 2 = .ok (.putfield 54, 3) := by decide +kernel
theorem d_M_insert_5 : decode b_M_insert 5 = .ok (.aload_n 0, 1) := by decide +kernel
theorem d_M_insert_6 : decode b_M_insert 6 = .ok (.getfield 99, 3) := by decide +kernel
theorem d_M_insert_9 : decode b_M_insert 9 = .ok (.ifCond .ne 9, 3) := by decide +kernel
theorem d_M_insert_12 : decode b_M_insert 12 = .ok (.aload_n 0, 1) := by decide +kernel
theorem d_M_insert_13 : decode b_M_insert 13 = .ok (.iconst 1, 1) := by decide +kernel
theorem d_M_insert_14 : decode b_M_insert 14 = .ok (.invokevirtual 81, 3) := by decide +kernel
theorem d_M_insert_17 : decode b_M_insert 17 = .ok (.ireturn, 1) := by decide +kernel
theorem d_M_insert_18 : decode b_M_insert 18 = .ok (.iload_n 1, 1) := by decide +kernel
theorem d_M_insert_19 : decode b_M_insert 19 = .ok (.iconst 0, 1) := by decide +kernel
theorem d_M_insert_20 : decode b_M_insert 20 = .ok (.iconst 5, 1) := by decide +kernel
theorem d_M_insert_21 : decode b_M_insert 21 = .ok (.invokestatic 57, 3) := by decide +kernel
theorem d_M_insert_24 : decode b_M_insert 24 = .ok (.ifCond .ne 9, 3) := by decide +kernel
theorem d_M_insert_27 : decode b_M_insert 27 = .ok (.aload_n 0, 1) := by decide +kernel
theorem d_M_insert_28 : decode b_M_insert 28 = .ok (.iconst 2, 1) := by decide +kernel
theorem d_M_insert_29 : decode b_M_insert 29 = .ok (.invokevirtual 81, 3) := by decide +kernel
theorem d_M_insert_32 : decode b_M_insert 32 = .ok (.ireturn, 1) := by decide +kernel
theorem d_M_insert_33 : decode b_M_insert 33 = .ok (.aload_n 0, 1) := by decide +kernel
theorem d_M_insert_34 : decode b_M_insert 34 = .ok (.iload_n 1, 1) := by decide +kernel
theorem d_M_insert_35 : decode b_M_insert 35 = .ok (.invokevirtual 85, 3) := by decide +kernel
theorem d_M_insert_38 : decode b_M_insert 38 = .ok (.ifCond .ne 10, 3) := by decide +kernel
theorem d_M_insert_41 : decode b_M_insert 41 = .ok (.aload_n 0, 1) := by decide +kernel
theorem d_M_insert_42 : decode b_M_insert 42 = .ok (.getfield 38, 3) := by decide +kernel
theorem d_M_insert_45 : decode b_M_insert 45 = .ok (.ifCond .lt 9, 3) := by decide +kernel
theorem d_M_insert_48 : decode b_M_insert 48 = .ok (.aload_n 0, 1) := by decide +kernel
theorem d_M_insert_49 : decode b_M_insert 49 = .ok (.iconst 1, 1) := by decide +kernel
theorem d_M_insert_50 : decode b_M_insert 50 = .ok (.invokevirtual 81, 3) := by decide +kernel
theorem d_M_insert_53 : decode b_M_insert 53 = .ok (.ireturn, 1) := by decide +kernel
theorem d_M_insert_54 : decode b_M_insert 54 = .ok (.aload_n 0, 1) := by decide +kernel
theorem d_M_insert_55 : decode b_M_insert 55 = .ok (.iload_n 1, 1) := by decide +kernel
theorem d_M_insert_56 : decode b_M_insert 56 = .ok (.putfield 38, 3) := by decide +kernel
theorem d_M_insert_59 : decode b_M_insert 59 = .ok (.aload_n 0, 1) := by decide +kernel
theorem d_M_insert_60 : decode b_M_insert 60 = .ok (.iconst 2, 1) := by decide +kernel
theorem d_M_insert_61 : decode b_M_insert 61 = .ok (.iload_n 1, 1) := by decide +kernel
theorem d_M_insert_62 : decode b_M_insert 62 = .ok (.invokevirtual 122, 3) := by decide +kernel
theorem d_M_insert_65 : decode b_M_insert 65 = .ok (.aload_n 0, 1) := by decide +kernel
theorem d_M_insert_66 : decode b_M_insert 66 = .ok (.iload_n 1, 1) := by decide +kernel
theorem d_M_insert_67 : decode b_M_insert 67 = .ok (.invokevirtual 125, 3) := by decide +kernel
theorem d_M_insert_70 : decode b_M_insert 70 = .ok (.ifCond .eq 18, 3) := by decide +kernel
theorem d_M_insert_73 : decode b_M_insert 73 = .ok (.aload_n 0, 1) := by decide +kernel
theorem d_M_insert_74 : decode b_M_insert 74 = .ok (.iconst 2, 1) := by decide +kernel
theorem d_M_insert_75 : decode b_M_insert 75 = .ok (.invokevirtual 128, 3) := by decide +kernel
theorem d_M_insert_78 : decode b_M_insert 78 = .ok (.aload_n 0, 1) := by decide +kernel
theorem d_M_insert_79 : decode b_M_insert 79 = .ok (.bipush 7, 2) := by decide +kernel
theorem d_M_insert_81 : decode b_M_insert 81 = .ok (.iload_n 1, 1) := by decide +kernel
theorem d_M_insert_82 : decode b_M_insert 82 = .ok (.invokevirtual 122, 3) := by decide +kernel
theorem d_M_insert_85 : decode b_M_insert 85 = .ok (.goto 30, 3) := by decide +kernel
theorem d_M_insert_88 : decode b_M_insert 88 = .ok (.aload_n 0, 1) := by decide +kernel
theorem d_M_insert_89 : decode b_M_insert 89 = .ok (.iload_n 1, 1) := by decide +kernel
theorem d_M_insert_90 : decode b_M_insert 90 = .ok (.invokevirtual 132, 3) := by decide +kernel
theorem d_M_insert_93 : decode b_M_insert 93 = .ok (.ifCond .eq 11, 3) := by decide +kernel
theorem d_M_insert_96 : decode b_M_insert 96 = .ok (.aload_n 0, 1) := by decide +kernel
theorem d_M_insert_97 : decode b_M_insert 97 = .ok (.iconst 1, 1) := by decide +kernel
theorem d_M_insert_98 : decode b_M_insert 98 = .ok (.invokevirtual 128, 3) := by decide +kernel
theorem d_M_insert_101 : decode b_M_insert 101 = .ok (.goto 14, 3) := by decide +kernel
theorem d_M_insert_104 : decode b_M_insert 104 = .ok (.aload_n 0, 1) := by decide +kernel
theorem d_M_insert_105 : decode b_M_insert 105 = .ok (.iconst 3, 1) := by decide +kernel
theorem d_M_insert_106 : decode b_M_insert 106 = .ok (.invokevirtual 128, 3) := by decide +kernel
theorem d_M_insert_109 : decode b_M_insert 109 = .ok (.aload_n 0, 1) := by decide +kernel
theorem d_M_insert_110 : decode b_M_insert 110 = .ok (.iconst 3, 1) := by decide +kernel
theorem d_M_insert_111 : decode b_M_insert 111 = .ok (.iload_n 1, 1) := by decide +kernel
theorem d_M_insert_112 : decode b_M_insert 112 = .ok (.invokevirtual 122, 3) := by decide +kernel
theorem d_M_insert_115 : decode b_M_insert 115 = .ok (.aload_n 0, 1) := by decide +kernel
theorem d_M_insert_116 : decode b_M_insert 116 = .ok (.getfield 113, 3) := by decide +kernel
theorem d_M_insert_119 : decode b_M_insert 119 = .ok (.ireturn, 1) := by decide +kernel
theorem d_M_differing_0 : decode b_M_differing 0 = .ok (.iconst 0, 1) := by decide +kernel
theorem d_M_differing_1 : decode b_M_differing 1 = .ok (.istore_n 2, 1) := by decide +kernel
theorem d_M_differing_2 : decode b_M_differing 2 = .ok (.iconst 0, 1) := by decide +kernel
theorem d_M_differing_3 : decode b_M_differing 3 = .ok (.istore_n 3, 1) := by decide +kernel
theorem d_M_differing_4 : decode b_M_differing 4 = .ok (.iload_n 3, 1) := by decide +kernel
theorem d_M_differing_5 : decode b_M_differing 5 = .ok (.bipush 16, 2) := by decide +kernel
theorem d_M_differing_7 : decode b_M_differing 7 = .ok (.if_icmp .ge 25, 3) := by decide +kernel
theorem d_M_differing_10 : decode b_M_differing 10 = .ok (.iload_n 0, 1) := by decide +kernel
theorem d_M_differing_11 : decode b_M_differing 11 = .ok (.iload_n 3, 1) := by decide +kernel
theorem d_M_differing_12 : decode b_M_differing 12 = .ok (.ishr, 1) := by decide +kernel
theorem d_M_differing_13 : decode b_M_differing 13 = .ok (.iconst 1, 1) := by decide +kernel
theorem d_M_differing_14 : decode b_M_differing 14 = .ok (.iand, 1) := by decide +kernel
theorem d_M_differing_15 : decode b_M_differing 15 = .ok (.iload_n 1, 1) := by decide +kernel
theorem d_M_differing_16 : decode b_M_differing 16 = .ok (.iload_n 3, 1) := by decide +kernel
theorem d_M_differing_17 : decode b_M_differing 17 = .ok (.ishr, 1) := by decide +kernel
theorem d_M_differing_18 : decode b_M_differing 18 = .ok (.iconst 1, 1) := by decide +kernel
theorem d_M_differing_19 : decode b_M_differing 19 = .ok (.iand, 1) := by decide +kernel
theorem d_M_differing_20 : decode b_M_differing 20 = .ok (.if_icmp .eq 6, 3) := by decide +kernel
theorem d_M_differing_23 : decode b_M_differing 23 = .ok (.iinc 2 1, 3) := by decide +kernel
theorem d_M_differing_26 : decode b_M_differing 26 = .ok (.iinc 3 1, 3) := by decide +kernel
theorem d_M_differing_29 : decode b_M_differing 29 = .ok (.goto (-25), 3) := by decide +kernel
theorem d_M_differing_32 : decode b_M_differing 32 = .ok (.iload_n 2, 1) := by decide +kernel
theorem d_M_differing_33 : decode b_M_differing 33 = .ok (.ireturn, 1) := by decide +kernel
theorem d_M_finger_0 : decode b_M_finger 0 = .ok (.aload_n 0, 1) := by decide +kernel
theorem d_M_finger_1 : decode b_M_finger 1 = .ok (.iconst 0, 1) := by decide +kernel
theorem d_M_finger_2 : decode b_M_finger 2 = .ok (.putfield 54, 3) := by decide +kernel
theorem d_M_finger_5 : decode b_M_finger 5 = .ok (.aload_n 0, 1) := by decide +kernel
theorem d_M_finger_6 : decode b_M_finger 6 = .ok (.getfield 99, 3) := by decide +kernel
theorem d_M_finger_9 : decode b_M_finger 9 = .ok (.ifCond .eq 11, 3) := by decide +kernel
theorem d_M_finger_12 : decode b_M_finger 12 = .ok (.aload_n 0, 1) := by decide +kernel
theorem d_M_finger_13 : decode b_M_finger 13 = .ok (.getfield 113, 3) := by decide +kernel
theorem d_M_finger_16 : decode b_M_finger 16 = .ok (.iconst 1, 1) := by decide +kernel
theorem d_M_finger_17 : decode b_M_finger 17 = .ok (.if_icmp .eq 9, 3) := by decide +kernel
theorem d_M_finger_20 : decode b_M_finger 20 = .ok (.aload_n 0, 1) := by decide +kernel
theorem d_M_finger_21 : decode b_M_finger 21 = .ok (.iconst 1, 1) := by decide +kernel
theorem d_M_finger_22 : decode b_M_finger 22 = .ok (.invokevirtual 81, 3) := by decide +kernel
theorem d_M_finger_25 : decode b_M_finger 25 = .ok (.ireturn, 1) := by decide +kernel
theorem d_M_finger_26 : decode b_M_finger 26 = .ok (.iload_n 1, 1) := by decide +kernel
theorem d_M_finger_27 : decode b_M_finger 27 = .ok (.iconst 0, 1) := by decide +kernel
theorem d_M_finger_28 : decode b_M_finger 28 = .ok (.ldc 61, 2) := by decide +kernel
theorem d_M_finger_30 : decode b_M_finger 30 = .ok (.invokestatic 57, 3) := by decide +kernel
theorem d_M_finger_33 : decode b_M_finger 33 = .ok (.ifCond .ne 9, 3) := by decide +kernel
theorem d_M_finger_36 : decode b_M_finger 36 = .ok (.aload_n 0, 1) := by decide +kernel
theorem d_M_finger_37 : decode b_M_finger 37 = .ok (.iconst 2, 1) := by decide +kernel
theorem d_M_finger_38 : decode b_M_finger 38 = .ok (.invokevirtual 81, 3) := by decide +kernel
theorem d_M_finger_41 : decode b_M_finger 41 = .ok (.ireturn, 1) := by decide +kernel
end DEC
