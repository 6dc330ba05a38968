section DEC
theorem d_S_certificate_13 : decode b_S_certificate 13 = .ok (.iload_n 3, 1) := by decide +kernel
theorem d_S_certificate_14 : decode b_S_certificate 14 = .ok (.iconst 0, 1) := by decide +kernel
theorem d_S_certificate_15 : decode b_S_certificate 15 = .ok (.bipush 6, 2) := by decide +kernel
theorem d_S_certificate_17 : decode b_S_certificate 17 = .ok (.invokestatic 69, 3) := by decide +kernel
theorem d_S_certificate_20 : decode b_S_certificate 20 = .ok (.ifCond .ne 11, 3) := by decide +kernel
theorem d_S_certificate_23 : decode b_S_certificate 23 = .ok (.new 54, 3) := by decide +kernel
theorem d_S_certificate_26 : decode b_S_certificate 26 = .ok (.dup, 1) := by decide +kernel
theorem d_S_certificate_27 : decode b_S_certificate 27 = .ok (.invokespecial 56, 3) := by decide +kernel
theorem d_S_certificate_30 : decode b_S_certificate 30 = .ok (.athrow, 1) := by decide +kernel
theorem d_S_certificate_31 : decode b_S_certificate 31 = .ok (.aload_n 0, 1) := by decide +kernel
theorem d_S_certificate_32 : decode b_S_certificate 32 = .ok (.iload_n 1, 1) := by decide +kernel
theorem d_S_certificate_33 : decode b_S_certificate 33 = .ok (.iload_n 2, 1) := by decide +kernel
theorem d_S_certificate_34 : decode b_S_certificate 34 = .ok (.invokevirtual 76, 3) := by decide +kernel
theorem d_S_certificate_37 : decode b_S_certificate 37 = .ok (.astore 4, 2) := by decide +kernel
theorem d_S_certificate_39 : decode b_S_certificate 39 = .ok (.aload 4, 2) := by decide +kernel
theorem d_S_certificate_41 : decode b_S_certificate 41 = .ok (.ifnonnull 11, 3) := by decide +kernel
theorem d_S_certificate_44 : decode b_S_certificate 44 = .ok (.new 190, 3) := by decide +kernel
theorem d_S_certificate_47 : decode b_S_certificate 47 = .ok (.dup, 1) := by decide +kernel
theorem d_S_certificate_48 : decode b_S_certificate 48 = .ok (.invokespecial 192, 3) := by decide +kernel
theorem d_S_certificate_51 : decode b_S_certificate 51 = .ok (.athrow, 1) := by decide +kernel
theorem d_S_certificate_52 : decode b_S_certificate 52 = .ok (.iload_n 3, 1) := by decide +kernel
theorem d_S_certificate_53 : decode b_S_certificate 53 = .ok (.tableswitch 75 0 5 #[39, 45, 51, 57, 63, 69], 39) := by decide +kernel
theorem d_S_certificate_92 : decode b_S_certificate 92 = .ok (.aload 4, 2) := by decide +kernel
theorem d_S_certificate_94 : decode b_S_certificate 94 = .ok (.getfield 202, 3) := by decide +kernel
theorem d_S_certificate_97 : decode b_S_certificate 97 = .ok (.ireturn, 1) := by decide +kernel
theorem d_S_certificate_98 : decode b_S_certificate 98 = .ok (.aload 4, 2) := by decide +kernel
theorem d_S_certificate_100 : decode b_S_certificate 100 = .ok (.getfield 205, 3) := by decide +kernel
theorem d_S_certificate_103 : decode b_S_certificate 103 = .ok (.ireturn, 1) := by decide +kernel
theorem d_S_certificate_104 : decode b_S_certificate 104 = .ok (.aload 4, 2) := by decide +kernel
theorem d_S_certificate_106 : decode b_S_certificate 106 = .ok (.getfield 131, 3) := by decide +kernel
theorem d_S_certificate_109 : decode b_S_certificate 109 = .ok (.ireturn, 1) := by decide +kernel
theorem d_S_certificate_110 : decode b_S_certificate 110 = .ok (.aload 4, 2) := by decide +kernel
theorem d_S_certificate_112 : decode b_S_certificate 112 = .ok (.getfield 208, 3) := by decide +kernel
theorem d_S_certificate_115 : decode b_S_certificate 115 = .ok (.ireturn, 1) := by decide +kernel
theorem d_S_certificate_116 : decode b_S_certificate 116 = .ok (.aload 4, 2) := by decide +kernel
theorem d_S_certificate_118 : decode b_S_certificate 118 = .ok (.getfield 211, 3) := by decide +kernel
theorem d_S_certificate_121 : decode b_S_certificate 121 = .ok (.ireturn, 1) := by decide +kernel
theorem d_S_certificate_122 : decode b_S_certificate 122 = .ok (.aload 4, 2) := by decide +kernel
theorem d_S_certificate_124 : decode b_S_certificate 124 = .ok (.getfield 214, 3) := by decide +kernel
theorem d_S_certificate_127 : decode b_S_certificate 127 = .ok (.ireturn, 1) := by decide +kernel
theorem d_S_certificate_128 : decode b_S_certificate 128 = .ok (.aload_n 0, 1) := by decide +kernel
theorem d_S_certificate_129 : decode b_S_certificate 129 = .ok (.aload 4, 2) := by decide +kernel
theorem d_S_certificate_131 : decode b_S_certificate 131 = .ok (.invokevirtual 217, 3) := by decide +kernel
theorem d_S_certificate_134 : decode b_S_certificate 134 = .ok (.invokestatic 221, 3) := by decide +kernel
theorem d_S_certificate_137 : decode b_S_certificate 137 = .ok (.ireturn, 1) := by decide +kernel
theorem d_S_count_0 : decode b_S_count 0 = .ok (.iload_n 1, 1) := by decide +kernel
theorem d_S_count_1 : decode b_S_count 1 = .ok (.tableswitch 135 0 10 #[59, 67, 72, 77, 85, 93, 101, 112, 120, 125, 130], 59) := by decide +kernel
theorem d_S_count_60 : decode b_S_count 60 = .ok (.aload_n 0, 1) := by decide +kernel
theorem d_S_count_61 : decode b_S_count 61 = .ok (.getfield 87, 3) := by decide +kernel
theorem d_S_count_64 : decode b_S_count 64 = .ok (.invokestatic 221, 3) := by decide +kernel
theorem d_S_count_67 : decode b_S_count 67 = .ok (.ireturn, 1) := by decide +kernel
theorem d_S_count_68 : decode b_S_count 68 = .ok (.aload_n 0, 1) := by decide +kernel
theorem d_S_count_69 : decode b_S_count 69 = .ok (.getfield 37, 3) := by decide +kernel
theorem d_S_count_72 : decode b_S_count 72 = .ok (.ireturn, 1) := by decide +kernel
theorem d_S_count_73 : decode b_S_count 73 = .ok (.aload_n 0, 1) := by decide +kernel
theorem d_S_count_74 : decode b_S_count 74 = .ok (.getfield 47, 3) := by decide +kernel
theorem d_S_count_77 : decode b_S_count 77 = .ok (.ireturn, 1) := by decide +kernel
theorem d_S_count_78 : decode b_S_count 78 = .ok (.aload_n 0, 1) := by decide +kernel
theorem d_S_count_79 : decode b_S_count 79 = .ok (.invokevirtual 176, 3) := by decide +kernel
theorem d_S_count_82 : decode b_S_count 82 = .ok (.invokestatic 221, 3) := by decide +kernel
theorem d_S_count_85 : decode b_S_count 85 = .ok (.ireturn, 1) := by decide +kernel
theorem d_S_count_86 : decode b_S_count 86 = .ok (.aload_n 0, 1) := by decide +kernel
theorem d_S_count_87 : decode b_S_count 87 = .ok (.getfield 173, 3) := by decide +kernel
theorem d_S_count_90 : decode b_S_count 90 = .ok (.invokestatic 221, 3) := by decide +kernel
theorem d_S_count_93 : decode b_S_count 93 = .ok (.ireturn, 1) := by decide +kernel
theorem d_S_count_94 : decode b_S_count 94 = .ok (.aload_n 0, 1) := by decide +kernel
theorem d_S_count_95 : decode b_S_count 95 = .ok (.invokevirtual 225, 3) := by decide +kernel
theorem d_S_count_98 : decode b_S_count 98 = .ok (.invokestatic 221, 3) := by decide +kernel
theorem d_S_count_101 : decode b_S_count 101 = .ok (.ireturn, 1) := by decide +kernel
theorem d_S_count_102 : decode b_S_count 102 = .ok (.aload_n 0, 1) := by decide +kernel
theorem d_S_count_103 : decode b_S_count 103 = .ok (.getfield 33, 3) := by decide +kernel
theorem d_S_count_106 : decode b_S_count 106 = .ok (.getfield 228, 3) := by decide +kernel
theorem d_S_count_109 : decode b_S_count 109 = .ok (.invokestatic 221, 3) := by decide +kernel
theorem d_S_count_112 : decode b_S_count 112 = .ok (.ireturn, 1) := by decide +kernel
theorem d_S_count_113 : decode b_S_count 113 = .ok (.aload_n 0, 1) := by decide +kernel
theorem d_S_count_114 : decode b_S_count 114 = .ok (.getfield 33, 3) := by decide +kernel
theorem d_S_count_117 : decode b_S_count 117 = .ok (.getfield 164, 3) := by decide +kernel
theorem d_S_count_120 : decode b_S_count 120 = .ok (.ireturn, 1) := by decide +kernel
theorem d_S_count_121 : decode b_S_count 121 = .ok (.aload_n 0, 1) := by decide +kernel
theorem d_S_count_122 : decode b_S_count 122 = .ok (.getfield 101, 3) := by decide +kernel
theorem d_S_count_125 : decode b_S_count 125 = .ok (.ireturn, 1) := by decide +kernel
theorem d_S_count_126 : decode b_S_count 126 = .ok (.aload_n 0, 1) := by decide +kernel
theorem d_S_count_127 : decode b_S_count 127 = .ok (.getfield 41, 3) := by decide +kernel
theorem d_S_count_130 : decode b_S_count 130 = .ok (.ireturn, 1) := by decide +kernel
theorem d_S_count_131 : decode b_S_count 131 = .ok (.aload_n 0, 1) := by decide +kernel
theorem d_S_count_132 : decode b_S_count 132 = .ok (.getfield 44, 3) := by decide +kernel
theorem d_S_count_135 : decode b_S_count 135 = .ok (.ireturn, 1) := by decide +kernel
theorem d_S_count_136 : decode b_S_count 136 = .ok (.new 54, 3) := by decide +kernel
theorem d_S_count_139 : decode b_S_count 139 = .ok (.dup, 1) := by decide +kernel
theorem d_S_count_140 : decode b_S_count 140 = .ok (.invokespecial 56, 3) := by decide +kernel
theorem d_S_count_143 : decode b_S_count 143 = .ok (.athrow, 1) := by decide +kernel
theorem d_S_isWithin_0 : decode b_S_isWithin 0 = .ok (.iload_n 0, 1) := by decide +kernel
theorem d_S_isWithin_1 : decode b_S_isWithin 1 = .ok (.iload_n 1, 1) := by decide +kernel
theorem d_S_isWithin_2 : decode b_S_isWithin 2 = .ok (.if_icmp .lt 12, 3) := by decide +kernel
theorem d_S_isWithin_5 : decode b_S_isWithin 5 = .ok (.iload_n 0, 1) := by decide +kernel
theorem d_S_isWithin_6 : decode b_S_isWithin 6 = .ok (.iload_n 2, 1) := by decide +kernel
theorem d_S_isWithin_7 : decode b_S_isWithin 7 = .ok (.if_icmp .gt 7, 3) := by decide +kernel
theorem d_S_isWithin_10 : decode b_S_isWithin 10 = .ok (.iconst 1, 1) := by decide +kernel
theorem d_S_isWithin_11 : decode b_S_isWithin 11 = .ok (.goto 4, 3) := by decide +kernel
theorem d_S_isWithin_14 : decode b_S_isWithin 14 = .ok (.iconst 0, 1) := by decide +kernel
theorem d_S_isWithin_15 : decode b_S_isWithin 15 = .ok (.ireturn, 1) := by decide +kernel
theorem d_S_asNumber_0 : decode b_S_asNumber 0 = .ok (.iload_n 0, 1) := by decide +kernel
theorem d_S_asNumber_1 : decode b_S_asNumber 1 = .ok (.ifCond .eq 7, 3) := by decide +kernel
theorem d_S_asNumber_4 : decode b_S_asNumber 4 = .ok (.iconst 1, 1) := by decide +kernel
theorem d_S_asNumber_5 : decode b_S_asNumber 5 = .ok (.goto 4, 3) := by decide +kernel
theorem d_S_asNumber_8 : decode b_S_asNumber 8 = .ok (.iconst 0, 1) := by decide +kernel
theorem d_S_asNumber_9 : decode b_S_asNumber 9 = .ok (.ireturn, 1) := by decide +kernel
theorem d_S_areCertificateNumbers_0 : decode b_S_areCertificateNumbers 0 = .ok (.iload_n 0, 1) := by decide +kernel
theorem d_S_areCertificateNumbers_1 : decode b_S_areCertificateNumbers 1 = .ok (.iconst 0, 1) := by decide +kernel
theorem d_S_areCertificateNumbers_2 : decode b_S_areCertificateNumbers 2 = .ok (.iconst 3, 1) := by decide +kernel
theorem d_S_areCertificateNumbers_3 : decode b_S_areCertificateNumbers 3 = .ok (.invokestatic 69, 3) := by decide +kernel
theorem d_S_areCertificateNumbers_6 : decode b_S_areCertificateNumbers 6 = .ok (.ifCond .eq 59, 3) := by decide +kernel
theorem d_S_areCertificateNumbers_9 : decode b_S_areCertificateNumbers 9 = .ok (.iload_n 1, 1) := by decide +kernel
theorem d_S_areCertificateNumbers_10 : decode b_S_areCertificateNumbers 10 = .ok (.iconst 0, 1) := by decide +kernel
theorem d_S_areCertificateNumbers_11 : decode b_S_areCertificateNumbers 11 = .ok (.bipush 6, 2) := by decide +kernel
theorem d_S_areCertificateNumbers_13 : decode b_S_areCertificateNumbers 13 = .ok (.invokestatic 69, 3) := by decide +kernel
theorem d_S_areCertificateNumbers_16 : decode b_S_areCertificateNumbers 16 = .ok (.ifCond .eq 49, 3) := by decide +kernel
theorem d_S_areCertificateNumbers_19 : decode b_S_areCertificateNumbers 19 = .ok (.iload_n 2, 1) := by decide +kernel
theorem d_S_areCertificateNumbers_20 : decode b_S_areCertificateNumbers 20 = .ok (.iconst 0, 1) := by decide +kernel
theorem d_S_areCertificateNumbers_21 : decode b_S_areCertificateNumbers 21 = .ok (.bipush 99, 2) := by decide +kernel
theorem d_S_areCertificateNumbers_23 : decode b_S_areCertificateNumbers 23 = .ok (.invokestatic 69, 3) := by decide +kernel
theorem d_S_areCertificateNumbers_26 : decode b_S_areCertificateNumbers 26 = .ok (.ifCond .eq 39, 3) := by decide +kernel
theorem d_S_areCertificateNumbers_29 : decode b_S_areCertificateNumbers 29 = .ok (.iload_n 3, 1) := by decide +kernel
theorem d_S_areCertificateNumbers_30 : decode b_S_areCertificateNumbers 30 = .ok (.iconst 0, 1) := by decide +kernel
theorem d_S_areCertificateNumbers_31 : decode b_S_areCertificateNumbers 31 = .ok (.ldc 130, 2) := by decide +kernel
theorem d_S_areCertificateNumbers_33 : decode b_S_areCertificateNumbers 33 = .ok (.invokestatic 69, 3) := by decide +kernel
theorem d_S_areCertificateNumbers_36 : decode b_S_areCertificateNumbers 36 = .ok (.ifCond .eq 29, 3) := by decide +kernel
theorem d_S_areCertificateNumbers_39 : decode b_S_areCertificateNumbers 39 = .ok (.iload 4, 2) := by decide +kernel
theorem d_S_areCertificateNumbers_41 : decode b_S_areCertificateNumbers 41 = .ok (.iconst 0, 1) := by decide +kernel
theorem d_S_areCertificateNumbers_42 : decode b_S_areCertificateNumbers 42 = .ok (.ldc 183, 2) := by decide +kernel
theorem d_S_areCertificateNumbers_44 : decode b_S_areCertificateNumbers 44 = .ok (.invokestatic 69, 3) := by decide +kernel
theorem d_S_areCertificateNumbers_47 : decode b_S_areCertificateNumbers 47 = .ok (.ifCond .eq 18, 3) := by decide +kernel
theorem d_S_areCertificateNumbers_50 : decode b_S_areCertificateNumbers 50 = .ok (.iload 5, 2) := by decide +kernel
theorem d_S_areCertificateNumbers_52 : decode b_S_areCertificateNumbers 52 = .ok (.iconst 0, 1) := by decide +kernel
theorem d_S_areCertificateNumbers_53 : decode b_S_areCertificateNumbers 53 = .ok (.ldc 183, 2) := by decide +kernel
theorem d_S_areCertificateNumbers_55 : decode b_S_areCertificateNumbers 55 = .ok (.invokestatic 69, 3) := by decide +kernel
theorem d_S_areCertificateNumbers_58 : decode b_S_areCertificateNumbers 58 = .ok (.ifCond .eq 7, 3) := by decide +kernel
theorem d_S_areCertificateNumbers_61 : decode b_S_areCertificateNumbers 61 = .ok (.iconst 1, 1) := by decide +kernel
theorem d_S_areCertificateNumbers_62 : decode b_S_areCertificateNumbers 62 = .ok (.goto 4, 3) := by decide +kernel
theorem d_S_areCertificateNumbers_65 : decode b_S_areCertificateNumbers 65 = .ok (.iconst 0, 1) := by decide +kernel
theorem d_S_areCertificateNumbers_66 : decode b_S_areCertificateNumbers 66 = .ok (.ireturn, 1) := by decide +kernel
theorem d_S_requireToken_0 : decode b_S_requireToken 0 = .ok (.iload_n 0, 1) := by decide +kernel
theorem d_S_requireToken_1 : decode b_S_requireToken 1 = .ok (.iconst 0, 1) := by decide +kernel
theorem d_S_requireToken_2 : decode b_S_requireToken 2 = .ok (.iconst 5, 1) := by decide +kernel
theorem d_S_requireToken_3 : decode b_S_requireToken 3 = .ok (.invokestatic 69, 3) := by decide +kernel
theorem d_S_requireToken_6 : decode b_S_requireToken 6 = .ok (.ifCond .ne 11, 3) := by decide +kernel
theorem d_S_requireToken_9 : decode b_S_requireToken 9 = .ok (.new 190, 3) := by decide +kernel
theorem d_S_requireToken_12 : decode b_S_requireToken 12 = .ok (.dup, 1) := by decide +kernel
theorem d_S_requireToken_13 : decode b_S_requireToken 13 = .ok (.invokespecial 192, 3) := by decide +kernel
theorem d_S_requireToken_16 : decode b_S_requireToken 16 = .ok (.athrow, 1) := by decide +kernel
theorem d_S_requireToken_17 : decode b_S_requireToken 17 = .ok (.return_, 1) := by decide +kernel
theorem d_S_requireEmpty_0 : decode b_S_requireEmpty 0 = .ok (.iload_n 0, 1) := by decide +kernel
theorem d_S_requireEmpty_1 : decode b_S_requireEmpty 1 = .ok (.iconst (-1), 1) := by decide +kernel
theorem d_S_requireEmpty_2 : decode b_S_requireEmpty 2 = .ok (.if_icmp .eq 11, 3) := by decide +kernel
theorem d_S_requireEmpty_5 : decode b_S_requireEmpty 5 = .ok (.new 91, 3) := by decide +kernel
theorem d_S_requireEmpty_8 : decode b_S_requireEmpty 8 = .ok (.dup, 1) := by decide +kernel
theorem d_S_requireEmpty_9 : decode b_S_requireEmpty 9 = .ok (.invokespecial 93, 3) := by decide +kernel
theorem d_S_requireEmpty_12 : decode b_S_requireEmpty 12 = .ok (.athrow, 1) := by decide +kernel
theorem d_S_requireEmpty_13 : decode b_S_requireEmpty 13 = .ok (.return_, 1) := by decide +kernel
theorem d_S_requireFilled_0 : decode b_S_requireFilled 0 = .ok (.iload_n 0, 1) := by decide +kernel
theorem d_S_requireFilled_1 : decode b_S_requireFilled 1 = .ok (.iconst (-1), 1) := by decide +kernel
theorem d_S_requireFilled_2 : decode b_S_requireFilled 2 = .ok (.if_icmp .ne 11, 3) := by decide +kernel
theorem d_S_requireFilled_5 : decode b_S_requireFilled 5 = .ok (.new 91, 3) := by decide +kernel
theorem d_S_requireFilled_8 : decode b_S_requireFilled 8 = .ok (.dup, 1) := by decide +kernel
theorem d_S_requireFilled_9 : decode b_S_requireFilled 9 = .ok (.invokespecial 93, 3) := by decide +kernel
theorem d_S_requireFilled_12 : decode b_S_requireFilled 12 = .ok (.athrow, 1) := by decide +kernel
theorem d_S_requireFilled_13 : decode b_S_requireFilled 13 = .ok (.return_, 1) := by decide +kernel
theorem d_S_requireInNoReader_0 : decode b_S_requireInNoReader 0 = .ok (.iload_n 1, 1) := by decide +kernel
theorem d_S_requireInNoReader_1 : decode b_S_requireInNoReader 1 = .ok (.aload_n 0, 1) := by decide +kernel
theorem d_S_requireInNoReader_2 : decode b_S_requireInNoReader 2 = .ok (.getfield 41, 3) := by decide +kernel
theorem d_S_requireInNoReader_5 : decode b_S_requireInNoReader 5 = .ok (.if_icmp .eq 11, 3) := by decide +kernel
theorem d_S_requireInNoReader_8 : decode b_S_requireInNoReader 8 = .ok (.iload_n 1, 1) := by decide +kernel
theorem d_S_requireInNoReader_9 : decode b_S_requireInNoReader 9 = .ok (.aload_n 0, 1) := by decide +kernel
theorem d_S_requireInNoReader_10 : decode b_S_requireInNoReader 10 = .ok (.getfield 44, 3) := by decide +kernel
theorem d_S_requireInNoReader_13 : decode b_S_requireInNoReader 13 = .ok (.if_icmp .ne 11, 3) := by decide +kernel
theorem d_S_requireInNoReader_16 : decode b_S_requireInNoReader 16 = .ok (.new 91, 3) := by decide +kernel
theorem d_S_requireInNoReader_19 : decode b_S_requireInNoReader 19 = .ok (.dup, 1) := by decide +kernel
theorem d_S_requireInNoReader_20 : decode b_S_requireInNoReader 20 = .ok (.invokespecial 93, 3) := by decide +kernel
theorem d_S_requireInNoReader_23 : decode b_S_requireInNoReader 23 = .ok (.athrow, 1) := by decide +kernel
theorem d_S_requireInNoReader_24 : decode b_S_requireInNoReader 24 = .ok (.return_, 1) := by decide +kernel
theorem d_S_requireUp_0 : decode b_S_requireUp 0 = .ok (.aload_n 0, 1) := by decide +kernel
theorem d_S_requireUp_1 : decode b_S_requireUp 1 = .ok (.getfield 87, 3) := by decide +kernel
theorem d_S_requireUp_4 : decode b_S_requireUp 4 = .ok (.ifCond .ne 11, 3) := by decide +kernel
theorem d_S_requireUp_7 : decode b_S_requireUp 7 = .ok (.new 91, 3) := by decide +kernel
theorem d_S_requireUp_10 : decode b_S_requireUp 10 = .ok (.dup, 1) := by decide +kernel
theorem d_S_requireUp_11 : decode b_S_requireUp 11 = .ok (.invokespecial 93, 3) := by decide +kernel
theorem d_S_requireUp_14 : decode b_S_requireUp 14 = .ok (.athrow, 1) := by decide +kernel
theorem d_S_requireUp_15 : decode b_S_requireUp 15 = .ok (.return_, 1) := by decide +kernel
theorem d_S_requireAdministrator_0 : decode b_S_requireAdministrator 0 = .ok (.aload_n 0, 1) := by decide +kernel
theorem d_S_requireAdministrator_1 : decode b_S_requireAdministrator 1 = .ok (.getfield 47, 3) := by decide +kernel
theorem d_S_requireAdministrator_4 : decode b_S_requireAdministrator 4 = .ok (.ifCond .ne 11, 3) := by decide +kernel
theorem d_S_requireAdministrator_7 : decode b_S_requireAdministrator 7 = .ok (.new 91, 3) := by decide +kernel
theorem d_S_requireAdministrator_10 : decode b_S_requireAdministrator 10 = .ok (.dup, 1) := by decide +kernel
theorem d_S_requireAdministrator_11 : decode b_S_requireAdministrator 11 = .ok (.invokespecial 93, 3) := by decide +kernel
theorem d_S_requireAdministrator_14 : decode b_S_requireAdministrator 14 = .ok (.athrow, 1) := by decide +kernel
theorem d_S_requireAdministrator_15 : decode b_S_requireAdministrator 15 = .ok (.return_, 1) := by decide +kernel
theorem d_S_requireRole_0 : decode b_S_requireRole 0 = .ok (.aload_n 0, 1) := by decide +kernel
theorem d_S_requireRole_1 : decode b_S_requireRole 1 = .ok (.getfield 47, 3) := by decide +kernel
theorem d_S_requireRole_4 : decode b_S_requireRole 4 = .ok (.iload_n 1, 1) := by decide +kernel
theorem d_S_requireRole_5 : decode b_S_requireRole 5 = .ok (.if_icmp .eq 11, 3) := by decide +kernel
theorem d_S_requireRole_8 : decode b_S_requireRole 8 = .ok (.new 231, 3) := by decide +kernel
theorem d_S_requireRole_11 : decode b_S_requireRole 11 = .ok (.dup, 1) := by decide +kernel
theorem d_S_requireRole_12 : decode b_S_requireRole 12 = .ok (.invokespecial 233, 3) := by decide +kernel
theorem d_S_requireRole_15 : decode b_S_requireRole 15 = .ok (.athrow, 1) := by decide +kernel
theorem d_S_requireRole_16 : decode b_S_requireRole 16 = .ok (.return_, 1) := by decide +kernel
theorem d_S_isEnrolled_0 : decode b_S_isEnrolled 0 = .ok (.aload_n 0, 1) := by decide +kernel
theorem d_S_isEnrolled_1 : decode b_S_isEnrolled 1 = .ok (.getfield 21, 3) := by decide +kernel
theorem d_S_isEnrolled_4 : decode b_S_isEnrolled 4 = .ok (.iload_n 1, 1) := by decide +kernel
theorem d_S_isEnrolled_5 : decode b_S_isEnrolled 5 = .ok (.iaload, 1) := by decide +kernel
theorem d_S_isEnrolled_6 : decode b_S_isEnrolled 6 = .ok (.ifCond .eq 7, 3) := by decide +kernel
theorem d_S_isEnrolled_9 : decode b_S_isEnrolled 9 = .ok (.iconst 1, 1) := by decide +kernel
theorem d_S_isEnrolled_10 : decode b_S_isEnrolled 10 = .ok (.goto 4, 3) := by decide +kernel
theorem d_S_isEnrolled_13 : decode b_S_isEnrolled 13 = .ok (.iconst 0, 1) := by decide +kernel
theorem d_S_isEnrolled_14 : decode b_S_isEnrolled 14 = .ok (.ireturn, 1) := by decide +kernel
theorem d_S_enrolledIssuers_0 : decode b_S_enrolledIssuers 0 = .ok (.iconst 0, 1) := by decide +kernel
theorem d_S_enrolledIssuers_1 : decode b_S_enrolledIssuers 1 = .ok (.istore_n 1, 1) := by decide +kernel
theorem d_S_enrolledIssuers_2 : decode b_S_enrolledIssuers 2 = .ok (.iconst 0, 1) := by decide +kernel
theorem d_S_enrolledIssuers_3 : decode b_S_enrolledIssuers 3 = .ok (.istore_n 2, 1) := by decide +kernel
theorem d_S_enrolledIssuers_4 : decode b_S_enrolledIssuers 4 = .ok (.iload_n 2, 1) := by decide +kernel
theorem d_S_enrolledIssuers_5 : decode b_S_enrolledIssuers 5 = .ok (.bipush 6, 2) := by decide +kernel
theorem d_S_enrolledIssuers_7 : decode b_S_enrolledIssuers 7 = .ok (.if_icmp .ge 20, 3) := by decide +kernel
theorem d_S_enrolledIssuers_10 : decode b_S_enrolledIssuers 10 = .ok (.aload_n 0, 1) := by decide +kernel
theorem d_S_enrolledIssuers_11 : decode b_S_enrolledIssuers 11 = .ok (.iload_n 2, 1) := by decide +kernel
theorem d_S_enrolledIssuers_12 : decode b_S_enrolledIssuers 12 = .ok (.invokevirtual 57, 3) := by decide +kernel
theorem d_S_enrolledIssuers_15 : decode b_S_enrolledIssuers 15 = .ok (.ifCond .eq 6, 3) := by decide +kernel
theorem d_S_enrolledIssuers_18 : decode b_S_enrolledIssuers 18 = .ok (.iinc 1 1, 3) := by decide +kernel
theorem d_S_enrolledIssuers_21 : decode b_S_enrolledIssuers 21 = .ok (.iinc 2 1, 3) := by decide +kernel
theorem d_S_enrolledIssuers_24 : decode b_S_enrolledIssuers 24 = .ok (.goto (-20), 3) := by decide +kernel
theorem d_S_enrolledIssuers_27 : decode b_S_enrolledIssuers 27 = .ok (.iload_n 1, 1) := by decide +kernel
theorem d_S_enrolledIssuers_28 : decode b_S_enrolledIssuers 28 = .ok (.ireturn, 1) := by decide +kernel
theorem d_S_rightSignature_0 : decode b_S_rightSignature 0 = .ok (.iload_n 1, 1) := by decide +kernel
theorem d_S_rightSignature_1 : decode b_S_rightSignature 1 = .ok (.bipush 100, 2) := by decide +kernel
theorem d_S_rightSignature_3 : decode b_S_rightSignature 3 = .ok (.imul, 1) := by decide +kernel
theorem d_S_rightSignature_4 : decode b_S_rightSignature 4 = .ok (.iload_n 3, 1) := by decide +kernel
theorem d_S_rightSignature_5 : decode b_S_rightSignature 5 = .ok (.iadd, 1) := by decide +kernel
theorem d_S_rightSignature_6 : decode b_S_rightSignature 6 = .ok (.ldc 234, 2) := by decide +kernel
theorem d_S_rightSignature_8 : decode b_S_rightSignature 8 = .ok (.imul, 1) := by decide +kernel
theorem d_S_rightSignature_9 : decode b_S_rightSignature 9 = .ok (.iload 4, 2) := by decide +kernel
theorem d_S_rightSignature_11 : decode b_S_rightSignature 11 = .ok (.iadd, 1) := by decide +kernel
theorem d_S_rightSignature_12 : decode b_S_rightSignature 12 = .ok (.sipush 9973, 3) := by decide +kernel
theorem d_S_rightSignature_15 : decode b_S_rightSignature 15 = .ok (.irem, 1) := by decide +kernel
theorem d_S_rightSignature_16 : decode b_S_rightSignature 16 = .ok (.iload 5, 2) := by decide +kernel
theorem d_S_rightSignature_18 : decode b_S_rightSignature 18 = .ok (.bipush 31, 2) := by decide +kernel
theorem d_S_rightSignature_20 : decode b_S_rightSignature 20 = .ok (.imul, 1) := by decide +kernel
theorem d_S_rightSignature_21 : decode b_S_rightSignature 21 = .ok (.iadd, 1) := by decide +kernel
theorem d_S_rightSignature_22 : decode b_S_rightSignature 22 = .ok (.iload 6, 2) := by decide +kernel
theorem d_S_rightSignature_24 : decode b_S_rightSignature 24 = .ok (.bipush 37, 2) := by decide +kernel
theorem d_S_rightSignature_26 : decode b_S_rightSignature 26 = .ok (.imul, 1) := by decide +kernel
theorem d_S_rightSignature_27 : decode b_S_rightSignature 27 = .ok (.iadd, 1) := by decide +kernel
theorem d_S_rightSignature_28 : decode b_S_rightSignature 28 = .ok (.iconst 1, 1) := by decide +kernel
theorem d_S_rightSignature_29 : decode b_S_rightSignature 29 = .ok (.iadd, 1) := by decide +kernel
theorem d_S_rightSignature_30 : decode b_S_rightSignature 30 = .ok (.istore 7, 2) := by decide +kernel
theorem d_S_rightSignature_32 : decode b_S_rightSignature 32 = .ok (.iload 7, 2) := by decide +kernel
theorem d_S_rightSignature_34 : decode b_S_rightSignature 34 = .ok (.i2l, 1) := by decide +kernel
theorem d_S_rightSignature_35 : decode b_S_rightSignature 35 = .ok (.aload_n 0, 1) := by decide +kernel
theorem d_S_rightSignature_36 : decode b_S_rightSignature 36 = .ok (.getfield 21, 3) := by decide +kernel
theorem d_S_rightSignature_39 : decode b_S_rightSignature 39 = .ok (.iload_n 2, 1) := by decide +kernel
theorem d_S_rightSignature_40 : decode b_S_rightSignature 40 = .ok (.iaload, 1) := by decide +kernel
theorem d_S_rightSignature_41 : decode b_S_rightSignature 41 = .ok (.i2l, 1) := by decide +kernel
theorem d_S_rightSignature_42 : decode b_S_rightSignature 42 = .ok (.lmul, 1) := by decide +kernel
theorem d_S_rightSignature_43 : decode b_S_rightSignature 43 = .ok (.ldc2_w 235, 3) := by decide +kernel
theorem d_S_rightSignature_46 : decode b_S_rightSignature 46 = .ok (.lrem, 1) := by decide +kernel
theorem d_S_rightSignature_47 : decode b_S_rightSignature 47 = .ok (.l2i, 1) := by decide +kernel
theorem d_S_rightSignature_48 : decode b_S_rightSignature 48 = .ok (.ireturn, 1) := by decide +kernel
theorem d_S_certificateOf_0 : decode b_S_certificateOf 0 = .ok (.iload_n 1, 1) := by decide +kernel
theorem d_S_certificateOf_1 : decode b_S_certificateOf 1 = .ok (.iconst (-1), 1) := by decide +kernel
theorem d_S_certificateOf_2 : decode b_S_certificateOf 2 = .ok (.if_icmp .ne 7, 3) := by decide +kernel
theorem d_S_certificateOf_5 : decode b_S_certificateOf 5 = .ok (.aconst_null, 1) := by decide +kernel
theorem d_S_certificateOf_6 : decode b_S_certificateOf 6 = .ok (.goto 13, 3) := by decide +kernel
theorem d_S_certificateOf_9 : decode b_S_certificateOf 9 = .ok (.aload_n 0, 1) := by decide +kernel
theorem d_S_certificateOf_10 : decode b_S_certificateOf 10 = .ok (.getfield 26, 3) := by decide +kernel
theorem d_S_certificateOf_13 : decode b_S_certificateOf 13 = .ok (.iload_n 1, 1) := by decide +kernel
theorem d_S_certificateOf_14 : decode b_S_certificateOf 14 = .ok (.iconst 4, 1) := by decide +kernel
theorem d_S_certificateOf_15 : decode b_S_certificateOf 15 = .ok (.imul, 1) := by decide +kernel
theorem d_S_certificateOf_16 : decode b_S_certificateOf 16 = .ok (.iload_n 2, 1) := by decide +kernel
theorem d_S_certificateOf_17 : decode b_S_certificateOf 17 = .ok (.iadd, 1) := by decide +kernel
theorem d_S_certificateOf_18 : decode b_S_certificateOf 18 = .ok (.aaload, 1) := by decide +kernel
theorem d_S_certificateOf_19 : decode b_S_certificateOf 19 = .ok (.areturn, 1) := by decide +kernel
theorem d_S_give_0 : decode b_S_give 0 = .ok (.aload_n 0, 1) := by decide +kernel
theorem d_S_give_1 : decode b_S_give 1 = .ok (.getfield 26, 3) := by decide +kernel
theorem d_S_give_4 : decode b_S_give 4 = .ok (.iload_n 1, 1) := by decide +kernel
theorem d_S_give_5 : decode b_S_give 5 = .ok (.iconst 4, 1) := by decide +kernel
theorem d_S_give_6 : decode b_S_give 6 = .ok (.imul, 1) := by decide +kernel
theorem d_S_give_7 : decode b_S_give 7 = .ok (.aload_n 2, 1) := by decide +kernel
theorem d_S_give_8 : decode b_S_give 8 = .ok (.getfield 237, 3) := by decide +kernel
theorem d_S_give_11 : decode b_S_give 11 = .ok (.iadd, 1) := by decide +kernel
theorem d_S_give_12 : decode b_S_give 12 = .ok (.aload_n 2, 1) := by decide +kernel
theorem d_S_give_13 : decode b_S_give 13 = .ok (.aastore, 1) := by decide +kernel
theorem d_S_give_14 : decode b_S_give 14 = .ok (.return_, 1) := by decide +kernel
theorem d_S_isValid_0 : decode b_S_isValid 0 = .ok (.aload_n 1, 1) := by decide +kernel
theorem d_S_isValid_1 : decode b_S_isValid 1 = .ok (.ifnull 78, 3) := by decide +kernel
theorem d_S_isValid_4 : decode b_S_isValid 4 = .ok (.aload_n 0, 1) := by decide +kernel
theorem d_S_isValid_5 : decode b_S_isValid 5 = .ok (.aload_n 1, 1) := by decide +kernel
theorem d_S_isValid_6 : decode b_S_isValid 6 = .ok (.getfield 202, 3) := by decide +kernel
theorem d_S_isValid_9 : decode b_S_isValid 9 = .ok (.invokevirtual 57, 3) := by decide +kernel
theorem d_S_isValid_12 : decode b_S_isValid 12 = .ok (.ifCond .eq 67, 3) := by decide +kernel
theorem d_S_isValid_15 : decode b_S_isValid 15 = .ok (.aload_n 0, 1) := by decide +kernel
theorem d_S_isValid_16 : decode b_S_isValid 16 = .ok (.getfield 101, 3) := by decide +kernel
theorem d_S_isValid_19 : decode b_S_isValid 19 = .ok (.aload_n 1, 1) := by decide +kernel
theorem d_S_isValid_20 : decode b_S_isValid 20 = .ok (.getfield 208, 3) := by decide +kernel
theorem d_S_isValid_23 : decode b_S_isValid 23 = .ok (.aload_n 1, 1) := by decide +kernel
theorem d_S_isValid_24 : decode b_S_isValid 24 = .ok (.getfield 211, 3) := by decide +kernel
theorem d_S_isValid_27 : decode b_S_isValid 27 = .ok (.invokestatic 69, 3) := by decide +kernel
theorem d_S_isValid_30 : decode b_S_isValid 30 = .ok (.ifCond .eq 49, 3) := by decide +kernel
theorem d_S_isValid_33 : decode b_S_isValid 33 = .ok (.aload_n 1, 1) := by decide +kernel
theorem d_S_isValid_34 : decode b_S_isValid 34 = .ok (.invokevirtual 240, 3) := by decide +kernel
theorem d_S_isValid_37 : decode b_S_isValid 37 = .ok (.ifCond .eq 42, 3) := by decide +kernel
theorem d_S_isValid_40 : decode b_S_isValid 40 = .ok (.aload_n 1, 1) := by decide +kernel
theorem d_S_isValid_41 : decode b_S_isValid 41 = .ok (.getfield 214, 3) := by decide +kernel
theorem d_S_isValid_44 : decode b_S_isValid 44 = .ok (.aload_n 0, 1) := by decide +kernel
theorem d_S_isValid_45 : decode b_S_isValid 45 = .ok (.aload_n 1, 1) := by decide +kernel
theorem d_S_isValid_46 : decode b_S_isValid 46 = .ok (.getfield 237, 3) := by decide +kernel
theorem d_S_isValid_49 : decode b_S_isValid 49 = .ok (.aload_n 1, 1) := by decide +kernel
theorem d_S_isValid_50 : decode b_S_isValid 50 = .ok (.getfield 202, 3) := by decide +kernel
theorem d_S_isValid_53 : decode b_S_isValid 53 = .ok (.aload_n 1, 1) := by decide +kernel
theorem d_S_isValid_54 : decode b_S_isValid 54 = .ok (.getfield 205, 3) := by decide +kernel
theorem d_S_isValid_57 : decode b_S_isValid 57 = .ok (.aload_n 1, 1) := by decide +kernel
theorem d_S_isValid_58 : decode b_S_isValid 58 = .ok (.getfield 131, 3) := by decide +kernel
theorem d_S_isValid_61 : decode b_S_isValid 61 = .ok (.aload_n 1, 1) := by decide +kernel
theorem d_S_isValid_62 : decode b_S_isValid 62 = .ok (.getfield 208, 3) := by decide +kernel
theorem d_S_isValid_65 : decode b_S_isValid 65 = .ok (.aload_n 1, 1) := by decide +kernel
theorem d_S_isValid_66 : decode b_S_isValid 66 = .ok (.getfield 211, 3) := by decide +kernel
theorem d_S_isValid_69 : decode b_S_isValid 69 = .ok (.invokevirtual 61, 3) := by decide +kernel
theorem d_S_isValid_72 : decode b_S_isValid 72 = .ok (.if_icmp .ne 7, 3) := by decide +kernel
theorem d_S_isValid_75 : decode b_S_isValid 75 = .ok (.iconst 1, 1) := by decide +kernel
theorem d_S_isValid_76 : decode b_S_isValid 76 = .ok (.goto 4, 3) := by decide +kernel
theorem d_S_isValid_79 : decode b_S_isValid 79 = .ok (.iconst 0, 1) := by decide +kernel
theorem d_S_isValid_80 : decode b_S_isValid 80 = .ok (.ireturn, 1) := by decide +kernel
theorem d_S_isGood_0 : decode b_S_isGood 0 = .ok (.aload_n 0, 1) := by decide +kernel
theorem d_S_isGood_1 : decode b_S_isGood 1 = .ok (.iload_n 1, 1) := by decide +kernel
theorem d_S_isGood_2 : decode b_S_isGood 2 = .ok (.iconst 1, 1) := by decide +kernel
theorem d_S_isGood_3 : decode b_S_isGood 3 = .ok (.invokevirtual 243, 3) := by decide +kernel
theorem d_S_isGood_6 : decode b_S_isGood 6 = .ok (.ifCond .eq 16, 3) := by decide +kernel
theorem d_S_isGood_9 : decode b_S_isGood 9 = .ok (.aload_n 0, 1) := by decide +kernel
theorem d_S_isGood_10 : decode b_S_isGood 10 = .ok (.iload_n 1, 1) := by decide +kernel
theorem d_S_isGood_11 : decode b_S_isGood 11 = .ok (.iconst 2, 1) := by decide +kernel
theorem d_S_isGood_12 : decode b_S_isGood 12 = .ok (.invokevirtual 243, 3) := by decide +kernel
theorem d_S_isGood_15 : decode b_S_isGood 15 = .ok (.ifCond .eq 7, 3) := by decide +kernel
theorem d_S_isGood_18 : decode b_S_isGood 18 = .ok (.iconst 1, 1) := by decide +kernel
theorem d_S_isGood_19 : decode b_S_isGood 19 = .ok (.goto 4, 3) := by decide +kernel
theorem d_S_isGood_22 : decode b_S_isGood 22 = .ok (.iconst 0, 1) := by decide +kernel
theorem d_S_isGood_23 : decode b_S_isGood 23 = .ok (.ireturn, 1) := by decide +kernel
theorem d_S_isAuthorised_0 : decode b_S_isAuthorised 0 = .ok (.aload_n 0, 1) := by decide +kernel
theorem d_S_isAuthorised_1 : decode b_S_isAuthorised 1 = .ok (.iload_n 1, 1) := by decide +kernel
theorem d_S_isAuthorised_2 : decode b_S_isAuthorised 2 = .ok (.iconst 3, 1) := by decide +kernel
theorem d_S_isAuthorised_3 : decode b_S_isAuthorised 3 = .ok (.invokevirtual 243, 3) := by decide +kernel
theorem d_S_isAuthorised_6 : decode b_S_isAuthorised 6 = .ok (.ireturn, 1) := by decide +kernel
theorem d_S_isValidForIdHolder_0 : decode b_S_isValidForIdHolder 0 = .ok (.aload_n 0, 1) := by decide +kernel
theorem d_S_isValidForIdHolder_1 : decode b_S_isValidForIdHolder 1 = .ok (.iload_n 1, 1) := by decide +kernel
theorem d_S_isValidForIdHolder_2 : decode b_S_isValidForIdHolder 2 = .ok (.iconst 0, 1) := by decide +kernel
theorem d_S_isValidForIdHolder_3 : decode b_S_isValidForIdHolder 3 = .ok (.invokevirtual 76, 3) := by decide +kernel
theorem d_S_isValidForIdHolder_6 : decode b_S_isValidForIdHolder 6 = .ok (.astore_n 3, 1) := by decide +kernel
theorem d_S_isValidForIdHolder_7 : decode b_S_isValidForIdHolder 7 = .ok (.aload_n 0, 1) := by decide +kernel
theorem d_S_isValidForIdHolder_8 : decode b_S_isValidForIdHolder 8 = .ok (.iload_n 1, 1) := by decide +kernel
theorem d_S_isValidForIdHolder_9 : decode b_S_isValidForIdHolder 9 = .ok (.iload_n 2, 1) := by decide +kernel
theorem d_S_isValidForIdHolder_10 : decode b_S_isValidForIdHolder 10 = .ok (.invokevirtual 76, 3) := by decide +kernel
theorem d_S_isValidForIdHolder_13 : decode b_S_isValidForIdHolder 13 = .ok (.astore 4, 2) := by decide +kernel
theorem d_S_isValidForIdHolder_15 : decode b_S_isValidForIdHolder 15 = .ok (.aload_n 3, 1) := by decide +kernel
theorem d_S_isValidForIdHolder_16 : decode b_S_isValidForIdHolder 16 = .ok (.ifnull 41, 3) := by decide +kernel
theorem d_S_isValidForIdHolder_19 : decode b_S_isValidForIdHolder 19 = .ok (.aload 4, 2) := by decide +kernel
theorem d_S_isValidForIdHolder_21 : decode b_S_isValidForIdHolder 21 = .ok (.ifnull 36, 3) := by decide +kernel
theorem d_S_isValidForIdHolder_24 : decode b_S_isValidForIdHolder 24 = .ok (.aload_n 3, 1) := by decide +kernel
theorem d_S_isValidForIdHolder_25 : decode b_S_isValidForIdHolder 25 = .ok (.getfield 205, 3) := by decide +kernel
theorem d_S_isValidForIdHolder_28 : decode b_S_isValidForIdHolder 28 = .ok (.aload 4, 2) := by decide +kernel
theorem d_S_isValidForIdHolder_30 : decode b_S_isValidForIdHolder 30 = .ok (.getfield 205, 3) := by decide +kernel
theorem d_S_isValidForIdHolder_33 : decode b_S_isValidForIdHolder 33 = .ok (.if_icmp .ne 24, 3) := by decide +kernel
theorem d_S_isValidForIdHolder_36 : decode b_S_isValidForIdHolder 36 = .ok (.aload_n 0, 1) := by decide +kernel
theorem d_S_isValidForIdHolder_37 : decode b_S_isValidForIdHolder 37 = .ok (.aload_n 3, 1) := by decide +kernel
theorem d_S_isValidForIdHolder_38 : decode b_S_isValidForIdHolder 38 = .ok (.invokevirtual 217, 3) := by decide +kernel
theorem d_S_isValidForIdHolder_41 : decode b_S_isValidForIdHolder 41 = .ok (.ifCond .eq 16, 3) := by decide +kernel
theorem d_S_isValidForIdHolder_44 : decode b_S_isValidForIdHolder 44 = .ok (.aload_n 0, 1) := by decide +kernel
theorem d_S_isValidForIdHolder_45 : decode b_S_isValidForIdHolder 45 = .ok (.aload 4, 2) := by decide +kernel
theorem d_S_isValidForIdHolder_47 : decode b_S_isValidForIdHolder 47 = .ok (.invokevirtual 217, 3) := by decide +kernel
theorem d_S_isValidForIdHolder_50 : decode b_S_isValidForIdHolder 50 = .ok (.ifCond .eq 7, 3) := by decide +kernel
theorem d_S_isValidForIdHolder_53 : decode b_S_isValidForIdHolder 53 = .ok (.iconst 1, 1) := by decide +kernel
theorem d_S_isValidForIdHolder_54 : decode b_S_isValidForIdHolder 54 = .ok (.goto 4, 3) := by decide +kernel
theorem d_S_isValidForIdHolder_57 : decode b_S_isValidForIdHolder 57 = .ok (.iconst 0, 1) := by decide +kernel
theorem d_S_isValidForIdHolder_58 : decode b_S_isValidForIdHolder 58 = .ok (.ireturn, 1) := by decide +kernel
theorem d_S_authorisedRole_0 : decode b_S_authorisedRole 0 = .ok (.aload_n 0, 1) := by decide +kernel
theorem d_S_authorisedRole_1 : decode b_S_authorisedRole 1 = .ok (.iload_n 1, 1) := by decide +kernel
theorem d_S_authorisedRole_2 : decode b_S_authorisedRole 2 = .ok (.iconst 3, 1) := by decide +kernel
theorem d_S_authorisedRole_3 : decode b_S_authorisedRole 3 = .ok (.invokevirtual 76, 3) := by decide +kernel
theorem d_S_authorisedRole_6 : decode b_S_authorisedRole 6 = .ok (.astore_n 2, 1) := by decide +kernel
theorem d_S_authorisedRole_7 : decode b_S_authorisedRole 7 = .ok (.aload_n 2, 1) := by decide +kernel
theorem d_S_authorisedRole_8 : decode b_S_authorisedRole 8 = .ok (.ifnonnull 7, 3) := by decide +kernel
theorem d_S_authorisedRole_11 : decode b_S_authorisedRole 11 = .ok (.iconst 0, 1) := by decide +kernel
theorem d_S_authorisedRole_12 : decode b_S_authorisedRole 12 = .ok (.goto 7, 3) := by decide +kernel
theorem d_S_authorisedRole_15 : decode b_S_authorisedRole 15 = .ok (.aload_n 2, 1) := by decide +kernel
theorem d_S_authorisedRole_16 : decode b_S_authorisedRole 16 = .ok (.invokevirtual 246, 3) := by decide +kernel
theorem d_S_authorisedRole_19 : decode b_S_authorisedRole 19 = .ok (.ireturn, 1) := by decide +kernel
theorem d_S_matches_0 : decode b_S_matches 0 = .ok (.iload_n 1, 1) := by decide +kernel
theorem d_S_matches_1 : decode b_S_matches 1 = .ok (.iload_n 2, 1) := by decide +kernel
theorem d_S_matches_2 : decode b_S_matches 2 = .ok (.ixor, 1) := by decide +kernel
theorem d_S_matches_3 : decode b_S_matches 3 = .ok (.invokestatic 249, 3) := by decide +kernel
theorem d_S_matches_6 : decode b_S_matches 6 = .ok (.aload_n 0, 1) := by decide +kernel
theorem d_S_matches_7 : decode b_S_matches 7 = .ok (.getfield 18, 3) := by decide +kernel
theorem d_S_matches_10 : decode b_S_matches 10 = .ok (.iconst 4, 1) := by decide +kernel
theorem d_S_matches_11 : decode b_S_matches 11 = .ok (.iaload, 1) := by decide +kernel
theorem d_S_matches_12 : decode b_S_matches 12 = .ok (.if_icmp .gt 7, 3) := by decide +kernel
theorem d_S_matches_15 : decode b_S_matches 15 = .ok (.iconst 1, 1) := by decide +kernel
theorem d_S_matches_16 : decode b_S_matches 16 = .ok (.goto 4, 3) := by decide +kernel
theorem d_S_matches_19 : decode b_S_matches 19 = .ok (.iconst 0, 1) := by decide +kernel
theorem d_S_matches_20 : decode b_S_matches 20 = .ok (.ireturn, 1) := by decide +kernel
theorem d_S_authorisationBy_0 : decode b_S_authorisationBy 0 = .ok (.iconst 3, 1) := by decide +kernel
theorem d_S_authorisationBy_1 : decode b_S_authorisationBy 1 = .ok (.istore_n 2, 1) := by decide +kernel
theorem d_S_authorisationBy_2 : decode b_S_authorisationBy 2 = .ok (.iconst 4, 1) := by decide +kernel
theorem d_S_authorisationBy_3 : decode b_S_authorisationBy 3 = .ok (.aload_n 1, 1) := by decide +kernel
theorem d_S_authorisationBy_4 : decode b_S_authorisationBy 4 = .ok (.invokevirtual 254, 3) := by decide +kernel
theorem d_S_authorisationBy_7 : decode b_S_authorisationBy 7 = .ok (.aload_n 0, 1) := by decide +kernel
theorem d_S_authorisationBy_8 : decode b_S_authorisationBy 8 = .ok (.getfield 18, 3) := by decide +kernel
theorem d_S_authorisationBy_11 : decode b_S_authorisationBy 11 = .ok (.iconst 5, 1) := by decide +kernel
theorem d_S_authorisationBy_12 : decode b_S_authorisationBy 12 = .ok (.iaload, 1) := by decide +kernel
theorem d_S_authorisationBy_13 : decode b_S_authorisationBy 13 = .ok (.invokestatic 257, 3) := by decide +kernel
theorem d_S_authorisationBy_16 : decode b_S_authorisationBy 16 = .ok (.imul, 1) := by decide +kernel
theorem d_S_authorisationBy_17 : decode b_S_authorisationBy 17 = .ok (.aload_n 1, 1) := by decide +kernel
theorem d_S_authorisationBy_18 : decode b_S_authorisationBy 18 = .ok (.invokevirtual 246, 3) := by decide +kernel
theorem d_S_authorisationBy_21 : decode b_S_authorisationBy 21 = .ok (.iadd, 1) := by decide +kernel
theorem d_S_authorisationBy_22 : decode b_S_authorisationBy 22 = .ok (.istore_n 3, 1) := by decide +kernel
theorem d_S_authorisationBy_23 : decode b_S_authorisationBy 23 = .ok (.aload_n 0, 1) := by decide +kernel
theorem d_S_authorisationBy_24 : decode b_S_authorisationBy 24 = .ok (.getfield 101, 3) := by decide +kernel
theorem d_S_authorisationBy_27 : decode b_S_authorisationBy 27 = .ok (.aload_n 0, 1) := by decide +kernel
theorem d_S_authorisationBy_28 : decode b_S_authorisationBy 28 = .ok (.getfield 18, 3) := by decide +kernel
theorem d_S_authorisationBy_31 : decode b_S_authorisationBy 31 = .ok (.iconst 3, 1) := by decide +kernel
theorem d_S_authorisationBy_32 : decode b_S_authorisationBy 32 = .ok (.iaload, 1) := by decide +kernel
theorem d_S_authorisationBy_33 : decode b_S_authorisationBy 33 = .ok (.iadd, 1) := by decide +kernel
theorem d_S_authorisationBy_34 : decode b_S_authorisationBy 34 = .ok (.ldc 183, 2) := by decide +kernel
theorem d_S_authorisationBy_36 : decode b_S_authorisationBy 36 = .ok (.invokestatic 257, 3) := by decide +kernel
theorem d_S_authorisationBy_39 : decode b_S_authorisationBy 39 = .ok (.istore 4, 2) := by decide +kernel
theorem d_S_authorisationBy_41 : decode b_S_authorisationBy 41 = .ok (.aload_n 0, 1) := by decide +kernel
theorem d_S_authorisationBy_42 : decode b_S_authorisationBy 42 = .ok (.iload_n 2, 1) := by decide +kernel
theorem d_S_authorisationBy_43 : decode b_S_authorisationBy 43 = .ok (.bipush 6, 2) := by decide +kernel
theorem d_S_authorisationBy_45 : decode b_S_authorisationBy 45 = .ok (.aload_n 1, 1) := by decide +kernel
theorem d_S_authorisationBy_46 : decode b_S_authorisationBy 46 = .ok (.getfield 205, 3) := by decide +kernel
theorem d_S_authorisationBy_49 : decode b_S_authorisationBy 49 = .ok (.iload_n 3, 1) := by decide +kernel
theorem d_S_authorisationBy_50 : decode b_S_authorisationBy 50 = .ok (.aload_n 0, 1) := by decide +kernel
theorem d_S_authorisationBy_51 : decode b_S_authorisationBy 51 = .ok (.getfield 101, 3) := by decide +kernel
theorem d_S_authorisationBy_54 : decode b_S_authorisationBy 54 = .ok (.iload 4, 2) := by decide +kernel
theorem d_S_authorisationBy_56 : decode b_S_authorisationBy 56 = .ok (.invokevirtual 61, 3) := by decide +kernel
theorem d_S_authorisationBy_59 : decode b_S_authorisationBy 59 = .ok (.istore 5, 2) := by decide +kernel
theorem d_S_authorisationBy_61 : decode b_S_authorisationBy 61 = .ok (.new 24, 3) := by decide +kernel
theorem d_S_authorisationBy_64 : decode b_S_authorisationBy 64 = .ok (.dup, 1) := by decide +kernel
theorem d_S_authorisationBy_65 : decode b_S_authorisationBy 65 = .ok (.iload_n 2, 1) := by decide +kernel
theorem d_S_authorisationBy_66 : decode b_S_authorisationBy 66 = .ok (.bipush 6, 2) := by decide +kernel
theorem d_S_authorisationBy_68 : decode b_S_authorisationBy 68 = .ok (.aload_n 1, 1) := by decide +kernel
theorem d_S_authorisationBy_69 : decode b_S_authorisationBy 69 = .ok (.getfield 205, 3) := by decide +kernel
theorem d_S_authorisationBy_72 : decode b_S_authorisationBy 72 = .ok (.iload_n 3, 1) := by decide +kernel
theorem d_S_authorisationBy_73 : decode b_S_authorisationBy 73 = .ok (.aload_n 0, 1) := by decide +kernel
theorem d_S_authorisationBy_74 : decode b_S_authorisationBy 74 = .ok (.getfield 101, 3) := by decide +kernel
theorem d_S_authorisationBy_77 : decode b_S_authorisationBy 77 = .ok (.iload 4, 2) := by decide +kernel
theorem d_S_authorisationBy_79 : decode b_S_authorisationBy 79 = .ok (.iload 5, 2) := by decide +kernel
theorem d_S_authorisationBy_81 : decode b_S_authorisationBy 81 = .ok (.invokespecial 80, 3) := by decide +kernel
theorem d_S_authorisationBy_84 : decode b_S_authorisationBy 84 = .ok (.areturn, 1) := by decide +kernel
theorem d_S_becomeUserState_0 : decode b_S_becomeUserState 0 = .ok (.aload_n 0, 1) := by decide +kernel
theorem d_S_becomeUserState_1 : decode b_S_becomeUserState 1 = .ok (.iload_n 1, 1) := by decide +kernel
theorem d_S_becomeUserState_2 : decode b_S_becomeUserState 2 = .ok (.putfield 37, 3) := by decide +kernel
theorem d_S_becomeUserState_5 : decode b_S_becomeUserState 5 = .ok (.aload_n 0, 1) := by decide +kernel
theorem d_S_becomeUserState_6 : decode b_S_becomeUserState 6 = .ok (.aload_n 0, 1) := by decide +kernel
theorem d_S_becomeUserState_7 : decode b_S_becomeUserState 7 = .ok (.getfield 101, 3) := by decide +kernel
theorem d_S_becomeUserState_10 : decode b_S_becomeUserState 10 = .ok (.putfield 263, 3) := by decide +kernel
theorem d_S_becomeUserState_13 : decode b_S_becomeUserState 13 = .ok (.return_, 1) := by decide +kernel
theorem d_S_allowEntry_0 : decode b_S_allowEntry 0 = .ok (.aload_n 0, 1) := by decide +kernel
theorem d_S_allowEntry_1 : decode b_S_allowEntry 1 = .ok (.iconst 2, 1) := by decide +kernel
theorem d_S_allowEntry_2 : decode b_S_allowEntry 2 = .ok (.invokevirtual 98, 3) := by decide +kernel
theorem d_S_allowEntry_5 : decode b_S_allowEntry 5 = .ok (.aload_n 0, 1) := by decide +kernel
theorem d_S_allowEntry_6 : decode b_S_allowEntry 6 = .ok (.aload_n 0, 1) := by decide +kernel
theorem d_S_allowEntry_7 : decode b_S_allowEntry 7 = .ok (.getfield 41, 3) := by decide +kernel
theorem d_S_allowEntry_10 : decode b_S_allowEntry 10 = .ok (.bipush 7, 2) := by decide +kernel
theorem d_S_allowEntry_12 : decode b_S_allowEntry 12 = .ok (.invokevirtual 114, 3) := by decide +kernel
theorem d_S_allowEntry_15 : decode b_S_allowEntry 15 = .ok (.return_, 1) := by decide +kernel
theorem d_S_turnAway_0 : decode b_S_turnAway 0 = .ok (.aload_n 0, 1) := by decide +kernel
theorem d_S_turnAway_1 : decode b_S_turnAway 1 = .ok (.iconst 3, 1) := by decide +kernel
theorem d_S_turnAway_2 : decode b_S_turnAway 2 = .ok (.invokevirtual 98, 3) := by decide +kernel
theorem d_S_turnAway_5 : decode b_S_turnAway 5 = .ok (.aload_n 0, 1) := by decide +kernel
theorem d_S_turnAway_6 : decode b_S_turnAway 6 = .ok (.aload_n 0, 1) := by decide +kernel
theorem d_S_turnAway_7 : decode b_S_turnAway 7 = .ok (.getfield 41, 3) := by decide +kernel
theorem d_S_turnAway_10 : decode b_S_turnAway 10 = .ok (.iload_n 1, 1) := by decide +kernel
theorem d_S_turnAway_11 : decode b_S_turnAway 11 = .ok (.invokevirtual 114, 3) := by decide +kernel
theorem d_S_turnAway_14 : decode b_S_turnAway 14 = .ok (.return_, 1) := by decide +kernel
theorem d_S_endWaitingInTime_0 : decode b_S_endWaitingInTime 0 = .ok (.aload_n 0, 1) := by decide +kernel
theorem d_S_endWaitingInTime_1 : decode b_S_endWaitingInTime 1 = .ok (.getfield 37, 3) := by decide +kernel
theorem d_S_endWaitingInTime_4 : decode b_S_endWaitingInTime 4 = .ok (.iconst 1, 1) := by decide +kernel
theorem d_S_endWaitingInTime_5 : decode b_S_endWaitingInTime 5 = .ok (.if_icmp .eq 11, 3) := by decide +kernel
theorem d_S_endWaitingInTime_8 : decode b_S_endWaitingInTime 8 = .ok (.aload_n 0, 1) := by decide +kernel
theorem d_S_endWaitingInTime_9 : decode b_S_endWaitingInTime 9 = .ok (.getfield 37, 3) := by decide +kernel
theorem d_S_endWaitingInTime_12 : decode b_S_endWaitingInTime 12 = .ok (.iconst 2, 1) := by decide +kernel
theorem d_S_endWaitingInTime_13 : decode b_S_endWaitingInTime 13 = .ok (.if_icmp .ne 7, 3) := by decide +kernel
theorem d_S_endWaitingInTime_16 : decode b_S_endWaitingInTime 16 = .ok (.iconst 1, 1) := by decide +kernel
theorem d_S_endWaitingInTime_17 : decode b_S_endWaitingInTime 17 = .ok (.goto 4, 3) := by decide +kernel
theorem d_S_endWaitingInTime_20 : decode b_S_endWaitingInTime 20 = .ok (.iconst 0, 1) := by decide +kernel
theorem d_S_endWaitingInTime_21 : decode b_S_endWaitingInTime 21 = .ok (.istore_n 1, 1) := by decide +kernel
theorem d_S_endWaitingInTime_22 : decode b_S_endWaitingInTime 22 = .ok (.iload_n 1, 1) := by decide +kernel
theorem d_S_endWaitingInTime_23 : decode b_S_endWaitingInTime 23 = .ok (.ifCond .eq 27, 3) := by decide +kernel
theorem d_S_endWaitingInTime_26 : decode b_S_endWaitingInTime 26 = .ok (.aload_n 0, 1) := by decide +kernel
theorem d_S_endWaitingInTime_27 : decode b_S_endWaitingInTime 27 = .ok (.getfield 101, 3) := by decide +kernel
theorem d_S_endWaitingInTime_30 : decode b_S_endWaitingInTime 30 = .ok (.aload_n 0, 1) := by decide +kernel
theorem d_S_endWaitingInTime_31 : decode b_S_endWaitingInTime 31 = .ok (.getfield 263, 3) := by decide +kernel
theorem d_S_endWaitingInTime_34 : decode b_S_endWaitingInTime 34 = .ok (.isub, 1) := by decide +kernel
theorem d_S_endWaitingInTime_35 : decode b_S_endWaitingInTime 35 = .ok (.aload_n 0, 1) := by decide +kernel
theorem d_S_endWaitingInTime_36 : decode b_S_endWaitingInTime 36 = .ok (.getfield 18, 3) := by decide +kernel
theorem d_S_endWaitingInTime_39 : decode b_S_endWaitingInTime 39 = .ok (.iconst 2, 1) := by decide +kernel
theorem d_S_endWaitingInTime_40 : decode b_S_endWaitingInTime 40 = .ok (.iaload, 1) := by decide +kernel
theorem d_S_endWaitingInTime_41 : decode b_S_endWaitingInTime 41 = .ok (.if_icmp .lt 9, 3) := by decide +kernel
theorem d_S_endWaitingInTime_44 : decode b_S_endWaitingInTime 44 = .ok (.aload_n 0, 1) := by decide +kernel
theorem d_S_endWaitingInTime_45 : decode b_S_endWaitingInTime 45 = .ok (.bipush 6, 2) := by decide +kernel
theorem d_S_endWaitingInTime_47 : decode b_S_endWaitingInTime 47 = .ok (.invokevirtual 127, 3) := by decide +kernel
theorem d_S_endWaitingInTime_50 : decode b_S_endWaitingInTime 50 = .ok (.return_, 1) := by decide +kernel
theorem d_S_endAdministrationInTime_0 : decode b_S_endAdministrationInTime 0 = .ok (.aload_n 0, 1) := by decide +kernel
theorem d_S_endAdministrationInTime_1 : decode b_S_endAdministrationInTime 1 = .ok (.getfield 47, 3) := by decide +kernel
theorem d_S_endAdministrationInTime_4 : decode b_S_endAdministrationInTime 4 = .ok (.ifCond .eq 23, 3) := by decide +kernel
theorem d_S_endAdministrationInTime_7 : decode b_S_endAdministrationInTime 7 = .ok (.aload_n 0, 1) := by decide +kernel
theorem d_S_endAdministrationInTime_8 : decode b_S_endAdministrationInTime 8 = .ok (.aload_n 0, 1) := by decide +kernel
theorem d_S_endAdministrationInTime_9 : decode b_S_endAdministrationInTime 9 = .ok (.aload_n 0, 1) := by decide +kernel
theorem d_S_endAdministrationInTime_10 : decode b_S_endAdministrationInTime 10 = .ok (.getfield 44, 3) := by decide +kernel
theorem d_S_endAdministrationInTime_13 : decode b_S_endAdministrationInTime 13 = .ok (.iconst 3, 1) := by decide +kernel
theorem d_S_endAdministrationInTime_14 : decode b_S_endAdministrationInTime 14 = .ok (.invokevirtual 76, 3) := by decide +kernel
theorem d_S_endAdministrationInTime_17 : decode b_S_endAdministrationInTime 17 = .ok (.invokevirtual 217, 3) := by decide +kernel
theorem d_S_endAdministrationInTime_20 : decode b_S_endAdministrationInTime 20 = .ok (.ifCond .ne 7, 3) := by decide +kernel
theorem d_S_endAdministrationInTime_23 : decode b_S_endAdministrationInTime 23 = .ok (.aload_n 0, 1) := by decide +kernel
theorem d_S_endAdministrationInTime_24 : decode b_S_endAdministrationInTime 24 = .ok (.invokevirtual 152, 3) := by decide +kernel
theorem d_S_endAdministrationInTime_27 : decode b_S_endAdministrationInTime 27 = .ok (.return_, 1) := by decide +kernel
theorem d_S_dismissAdministrator_0 : decode b_S_dismissAdministrator 0 = .ok (.aload_n 0, 1) := by decide +kernel
theorem d_S_dismissAdministrator_1 : decode b_S_dismissAdministrator 1 = .ok (.iconst 0, 1) := by decide +kernel
theorem d_S_dismissAdministrator_2 : decode b_S_dismissAdministrator 2 = .ok (.putfield 47, 3) := by decide +kernel
theorem d_S_dismissAdministrator_5 : decode b_S_dismissAdministrator 5 = .ok (.aload_n 0, 1) := by decide +kernel
theorem d_S_dismissAdministrator_6 : decode b_S_dismissAdministrator 6 = .ok (.aload_n 0, 1) := by decide +kernel
theorem d_S_dismissAdministrator_7 : decode b_S_dismissAdministrator 7 = .ok (.getfield 44, 3) := by decide +kernel
theorem d_S_dismissAdministrator_10 : decode b_S_dismissAdministrator 10 = .ok (.bipush 11, 2) := by decide +kernel
theorem d_S_dismissAdministrator_12 : decode b_S_dismissAdministrator 12 = .ok (.invokevirtual 114, 3) := by decide +kernel
theorem d_S_dismissAdministrator_15 : decode b_S_dismissAdministrator 15 = .ok (.return_, 1) := by decide +kernel
theorem d_S_unlock_0 : decode b_S_unlock 0 = .ok (.aload_n 0, 1) := by decide +kernel
theorem d_S_unlock_1 : decode b_S_unlock 1 = .ok (.aload_n 0, 1) := by decide +kernel
theorem d_S_unlock_2 : decode b_S_unlock 2 = .ok (.getfield 101, 3) := by decide +kernel
theorem d_S_unlock_5 : decode b_S_unlock 5 = .ok (.aload_n 0, 1) := by decide +kernel
theorem d_S_unlock_6 : decode b_S_unlock 6 = .ok (.getfield 18, 3) := by decide +kernel
theorem d_S_unlock_9 : decode b_S_unlock 9 = .ok (.iconst 0, 1) := by decide +kernel
theorem d_S_unlock_10 : decode b_S_unlock 10 = .ok (.iaload, 1) := by decide +kernel
theorem d_S_unlock_11 : decode b_S_unlock 11 = .ok (.iadd, 1) := by decide +kernel
theorem d_S_unlock_12 : decode b_S_unlock 12 = .ok (.putfield 161, 3) := by decide +kernel
theorem d_S_unlock_15 : decode b_S_unlock 15 = .ok (.aload_n 0, 1) := by decide +kernel
theorem d_S_unlock_16 : decode b_S_unlock 16 = .ok (.aload_n 0, 1) := by decide +kernel
theorem d_S_unlock_17 : decode b_S_unlock 17 = .ok (.getfield 161, 3) := by decide +kernel
theorem d_S_unlock_20 : decode b_S_unlock 20 = .ok (.aload_n 0, 1) := by decide +kernel
theorem d_S_unlock_21 : decode b_S_unlock 21 = .ok (.getfield 18, 3) := by decide +kernel
theorem d_S_unlock_24 : decode b_S_unlock 24 = .ok (.iconst 1, 1) := by decide +kernel
theorem d_S_unlock_25 : decode b_S_unlock 25 = .ok (.iaload, 1) := by decide +kernel
theorem d_S_unlock_26 : decode b_S_unlock 26 = .ok (.iadd, 1) := by decide +kernel
theorem d_S_unlock_27 : decode b_S_unlock 27 = .ok (.putfield 180, 3) := by decide +kernel
theorem d_S_unlock_30 : decode b_S_unlock 30 = .ok (.return_, 1) := by decide +kernel
theorem d_S_isUnlocked_0 : decode b_S_isUnlocked 0 = .ok (.aload_n 0, 1) := by decide +kernel
theorem d_S_isUnlocked_1 : decode b_S_isUnlocked 1 = .ok (.getfield 101, 3) := by decide +kernel
theorem d_S_isUnlocked_4 : decode b_S_isUnlocked 4 = .ok (.aload_n 0, 1) := by decide +kernel
theorem d_S_isUnlocked_5 : decode b_S_isUnlocked 5 = .ok (.getfield 161, 3) := by decide +kernel
theorem d_S_isUnlocked_8 : decode b_S_isUnlocked 8 = .ok (.if_icmp .ge 7, 3) := by decide +kernel
theorem d_S_isUnlocked_11 : decode b_S_isUnlocked 11 = .ok (.iconst 1, 1) := by decide +kernel
theorem d_S_isUnlocked_12 : decode b_S_isUnlocked 12 = .ok (.goto 4, 3) := by decide +kernel
theorem d_S_isUnlocked_15 : decode b_S_isUnlocked 15 = .ok (.iconst 0, 1) := by decide +kernel
theorem d_S_isUnlocked_16 : decode b_S_isUnlocked 16 = .ok (.ireturn, 1) := by decide +kernel
theorem d_S_isAlarmSounding_0 : decode b_S_isAlarmSounding 0 = .ok (.aload_n 0, 1) := by decide +kernel
theorem d_S_isAlarmSounding_1 : decode b_S_isAlarmSounding 1 = .ok (.getfield 173, 3) := by decide +kernel
theorem d_S_isAlarmSounding_4 : decode b_S_isAlarmSounding 4 = .ok (.ifCond .eq 25, 3) := by decide +kernel
theorem d_S_isAlarmSounding_7 : decode b_S_isAlarmSounding 7 = .ok (.aload_n 0, 1) := by decide +kernel
theorem d_S_isAlarmSounding_8 : decode b_S_isAlarmSounding 8 = .ok (.invokevirtual 176, 3) := by decide +kernel
theorem d_S_isAlarmSounding_11 : decode b_S_isAlarmSounding 11 = .ok (.ifCond .ne 18, 3) := by decide +kernel
theorem d_S_isAlarmSounding_14 : decode b_S_isAlarmSounding 14 = .ok (.aload_n 0, 1) := by decide +kernel
theorem d_S_isAlarmSounding_15 : decode b_S_isAlarmSounding 15 = .ok (.getfield 101, 3) := by decide +kernel
theorem d_S_isAlarmSounding_18 : decode b_S_isAlarmSounding 18 = .ok (.aload_n 0, 1) := by decide +kernel
theorem d_S_isAlarmSounding_19 : decode b_S_isAlarmSounding 19 = .ok (.getfield 180, 3) := by decide +kernel
theorem d_S_isAlarmSounding_22 : decode b_S_isAlarmSounding 22 = .ok (.if_icmp .lt 7, 3) := by decide +kernel
theorem d_S_isAlarmSounding_25 : decode b_S_isAlarmSounding 25 = .ok (.iconst 1, 1) := by decide +kernel
theorem d_S_isAlarmSounding_26 : decode b_S_isAlarmSounding 26 = .ok (.goto 4, 3) := by decide +kernel
theorem d_S_isAlarmSounding_29 : decode b_S_isAlarmSounding 29 = .ok (.iconst 0, 1) := by decide +kernel
theorem d_S_isAlarmSounding_30 : decode b_S_isAlarmSounding 30 = .ok (.ireturn, 1) := by decide +kernel
theorem d_S_writeAbout_0 : decode b_S_writeAbout 0 = .ok (.aload_n 0, 1) := by decide +kernel
theorem d_S_writeAbout_1 : decode b_S_writeAbout 1 = .ok (.iload_n 1, 1) := by decide +kernel
theorem d_S_writeAbout_2 : decode b_S_writeAbout 2 = .ok (.iconst 0, 1) := by decide +kernel
theorem d_S_writeAbout_3 : decode b_S_writeAbout 3 = .ok (.invokevirtual 76, 3) := by decide +kernel
theorem d_S_writeAbout_6 : decode b_S_writeAbout 6 = .ok (.astore_n 3, 1) := by decide +kernel
theorem d_S_writeAbout_7 : decode b_S_writeAbout 7 = .ok (.aload_n 0, 1) := by decide +kernel
theorem d_S_writeAbout_8 : decode b_S_writeAbout 8 = .ok (.getfield 33, 3) := by decide +kernel
theorem d_S_writeAbout_11 : decode b_S_writeAbout 11 = .ok (.iload_n 2, 1) := by decide +kernel
theorem d_S_writeAbout_12 : decode b_S_writeAbout 12 = .ok (.aload_n 0, 1) := by decide +kernel
theorem d_S_writeAbout_13 : decode b_S_writeAbout 13 = .ok (.getfield 101, 3) := by decide +kernel
theorem d_S_writeAbout_16 : decode b_S_writeAbout 16 = .ok (.aload_n 3, 1) := by decide +kernel
theorem d_S_writeAbout_17 : decode b_S_writeAbout 17 = .ok (.ifnonnull 7, 3) := by decide +kernel
theorem d_S_writeAbout_20 : decode b_S_writeAbout 20 = .ok (.iconst (-1), 1) := by decide +kernel
theorem d_S_writeAbout_21 : decode b_S_writeAbout 21 = .ok (.goto 7, 3) := by decide +kernel
theorem d_S_writeAbout_24 : decode b_S_writeAbout 24 = .ok (.aload_n 3, 1) := by decide +kernel
theorem d_S_writeAbout_25 : decode b_S_writeAbout 25 = .ok (.getfield 205, 3) := by decide +kernel
theorem d_S_writeAbout_28 : decode b_S_writeAbout 28 = .ok (.invokevirtual 104, 3) := by decide +kernel
theorem d_S_writeAbout_31 : decode b_S_writeAbout 31 = .ok (.return_, 1) := by decide +kernel
theorem d_C_init_0 : decode b_C_init 0 = .ok (.aload_n 0, 1) := by decide +kernel
theorem d_C_init_1 : decode b_C_init 1 = .ok (.invokespecial 3, 3) := by decide +kernel
theorem d_C_init_4 : decode b_C_init 4 = .ok (.aload_n 0, 1) := by decide +kernel
theorem d_C_init_5 : decode b_C_init 5 = .ok (.iload_n 1, 1) := by decide +kernel
theorem d_C_init_6 : decode b_C_init 6 = .ok (.putfield 9, 3) := by decide +kernel
theorem d_C_init_9 : decode b_C_init 9 = .ok (.aload_n 0, 1) := by decide +kernel
theorem d_C_init_10 : decode b_C_init 10 = .ok (.iload_n 2, 1) := by decide +kernel
theorem d_C_init_11 : decode b_C_init 11 = .ok (.putfield 15, 3) := by decide +kernel
theorem d_C_init_14 : decode b_C_init 14 = .ok (.aload_n 0, 1) := by decide +kernel
theorem d_C_init_15 : decode b_C_init 15 = .ok (.iload_n 3, 1) := by decide +kernel
theorem d_C_init_16 : decode b_C_init 16 = .ok (.putfield 18, 3) := by decide +kernel
theorem d_C_init_19 : decode b_C_init 19 = .ok (.aload_n 0, 1) := by decide +kernel
theorem d_C_init_20 : decode b_C_init 20 = .ok (.iload 4, 2) := by decide +kernel
theorem d_C_init_22 : decode b_C_init 22 = .ok (.putfield 21, 3) := by decide +kernel
theorem d_C_init_25 : decode b_C_init 25 = .ok (.aload_n 0, 1) := by decide +kernel
theorem d_C_init_26 : decode b_C_init 26 = .ok (.iload 5, 2) := by decide +kernel
theorem d_C_init_28 : decode b_C_init 28 = .ok (.putfield 24, 3) := by decide +kernel
theorem d_C_init_31 : decode b_C_init 31 = .ok (.aload_n 0, 1) := by decide +kernel
theorem d_C_init_32 : decode b_C_init 32 = .ok (.iload 6, 2) := by decide +kernel
theorem d_C_init_34 : decode b_C_init 34 = .ok (.putfield 27, 3) := by decide +kernel
theorem d_C_init_37 : decode b_C_init 37 = .ok (.aload_n 0, 1) := by decide +kernel
theorem d_C_init_38 : decode b_C_init 38 = .ok (.iload 7, 2) := by decide +kernel
theorem d_C_init_40 : decode b_C_init 40 = .ok (.putfield 30, 3) := by decide +kernel
theorem d_C_init_43 : decode b_C_init 43 = .ok (.return_, 1) := by decide +kernel
theorem d_C_isFitForItsKind_0 : decode b_C_isFitForItsKind 0 = .ok (.aload_n 0, 1) := by decide +kernel
theorem d_C_isFitForItsKind_1 : decode b_C_isFitForItsKind 1 = .ok (.getfield 9, 3) := by decide +kernel
theorem d_C_isFitForItsKind_4 : decode b_C_isFitForItsKind 4 = .ok (.iconst 3, 1) := by decide +kernel
theorem d_C_isFitForItsKind_5 : decode b_C_isFitForItsKind 5 = .ok (.if_icmp .ne 27, 3) := by decide +kernel
theorem d_C_isFitForItsKind_8 : decode b_C_isFitForItsKind 8 = .ok (.aload_n 0, 1) := by decide +kernel
theorem d_C_isFitForItsKind_9 : decode b_C_isFitForItsKind 9 = .ok (.getfield 15, 3) := by decide +kernel
theorem d_C_isFitForItsKind_12 : decode b_C_isFitForItsKind 12 = .ok (.bipush 6, 2) := by decide +kernel
theorem d_C_isFitForItsKind_14 : decode b_C_isFitForItsKind 14 = .ok (.if_icmp .ne 16, 3) := by decide +kernel
theorem d_C_isFitForItsKind_17 : decode b_C_isFitForItsKind 17 = .ok (.aload_n 0, 1) := by decide +kernel
theorem d_C_isFitForItsKind_18 : decode b_C_isFitForItsKind 18 = .ok (.getfield 21, 3) := by decide +kernel
theorem d_C_isFitForItsKind_21 : decode b_C_isFitForItsKind 21 = .ok (.bipush 15, 2) := by decide +kernel
theorem d_C_isFitForItsKind_23 : decode b_C_isFitForItsKind 23 = .ok (.if_icmp .gt 7, 3) := by decide +kernel
theorem d_C_isFitForItsKind_26 : decode b_C_isFitForItsKind 26 = .ok (.iconst 1, 1) := by decide +kernel
theorem d_C_isFitForItsKind_27 : decode b_C_isFitForItsKind 27 = .ok (.goto 4, 3) := by decide +kernel
theorem d_C_isFitForItsKind_30 : decode b_C_isFitForItsKind 30 = .ok (.iconst 0, 1) := by decide +kernel
theorem d_C_isFitForItsKind_31 : decode b_C_isFitForItsKind 31 = .ok (.ireturn, 1) := by decide +kernel
theorem d_C_isFitForItsKind_32 : decode b_C_isFitForItsKind 32 = .ok (.aload_n 0, 1) := by decide +kernel
theorem d_C_isFitForItsKind_33 : decode b_C_isFitForItsKind 33 = .ok (.getfield 9, 3) := by decide +kernel
theorem d_C_isFitForItsKind_36 : decode b_C_isFitForItsKind 36 = .ok (.iconst 1, 1) := by decide +kernel
theorem d_C_isFitForItsKind_37 : decode b_C_isFitForItsKind 37 = .ok (.if_icmp .ne 12, 3) := by decide +kernel
theorem d_C_isFitForItsKind_40 : decode b_C_isFitForItsKind 40 = .ok (.aload_n 0, 1) := by decide +kernel
theorem d_C_isFitForItsKind_41 : decode b_C_isFitForItsKind 41 = .ok (.getfield 21, 3) := by decide +kernel
theorem d_C_isFitForItsKind_44 : decode b_C_isFitForItsKind 44 = .ok (.bipush 15, 2) := by decide +kernel
theorem d_C_isFitForItsKind_46 : decode b_C_isFitForItsKind 46 = .ok (.if_icmp .gt 7, 3) := by decide +kernel
theorem d_C_isFitForItsKind_49 : decode b_C_isFitForItsKind 49 = .ok (.iconst 1, 1) := by decide +kernel
theorem d_C_isFitForItsKind_50 : decode b_C_isFitForItsKind 50 = .ok (.goto 4, 3) := by decide +kernel
theorem d_C_isFitForItsKind_53 : decode b_C_isFitForItsKind 53 = .ok (.iconst 0, 1) := by decide +kernel
theorem d_C_isFitForItsKind_54 : decode b_C_isFitForItsKind 54 = .ok (.ireturn, 1) := by decide +kernel
theorem d_C_clearance_0 : decode b_C_clearance 0 = .ok (.aload_n 0, 1) := by decide +kernel
theorem d_C_clearance_1 : decode b_C_clearance 1 = .ok (.getfield 21, 3) := by decide +kernel
theorem d_C_clearance_4 : decode b_C_clearance 4 = .ok (.iconst 4, 1) := by decide +kernel
theorem d_C_clearance_5 : decode b_C_clearance 5 = .ok (.idiv, 1) := by decide +kernel
theorem d_C_clearance_6 : decode b_C_clearance 6 = .ok (.ireturn, 1) := by decide +kernel
theorem d_C_role_0 : decode b_C_role 0 = .ok (.aload_n 0, 1) := by decide +kernel
theorem d_C_role_1 : decode b_C_role 1 = .ok (.getfield 21, 3) := by decide +kernel
theorem d_C_role_4 : decode b_C_role 4 = .ok (.iconst 4, 1) := by decide +kernel
theorem d_C_role_5 : decode b_C_role 5 = .ok (.irem, 1) := by decide +kernel
theorem d_C_role_6 : decode b_C_role 6 = .ok (.ireturn, 1) := by decide +kernel
theorem d_O_init_0 : decode b_O_init 0 = .ok (.aload_n 0, 1) := by decide +kernel
theorem d_O_init_1 : decode b_O_init 1 = .ok (.invokespecial 1, 3) := by decide +kernel
theorem d_O_init_4 : decode b_O_init 4 = .ok (.aload_n 0, 1) := by decide +kernel
theorem d_O_init_5 : decode b_O_init 5 = .ok (.bipush 16, 2) := by decide +kernel
theorem d_O_init_7 : decode b_O_init 7 = .ok (.newarray .int, 2) := by decide +kernel
theorem d_O_init_9 : decode b_O_init 9 = .ok (.putfield 9, 3) := by decide +kernel
theorem d_O_init_12 : decode b_O_init 12 = .ok (.aload_n 0, 1) := by decide +kernel
theorem d_O_init_13 : decode b_O_init 13 = .ok (.bipush 16, 2) := by decide +kernel
theorem d_O_init_15 : decode b_O_init 15 = .ok (.newarray .int, 2) := by decide +kernel
theorem d_O_init_17 : decode b_O_init 17 = .ok (.putfield 13, 3) := by decide +kernel
theorem d_O_init_20 : decode b_O_init 20 = .ok (.aload_n 0, 1) := by decide +kernel
theorem d_O_init_21 : decode b_O_init 21 = .ok (.bipush 16, 2) := by decide +kernel
theorem d_O_init_23 : decode b_O_init 23 = .ok (.newarray .int, 2) := by decide +kernel
theorem d_O_init_25 : decode b_O_init 25 = .ok (.putfield 16, 3) := by decide +kernel
theorem d_O_init_28 : decode b_O_init 28 = .ok (.return_, 1) := by decide +kernel
theorem d_O_write_0 : decode b_O_write 0 = .ok (.aload_n 0, 1) := by decide +kernel
theorem d_O_write_1 : decode b_O_write 1 = .ok (.getfield 19, 3) := by decide +kernel
theorem d_O_write_4 : decode b_O_write 4 = .ok (.bipush 16, 2) := by decide +kernel
theorem d_O_write_6 : decode b_O_write 6 = .ok (.if_icmp .lt 7, 3) := by decide +kernel
theorem d_O_write_9 : decode b_O_write 9 = .ok (.aload_n 0, 1) := by decide +kernel
theorem d_O_write_10 : decode b_O_write 10 = .ok (.invokevirtual 23, 3) := by decide +kernel
theorem d_O_write_13 : decode b_O_write 13 = .ok (.aload_n 0, 1) := by decide +kernel
theorem d_O_write_14 : decode b_O_write 14 = .ok (.getfield 9, 3) := by decide +kernel
theorem d_O_write_17 : decode b_O_write 17 = .ok (.aload_n 0, 1) := by decide +kernel
theorem d_O_write_18 : decode b_O_write 18 = .ok (.getfield 19, 3) := by decide +kernel
theorem d_O_write_21 : decode b_O_write 21 = .ok (.iload_n 1, 1) := by decide +kernel
theorem d_O_write_22 : decode b_O_write 22 = .ok (.iastore, 1) := by decide +kernel
theorem d_O_write_23 : decode b_O_write 23 = .ok (.aload_n 0, 1) := by decide +kernel
theorem d_O_write_24 : decode b_O_write 24 = .ok (.getfield 13, 3) := by decide +kernel
theorem d_O_write_27 : decode b_O_write 27 = .ok (.aload_n 0, 1) := by decide +kernel
theorem d_O_write_28 : decode b_O_write 28 = .ok (.getfield 19, 3) := by decide +kernel
theorem d_O_write_31 : decode b_O_write 31 = .ok (.iload_n 2, 1) := by decide +kernel
theorem d_O_write_32 : decode b_O_write 32 = .ok (.iastore, 1) := by decide +kernel
theorem d_O_write_33 : decode b_O_write 33 = .ok (.aload_n 0, 1) := by decide +kernel
theorem d_O_write_34 : decode b_O_write 34 = .ok (.getfield 16, 3) := by decide +kernel
theorem d_O_write_37 : decode b_O_write 37 = .ok (.aload_n 0, 1) := by decide +kernel
theorem d_O_write_38 : decode b_O_write 38 = .ok (.getfield 19, 3) := by decide +kernel
theorem d_O_write_41 : decode b_O_write 41 = .ok (.iload_n 3, 1) := by decide +kernel
theorem d_O_write_42 : decode b_O_write 42 = .ok (.iastore, 1) := by decide +kernel
theorem d_O_write_43 : decode b_O_write 43 = .ok (.aload_n 0, 1) := by decide +kernel
theorem d_O_write_44 : decode b_O_write 44 = .ok (.dup, 1) := by decide +kernel
theorem d_O_write_45 : decode b_O_write 45 = .ok (.getfield 19, 3) := by decide +kernel
theorem d_O_write_48 : decode b_O_write 48 = .ok (.iconst 1, 1) := by decide +kernel
theorem d_O_write_49 : decode b_O_write 49 = .ok (.iadd, 1) := by decide +kernel
theorem d_O_write_50 : decode b_O_write 50 = .ok (.putfield 19, 3) := by decide +kernel
theorem d_O_write_53 : decode b_O_write 53 = .ok (.return_, 1) := by decide +kernel
theorem d_O_loseOldest_0 : decode b_O_loseOldest 0 = .ok (.aload_n 0, 1) := by decide +kernel
theorem d_O_loseOldest_1 : decode b_O_loseOldest 1 = .ok (.bipush 12, 2) := by decide +kernel
theorem d_O_loseOldest_3 : decode b_O_loseOldest 3 = .ok (.putfield 19, 3) := by decide +kernel
theorem d_O_loseOldest_6 : decode b_O_loseOldest 6 = .ok (.aload_n 0, 1) := by decide +kernel
theorem d_O_loseOldest_7 : decode b_O_loseOldest 7 = .ok (.getfield 9, 3) := by decide +kernel
theorem d_O_loseOldest_10 : decode b_O_loseOldest 10 = .ok (.iconst 4, 1) := by decide +kernel
theorem d_O_loseOldest_11 : decode b_O_loseOldest 11 = .ok (.aload_n 0, 1) := by decide +kernel
theorem d_O_loseOldest_12 : decode b_O_loseOldest 12 = .ok (.getfield 9, 3) := by decide +kernel
theorem d_O_loseOldest_15 : decode b_O_loseOldest 15 = .ok (.iconst 0, 1) := by decide +kernel
theorem d_O_loseOldest_16 : decode b_O_loseOldest 16 = .ok (.aload_n 0, 1) := by decide +kernel
theorem d_O_loseOldest_17 : decode b_O_loseOldest 17 = .ok (.getfield 19, 3) := by decide +kernel
theorem d_O_loseOldest_20 : decode b_O_loseOldest 20 = .ok (.invokestatic 26, 3) := by decide +kernel
theorem d_O_loseOldest_23 : decode b_O_loseOldest 23 = .ok (.aload_n 0, 1) := by decide +kernel
theorem d_O_loseOldest_24 : decode b_O_loseOldest 24 = .ok (.getfield 13, 3) := by decide +kernel
theorem d_O_loseOldest_27 : decode b_O_loseOldest 27 = .ok (.iconst 4, 1) := by decide +kernel
theorem d_O_loseOldest_28 : decode b_O_loseOldest 28 = .ok (.aload_n 0, 1) := by decide +kernel
theorem d_O_loseOldest_29 : decode b_O_loseOldest 29 = .ok (.getfield 13, 3) := by decide +kernel
theorem d_O_loseOldest_32 : decode b_O_loseOldest 32 = .ok (.iconst 0, 1) := by decide +kernel
theorem d_O_loseOldest_33 : decode b_O_loseOldest 33 = .ok (.aload_n 0, 1) := by decide +kernel
theorem d_O_loseOldest_34 : decode b_O_loseOldest 34 = .ok (.getfield 19, 3) := by decide +kernel
theorem d_O_loseOldest_37 : decode b_O_loseOldest 37 = .ok (.invokestatic 26, 3) := by decide +kernel
theorem d_O_loseOldest_40 : decode b_O_loseOldest 40 = .ok (.aload_n 0, 1) := by decide +kernel
theorem d_O_loseOldest_41 : decode b_O_loseOldest 41 = .ok (.getfield 16, 3) := by decide +kernel
theorem d_O_loseOldest_44 : decode b_O_loseOldest 44 = .ok (.iconst 4, 1) := by decide +kernel
theorem d_O_loseOldest_45 : decode b_O_loseOldest 45 = .ok (.aload_n 0, 1) := by decide +kernel
theorem d_O_loseOldest_46 : decode b_O_loseOldest 46 = .ok (.getfield 16, 3) := by decide +kernel
theorem d_O_loseOldest_49 : decode b_O_loseOldest 49 = .ok (.iconst 0, 1) := by decide +kernel
theorem d_O_loseOldest_50 : decode b_O_loseOldest 50 = .ok (.aload_n 0, 1) := by decide +kernel
theorem d_O_loseOldest_51 : decode b_O_loseOldest 51 = .ok (.getfield 19, 3) := by decide +kernel
theorem d_O_loseOldest_54 : decode b_O_loseOldest 54 = .ok (.invokestatic 26, 3) := by decide +kernel
theorem d_O_loseOldest_57 : decode b_O_loseOldest 57 = .ok (.aload_n 0, 1) := by decide +kernel
theorem d_O_loseOldest_58 : decode b_O_loseOldest 58 = .ok (.iconst 1, 1) := by decide +kernel
theorem d_O_loseOldest_59 : decode b_O_loseOldest 59 = .ok (.putfield 32, 3) := by decide +kernel
theorem d_O_loseOldest_62 : decode b_O_loseOldest 62 = .ok (.return_, 1) := by decide +kernel
theorem d_O_clear_0 : decode b_O_clear 0 = .ok (.aload_n 0, 1) := by decide +kernel
theorem d_O_clear_1 : decode b_O_clear 1 = .ok (.iconst 0, 1) := by decide +kernel
theorem d_O_clear_2 : decode b_O_clear 2 = .ok (.putfield 19, 3) := by decide +kernel
theorem d_O_clear_5 : decode b_O_clear 5 = .ok (.aload_n 0, 1) := by decide +kernel
theorem d_O_clear_6 : decode b_O_clear 6 = .ok (.iconst 0, 1) := by decide +kernel
theorem d_O_clear_7 : decode b_O_clear 7 = .ok (.putfield 32, 3) := by decide +kernel
theorem d_O_clear_10 : decode b_O_clear 10 = .ok (.return_, 1) := by decide +kernel
end DEC
