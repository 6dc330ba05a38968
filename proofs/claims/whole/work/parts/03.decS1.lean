section DEC
theorem d_S_init_0 : decode b_S_init 0 = .ok (.aload_n 0, 1) := by decide +kernel
theorem d_S_init_1 : decode b_S_init 1 = .ok (.invokespecial 1, 3) := by decide +kernel
theorem d_S_init_4 : decode b_S_init 4 = .ok (.aload_n 0, 1) := by decide +kernel
theorem d_S_init_5 : decode b_S_init 5 = .ok (.getstatic 7, 3) := by decide +kernel
theorem d_S_init_8 : decode b_S_init 8 = .ok (.invokevirtual 13, 3) := by decide +kernel
theorem d_S_init_11 : decode b_S_init 11 = .ok (.checkcast 14, 3) := by decide +kernel
theorem d_S_init_14 : decode b_S_init 14 = .ok (.putfield 18, 3) := by decide +kernel
theorem d_S_init_17 : decode b_S_init 17 = .ok (.aload_n 0, 1) := by decide +kernel
theorem d_S_init_18 : decode b_S_init 18 = .ok (.bipush 7, 2) := by decide +kernel
theorem d_S_init_20 : decode b_S_init 20 = .ok (.newarray .int, 2) := by decide +kernel
theorem d_S_init_22 : decode b_S_init 22 = .ok (.putfield 21, 3) := by decide +kernel
theorem d_S_init_25 : decode b_S_init 25 = .ok (.aload_n 0, 1) := by decide +kernel
theorem d_S_init_26 : decode b_S_init 26 = .ok (.getfield 21, 3) := by decide +kernel
theorem d_S_init_29 : decode b_S_init 29 = .ok (.bipush 6, 2) := by decide +kernel
theorem d_S_init_31 : decode b_S_init 31 = .ok (.sipush 4711, 3) := by decide +kernel
theorem d_S_init_34 : decode b_S_init 34 = .ok (.iastore, 1) := by decide +kernel
theorem d_S_init_35 : decode b_S_init 35 = .ok (.aload_n 0, 1) := by decide +kernel
theorem d_S_init_36 : decode b_S_init 36 = .ok (.bipush 24, 2) := by decide +kernel
theorem d_S_init_38 : decode b_S_init 38 = .ok (.anewarray 24, 3) := by decide +kernel
theorem d_S_init_41 : decode b_S_init 41 = .ok (.putfield 26, 3) := by decide +kernel
theorem d_S_init_44 : decode b_S_init 44 = .ok (.aload_n 0, 1) := by decide +kernel
theorem d_S_init_45 : decode b_S_init 45 = .ok (.new 30, 3) := by decide +kernel
theorem d_S_init_48 : decode b_S_init 48 = .ok (.dup, 1) := by decide +kernel
theorem d_S_init_49 : decode b_S_init 49 = .ok (.invokespecial 32, 3) := by decide +kernel
theorem d_S_init_52 : decode b_S_init 52 = .ok (.putfield 33, 3) := by decide +kernel
theorem d_S_init_55 : decode b_S_init 55 = .ok (.aload_n 0, 1) := by decide +kernel
theorem d_S_init_56 : decode b_S_init 56 = .ok (.iconst 0, 1) := by decide +kernel
theorem d_S_init_57 : decode b_S_init 57 = .ok (.putfield 37, 3) := by decide +kernel
theorem d_S_init_60 : decode b_S_init 60 = .ok (.aload_n 0, 1) := by decide +kernel
theorem d_S_init_61 : decode b_S_init 61 = .ok (.iconst (-1), 1) := by decide +kernel
theorem d_S_init_62 : decode b_S_init 62 = .ok (.putfield 41, 3) := by decide +kernel
theorem d_S_init_65 : decode b_S_init 65 = .ok (.aload_n 0, 1) := by decide +kernel
theorem d_S_init_66 : decode b_S_init 66 = .ok (.iconst (-1), 1) := by decide +kernel
theorem d_S_init_67 : decode b_S_init 67 = .ok (.putfield 44, 3) := by decide +kernel
theorem d_S_init_70 : decode b_S_init 70 = .ok (.aload_n 0, 1) := by decide +kernel
theorem d_S_init_71 : decode b_S_init 71 = .ok (.iconst 0, 1) := by decide +kernel
theorem d_S_init_72 : decode b_S_init 72 = .ok (.putfield 47, 3) := by decide +kernel
theorem d_S_init_75 : decode b_S_init 75 = .ok (.return_, 1) := by decide +kernel
theorem d_S_signature_0 : decode b_S_signature 0 = .ok (.iload_n 1, 1) := by decide +kernel
theorem d_S_signature_1 : decode b_S_signature 1 = .ok (.iload_n 2, 1) := by decide +kernel
theorem d_S_signature_2 : decode b_S_signature 2 = .ok (.iload_n 3, 1) := by decide +kernel
theorem d_S_signature_3 : decode b_S_signature 3 = .ok (.iload 4, 2) := by decide +kernel
theorem d_S_signature_5 : decode b_S_signature 5 = .ok (.iload 5, 2) := by decide +kernel
theorem d_S_signature_7 : decode b_S_signature 7 = .ok (.iload 6, 2) := by decide +kernel
theorem d_S_signature_9 : decode b_S_signature 9 = .ok (.invokestatic 50, 3) := by decide +kernel
theorem d_S_signature_12 : decode b_S_signature 12 = .ok (.ifCond .ne 11, 3) := by decide +kernel
theorem d_S_signature_15 : decode b_S_signature 15 = .ok (.new 54, 3) := by decide +kernel
theorem d_S_signature_18 : decode b_S_signature 18 = .ok (.dup, 1) := by decide +kernel
theorem d_S_signature_19 : decode b_S_signature 19 = .ok (.invokespecial 56, 3) := by decide +kernel
theorem d_S_signature_22 : decode b_S_signature 22 = .ok (.athrow, 1) := by decide +kernel
theorem d_S_signature_23 : decode b_S_signature 23 = .ok (.aload_n 0, 1) := by decide +kernel
theorem d_S_signature_24 : decode b_S_signature 24 = .ok (.iload_n 2, 1) := by decide +kernel
theorem d_S_signature_25 : decode b_S_signature 25 = .ok (.invokevirtual 57, 3) := by decide +kernel
theorem d_S_signature_28 : decode b_S_signature 28 = .ok (.ifCond .eq 19, 3) := by decide +kernel
theorem d_S_signature_31 : decode b_S_signature 31 = .ok (.aload_n 0, 1) := by decide +kernel
theorem d_S_signature_32 : decode b_S_signature 32 = .ok (.iload_n 1, 1) := by decide +kernel
theorem d_S_signature_33 : decode b_S_signature 33 = .ok (.iload_n 2, 1) := by decide +kernel
theorem d_S_signature_34 : decode b_S_signature 34 = .ok (.iload_n 3, 1) := by decide +kernel
theorem d_S_signature_35 : decode b_S_signature 35 = .ok (.iload 4, 2) := by decide +kernel
theorem d_S_signature_37 : decode b_S_signature 37 = .ok (.iload 5, 2) := by decide +kernel
theorem d_S_signature_39 : decode b_S_signature 39 = .ok (.iload 6, 2) := by decide +kernel
theorem d_S_signature_41 : decode b_S_signature 41 = .ok (.invokevirtual 61, 3) := by decide +kernel
theorem d_S_signature_44 : decode b_S_signature 44 = .ok (.goto 4, 3) := by decide +kernel
theorem d_S_signature_47 : decode b_S_signature 47 = .ok (.iconst 0, 1) := by decide +kernel
theorem d_S_signature_48 : decode b_S_signature 48 = .ok (.ireturn, 1) := by decide +kernel
theorem d_S_certify_0 : decode b_S_certify 0 = .ok (.iload_n 1, 1) := by decide +kernel
theorem d_S_certify_1 : decode b_S_certify 1 = .ok (.invokestatic 65, 3) := by decide +kernel
theorem d_S_certify_4 : decode b_S_certify 4 = .ok (.iload_n 2, 1) := by decide +kernel
theorem d_S_certify_5 : decode b_S_certify 5 = .ok (.iload_n 3, 1) := by decide +kernel
theorem d_S_certify_6 : decode b_S_certify 6 = .ok (.iload 4, 2) := by decide +kernel
theorem d_S_certify_8 : decode b_S_certify 8 = .ok (.iload 5, 2) := by decide +kernel
theorem d_S_certify_10 : decode b_S_certify 10 = .ok (.iload 6, 2) := by decide +kernel
theorem d_S_certify_12 : decode b_S_certify 12 = .ok (.iload 7, 2) := by decide +kernel
theorem d_S_certify_14 : decode b_S_certify 14 = .ok (.invokestatic 50, 3) := by decide +kernel
theorem d_S_certify_17 : decode b_S_certify 17 = .ok (.ifCond .eq 15, 3) := by decide +kernel
theorem d_S_certify_20 : decode b_S_certify 20 = .ok (.iload 8, 2) := by decide +kernel
theorem d_S_certify_22 : decode b_S_certify 22 = .ok (.iconst 0, 1) := by decide +kernel
theorem d_S_certify_23 : decode b_S_certify 23 = .ok (.sipush 9972, 3) := by decide +kernel
theorem d_S_certify_26 : decode b_S_certify 26 = .ok (.invokestatic 69, 3) := by decide +kernel
theorem d_S_certify_29 : decode b_S_certify 29 = .ok (.ifCond .ne 11, 3) := by decide +kernel
theorem d_S_certify_32 : decode b_S_certify 32 = .ok (.new 54, 3) := by decide +kernel
theorem d_S_certify_35 : decode b_S_certify 35 = .ok (.dup, 1) := by decide +kernel
theorem d_S_certify_36 : decode b_S_certify 36 = .ok (.invokespecial 56, 3) := by decide +kernel
theorem d_S_certify_39 : decode b_S_certify 39 = .ok (.athrow, 1) := by decide +kernel
theorem d_S_certify_40 : decode b_S_certify 40 = .ok (.aload_n 0, 1) := by decide +kernel
theorem d_S_certify_41 : decode b_S_certify 41 = .ok (.iload_n 1, 1) := by decide +kernel
theorem d_S_certify_42 : decode b_S_certify 42 = .ok (.invokevirtual 73, 3) := by decide +kernel
theorem d_S_certify_45 : decode b_S_certify 45 = .ok (.aload_n 0, 1) := by decide +kernel
theorem d_S_certify_46 : decode b_S_certify 46 = .ok (.iload_n 1, 1) := by decide +kernel
theorem d_S_certify_47 : decode b_S_certify 47 = .ok (.iload_n 2, 1) := by decide +kernel
theorem d_S_certify_48 : decode b_S_certify 48 = .ok (.invokevirtual 76, 3) := by decide +kernel
theorem d_S_certify_51 : decode b_S_certify 51 = .ok (.ifnonnull 7, 3) := by decide +kernel
theorem d_S_certify_54 : decode b_S_certify 54 = .ok (.iconst 1, 1) := by decide +kernel
theorem d_S_certify_55 : decode b_S_certify 55 = .ok (.goto 4, 3) := by decide +kernel
theorem d_S_certify_58 : decode b_S_certify 58 = .ok (.iconst 0, 1) := by decide +kernel
theorem d_S_certify_59 : decode b_S_certify 59 = .ok (.istore 9, 2) := by decide +kernel
theorem d_S_certify_61 : decode b_S_certify 61 = .ok (.aload_n 0, 1) := by decide +kernel
theorem d_S_certify_62 : decode b_S_certify 62 = .ok (.iload_n 1, 1) := by decide +kernel
theorem d_S_certify_63 : decode b_S_certify 63 = .ok (.new 24, 3) := by decide +kernel
theorem d_S_certify_66 : decode b_S_certify 66 = .ok (.dup, 1) := by decide +kernel
theorem d_S_certify_67 : decode b_S_certify 67 = .ok (.iload_n 2, 1) := by decide +kernel
theorem d_S_certify_68 : decode b_S_certify 68 = .ok (.iload_n 3, 1) := by decide +kernel
theorem d_S_certify_69 : decode b_S_certify 69 = .ok (.iload 4, 2) := by decide +kernel
theorem d_S_certify_71 : decode b_S_certify 71 = .ok (.iload 5, 2) := by decide +kernel
theorem d_S_certify_73 : decode b_S_certify 73 = .ok (.iload 6, 2) := by decide +kernel
theorem d_S_certify_75 : decode b_S_certify 75 = .ok (.iload 7, 2) := by decide +kernel
theorem d_S_certify_77 : decode b_S_certify 77 = .ok (.iload 8, 2) := by decide +kernel
theorem d_S_certify_79 : decode b_S_certify 79 = .ok (.invokespecial 80, 3) := by decide +kernel
theorem d_S_certify_82 : decode b_S_certify 82 = .ok (.invokevirtual 83, 3) := by decide +kernel
theorem d_S_certify_85 : decode b_S_certify 85 = .ok (.iload 9, 2) := by decide +kernel
theorem d_S_certify_87 : decode b_S_certify 87 = .ok (.ifCond .eq 7, 3) := by decide +kernel
theorem d_S_certify_90 : decode b_S_certify 90 = .ok (.iconst 1, 1) := by decide +kernel
theorem d_S_certify_91 : decode b_S_certify 91 = .ok (.goto 4, 3) := by decide +kernel
theorem d_S_certify_94 : decode b_S_certify 94 = .ok (.iconst 0, 1) := by decide +kernel
theorem d_S_certify_95 : decode b_S_certify 95 = .ok (.ireturn, 1) := by decide +kernel
theorem d_S_enrol_0 : decode b_S_enrol 0 = .ok (.iload_n 1, 1) := by decide +kernel
theorem d_S_enrol_1 : decode b_S_enrol 1 = .ok (.iconst 0, 1) := by decide +kernel
theorem d_S_enrol_2 : decode b_S_enrol 2 = .ok (.iconst 5, 1) := by decide +kernel
theorem d_S_enrol_3 : decode b_S_enrol 3 = .ok (.invokestatic 69, 3) := by decide +kernel
theorem d_S_enrol_6 : decode b_S_enrol 6 = .ok (.ifCond .eq 14, 3) := by decide +kernel
theorem d_S_enrol_9 : decode b_S_enrol 9 = .ok (.iload_n 2, 1) := by decide +kernel
theorem d_S_enrol_10 : decode b_S_enrol 10 = .ok (.iconst 0, 1) := by decide +kernel
theorem d_S_enrol_11 : decode b_S_enrol 11 = .ok (.sipush 9972, 3) := by decide +kernel
theorem d_S_enrol_14 : decode b_S_enrol 14 = .ok (.invokestatic 69, 3) := by decide +kernel
theorem d_S_enrol_17 : decode b_S_enrol 17 = .ok (.ifCond .ne 11, 3) := by decide +kernel
theorem d_S_enrol_20 : decode b_S_enrol 20 = .ok (.new 54, 3) := by decide +kernel
theorem d_S_enrol_23 : decode b_S_enrol 23 = .ok (.dup, 1) := by decide +kernel
theorem d_S_enrol_24 : decode b_S_enrol 24 = .ok (.invokespecial 56, 3) := by decide +kernel
theorem d_S_enrol_27 : decode b_S_enrol 27 = .ok (.athrow, 1) := by decide +kernel
theorem d_S_enrol_28 : decode b_S_enrol 28 = .ok (.aload_n 0, 1) := by decide +kernel
theorem d_S_enrol_29 : decode b_S_enrol 29 = .ok (.getfield 87, 3) := by decide +kernel
theorem d_S_enrol_32 : decode b_S_enrol 32 = .ok (.ifCond .eq 11, 3) := by decide +kernel
theorem d_S_enrol_35 : decode b_S_enrol 35 = .ok (.new 91, 3) := by decide +kernel
theorem d_S_enrol_38 : decode b_S_enrol 38 = .ok (.dup, 1) := by decide +kernel
theorem d_S_enrol_39 : decode b_S_enrol 39 = .ok (.invokespecial 93, 3) := by decide +kernel
theorem d_S_enrol_42 : decode b_S_enrol 42 = .ok (.athrow, 1) := by decide +kernel
theorem d_S_enrol_43 : decode b_S_enrol 43 = .ok (.aload_n 0, 1) := by decide +kernel
theorem d_S_enrol_44 : decode b_S_enrol 44 = .ok (.getfield 21, 3) := by decide +kernel
theorem d_S_enrol_47 : decode b_S_enrol 47 = .ok (.iload_n 1, 1) := by decide +kernel
theorem d_S_enrol_48 : decode b_S_enrol 48 = .ok (.iaload, 1) := by decide +kernel
theorem d_S_enrol_49 : decode b_S_enrol 49 = .ok (.istore_n 3, 1) := by decide +kernel
theorem d_S_enrol_50 : decode b_S_enrol 50 = .ok (.aload_n 0, 1) := by decide +kernel
theorem d_S_enrol_51 : decode b_S_enrol 51 = .ok (.getfield 21, 3) := by decide +kernel
theorem d_S_enrol_54 : decode b_S_enrol 54 = .ok (.iload_n 1, 1) := by decide +kernel
theorem d_S_enrol_55 : decode b_S_enrol 55 = .ok (.iload_n 2, 1) := by decide +kernel
theorem d_S_enrol_56 : decode b_S_enrol 56 = .ok (.iastore, 1) := by decide +kernel
theorem d_S_enrol_57 : decode b_S_enrol 57 = .ok (.iload_n 3, 1) := by decide +kernel
theorem d_S_enrol_58 : decode b_S_enrol 58 = .ok (.ireturn, 1) := by decide +kernel
theorem d_S_start_0 : decode b_S_start 0 = .ok (.aload_n 0, 1) := by decide +kernel
theorem d_S_start_1 : decode b_S_start 1 = .ok (.invokevirtual 94, 3) := by decide +kernel
theorem d_S_start_4 : decode b_S_start 4 = .ok (.istore_n 1, 1) := by decide +kernel
theorem d_S_start_5 : decode b_S_start 5 = .ok (.aload_n 0, 1) := by decide +kernel
theorem d_S_start_6 : decode b_S_start 6 = .ok (.getfield 87, 3) := by decide +kernel
theorem d_S_start_9 : decode b_S_start 9 = .ok (.ifCond .ne 23, 3) := by decide +kernel
theorem d_S_start_12 : decode b_S_start 12 = .ok (.iload_n 1, 1) := by decide +kernel
theorem d_S_start_13 : decode b_S_start 13 = .ok (.ifCond .eq 19, 3) := by decide +kernel
theorem d_S_start_16 : decode b_S_start 16 = .ok (.aload_n 0, 1) := by decide +kernel
theorem d_S_start_17 : decode b_S_start 17 = .ok (.getfield 41, 3) := by decide +kernel
theorem d_S_start_20 : decode b_S_start 20 = .ok (.iconst (-1), 1) := by decide +kernel
theorem d_S_start_21 : decode b_S_start 21 = .ok (.if_icmp .ne 11, 3) := by decide +kernel
theorem d_S_start_24 : decode b_S_start 24 = .ok (.aload_n 0, 1) := by decide +kernel
theorem d_S_start_25 : decode b_S_start 25 = .ok (.getfield 44, 3) := by decide +kernel
theorem d_S_start_28 : decode b_S_start 28 = .ok (.iconst (-1), 1) := by decide +kernel
theorem d_S_start_29 : decode b_S_start 29 = .ok (.if_icmp .eq 11, 3) := by decide +kernel
theorem d_S_start_32 : decode b_S_start 32 = .ok (.new 91, 3) := by decide +kernel
theorem d_S_start_35 : decode b_S_start 35 = .ok (.dup, 1) := by decide +kernel
theorem d_S_start_36 : decode b_S_start 36 = .ok (.invokespecial 93, 3) := by decide +kernel
theorem d_S_start_39 : decode b_S_start 39 = .ok (.athrow, 1) := by decide +kernel
theorem d_S_start_40 : decode b_S_start 40 = .ok (.aload_n 0, 1) := by decide +kernel
theorem d_S_start_41 : decode b_S_start 41 = .ok (.iconst 1, 1) := by decide +kernel
theorem d_S_start_42 : decode b_S_start 42 = .ok (.putfield 87, 3) := by decide +kernel
theorem d_S_start_45 : decode b_S_start 45 = .ok (.aload_n 0, 1) := by decide +kernel
theorem d_S_start_46 : decode b_S_start 46 = .ok (.iconst 0, 1) := by decide +kernel
theorem d_S_start_47 : decode b_S_start 47 = .ok (.invokevirtual 98, 3) := by decide +kernel
theorem d_S_start_50 : decode b_S_start 50 = .ok (.aload_n 0, 1) := by decide +kernel
theorem d_S_start_51 : decode b_S_start 51 = .ok (.iconst 0, 1) := by decide +kernel
theorem d_S_start_52 : decode b_S_start 52 = .ok (.putfield 47, 3) := by decide +kernel
theorem d_S_start_55 : decode b_S_start 55 = .ok (.aload_n 0, 1) := by decide +kernel
theorem d_S_start_56 : decode b_S_start 56 = .ok (.getfield 33, 3) := by decide +kernel
theorem d_S_start_59 : decode b_S_start 59 = .ok (.iconst 1, 1) := by decide +kernel
theorem d_S_start_60 : decode b_S_start 60 = .ok (.aload_n 0, 1) := by decide +kernel
theorem d_S_start_61 : decode b_S_start 61 = .ok (.getfield 101, 3) := by decide +kernel
theorem d_S_start_64 : decode b_S_start 64 = .ok (.iconst (-1), 1) := by decide +kernel
theorem d_S_start_65 : decode b_S_start 65 = .ok (.invokevirtual 104, 3) := by decide +kernel
theorem d_S_start_68 : decode b_S_start 68 = .ok (.iload_n 1, 1) := by decide +kernel
theorem d_S_start_69 : decode b_S_start 69 = .ok (.ireturn, 1) := by decide +kernel
theorem d_S_insert_0 : decode b_S_insert 0 = .ok (.aload_n 0, 1) := by decide +kernel
theorem d_S_insert_1 : decode b_S_insert 1 = .ok (.invokevirtual 108, 3) := by decide +kernel
theorem d_S_insert_4 : decode b_S_insert 4 = .ok (.iload_n 1, 1) := by decide +kernel
theorem d_S_insert_5 : decode b_S_insert 5 = .ok (.invokestatic 65, 3) := by decide +kernel
theorem d_S_insert_8 : decode b_S_insert 8 = .ok (.aload_n 0, 1) := by decide +kernel
theorem d_S_insert_9 : decode b_S_insert 9 = .ok (.iload_n 1, 1) := by decide +kernel
theorem d_S_insert_10 : decode b_S_insert 10 = .ok (.invokevirtual 73, 3) := by decide +kernel
theorem d_S_insert_13 : decode b_S_insert 13 = .ok (.aload_n 0, 1) := by decide +kernel
theorem d_S_insert_14 : decode b_S_insert 14 = .ok (.getfield 41, 3) := by decide +kernel
theorem d_S_insert_17 : decode b_S_insert 17 = .ok (.invokestatic 111, 3) := by decide +kernel
theorem d_S_insert_20 : decode b_S_insert 20 = .ok (.aload_n 0, 1) := by decide +kernel
theorem d_S_insert_21 : decode b_S_insert 21 = .ok (.iload_n 1, 1) := by decide +kernel
theorem d_S_insert_22 : decode b_S_insert 22 = .ok (.putfield 41, 3) := by decide +kernel
theorem d_S_insert_25 : decode b_S_insert 25 = .ok (.aload_n 0, 1) := by decide +kernel
theorem d_S_insert_26 : decode b_S_insert 26 = .ok (.iload_n 1, 1) := by decide +kernel
theorem d_S_insert_27 : decode b_S_insert 27 = .ok (.iconst 2, 1) := by decide +kernel
theorem d_S_insert_28 : decode b_S_insert 28 = .ok (.invokevirtual 114, 3) := by decide +kernel
theorem d_S_insert_31 : decode b_S_insert 31 = .ok (.aload_n 0, 1) := by decide +kernel
theorem d_S_insert_32 : decode b_S_insert 32 = .ok (.iload_n 1, 1) := by decide +kernel
theorem d_S_insert_33 : decode b_S_insert 33 = .ok (.invokevirtual 118, 3) := by decide +kernel
theorem d_S_insert_36 : decode b_S_insert 36 = .ok (.ifCond .eq 10, 3) := by decide +kernel
theorem d_S_insert_39 : decode b_S_insert 39 = .ok (.aload_n 0, 1) := by decide +kernel
theorem d_S_insert_40 : decode b_S_insert 40 = .ok (.invokevirtual 121, 3) := by decide +kernel
theorem d_S_insert_43 : decode b_S_insert 43 = .ok (.goto 24, 3) := by decide +kernel
theorem d_S_insert_46 : decode b_S_insert 46 = .ok (.aload_n 0, 1) := by decide +kernel
theorem d_S_insert_47 : decode b_S_insert 47 = .ok (.iload_n 1, 1) := by decide +kernel
theorem d_S_insert_48 : decode b_S_insert 48 = .ok (.invokevirtual 124, 3) := by decide +kernel
theorem d_S_insert_51 : decode b_S_insert 51 = .ok (.ifCond .eq 11, 3) := by decide +kernel
theorem d_S_insert_54 : decode b_S_insert 54 = .ok (.aload_n 0, 1) := by decide +kernel
theorem d_S_insert_55 : decode b_S_insert 55 = .ok (.iconst 1, 1) := by decide +kernel
theorem d_S_insert_56 : decode b_S_insert 56 = .ok (.invokevirtual 98, 3) := by decide +kernel
theorem d_S_insert_59 : decode b_S_insert 59 = .ok (.goto 8, 3) := by decide +kernel
theorem d_S_insert_62 : decode b_S_insert 62 = .ok (.aload_n 0, 1) := by decide +kernel
theorem d_S_insert_63 : decode b_S_insert 63 = .ok (.iconst 3, 1) := by decide +kernel
theorem d_S_insert_64 : decode b_S_insert 64 = .ok (.invokevirtual 127, 3) := by decide +kernel
theorem d_S_insert_67 : decode b_S_insert 67 = .ok (.aload_n 0, 1) := by decide +kernel
theorem d_S_insert_68 : decode b_S_insert 68 = .ok (.getfield 37, 3) := by decide +kernel
theorem d_S_insert_71 : decode b_S_insert 71 = .ok (.ireturn, 1) := by decide +kernel
theorem d_S_finger_0 : decode b_S_finger 0 = .ok (.aload_n 0, 1) := by decide +kernel
theorem d_S_finger_1 : decode b_S_finger 1 = .ok (.invokevirtual 108, 3) := by decide +kernel
theorem d_S_finger_4 : decode b_S_finger 4 = .ok (.aload_n 0, 1) := by decide +kernel
theorem d_S_finger_5 : decode b_S_finger 5 = .ok (.getfield 37, 3) := by decide +kernel
theorem d_S_finger_8 : decode b_S_finger 8 = .ok (.iconst 1, 1) := by decide +kernel
theorem d_S_finger_9 : decode b_S_finger 9 = .ok (.if_icmp .eq 11, 3) := by decide +kernel
theorem d_S_finger_12 : decode b_S_finger 12 = .ok (.new 91, 3) := by decide +kernel
theorem d_S_finger_15 : decode b_S_finger 15 = .ok (.dup, 1) := by decide +kernel
theorem d_S_finger_16 : decode b_S_finger 16 = .ok (.invokespecial 93, 3) := by decide +kernel
theorem d_S_finger_19 : decode b_S_finger 19 = .ok (.athrow, 1) := by decide +kernel
theorem d_S_finger_20 : decode b_S_finger 20 = .ok (.iload_n 1, 1) := by decide +kernel
theorem d_S_finger_21 : decode b_S_finger 21 = .ok (.iconst 0, 1) := by decide +kernel
theorem d_S_finger_22 : decode b_S_finger 22 = .ok (.ldc 130, 2) := by decide +kernel
theorem d_S_finger_24 : decode b_S_finger 24 = .ok (.invokestatic 69, 3) := by decide +kernel
theorem d_S_finger_27 : decode b_S_finger 27 = .ok (.ifCond .ne 11, 3) := by decide +kernel
theorem d_S_finger_30 : decode b_S_finger 30 = .ok (.new 54, 3) := by decide +kernel
theorem d_S_finger_33 : decode b_S_finger 33 = .ok (.dup, 1) := by decide +kernel
theorem d_S_finger_34 : decode b_S_finger 34 = .ok (.invokespecial 56, 3) := by decide +kernel
theorem d_S_finger_37 : decode b_S_finger 37 = .ok (.athrow, 1) := by decide +kernel
theorem d_S_finger_38 : decode b_S_finger 38 = .ok (.aload_n 0, 1) := by decide +kernel
theorem d_S_finger_39 : decode b_S_finger 39 = .ok (.aload_n 0, 1) := by decide +kernel
theorem d_S_finger_40 : decode b_S_finger 40 = .ok (.getfield 41, 3) := by decide +kernel
theorem d_S_finger_43 : decode b_S_finger 43 = .ok (.iconst 1, 1) := by decide +kernel
theorem d_S_finger_44 : decode b_S_finger 44 = .ok (.invokevirtual 76, 3) := by decide +kernel
theorem d_S_finger_47 : decode b_S_finger 47 = .ok (.astore_n 2, 1) := by decide +kernel
theorem d_S_finger_48 : decode b_S_finger 48 = .ok (.aload_n 0, 1) := by decide +kernel
theorem d_S_finger_49 : decode b_S_finger 49 = .ok (.aload_n 0, 1) := by decide +kernel
theorem d_S_finger_50 : decode b_S_finger 50 = .ok (.getfield 41, 3) := by decide +kernel
theorem d_S_finger_53 : decode b_S_finger 53 = .ok (.iconst 2, 1) := by decide +kernel
theorem d_S_finger_54 : decode b_S_finger 54 = .ok (.invokevirtual 76, 3) := by decide +kernel
theorem d_S_finger_57 : decode b_S_finger 57 = .ok (.astore_n 3, 1) := by decide +kernel
theorem d_S_finger_58 : decode b_S_finger 58 = .ok (.aload_n 2, 1) := by decide +kernel
theorem d_S_finger_59 : decode b_S_finger 59 = .ok (.ifnull 48, 3) := by decide +kernel
theorem d_S_finger_62 : decode b_S_finger 62 = .ok (.aload_n 3, 1) := by decide +kernel
theorem d_S_finger_63 : decode b_S_finger 63 = .ok (.ifnull 44, 3) := by decide +kernel
theorem d_S_finger_66 : decode b_S_finger 66 = .ok (.aload_n 0, 1) := by decide +kernel
theorem d_S_finger_67 : decode b_S_finger 67 = .ok (.iload_n 1, 1) := by decide +kernel
theorem d_S_finger_68 : decode b_S_finger 68 = .ok (.aload_n 3, 1) := by decide +kernel
theorem d_S_finger_69 : decode b_S_finger 69 = .ok (.getfield 131, 3) := by decide +kernel
theorem d_S_finger_72 : decode b_S_finger 72 = .ok (.invokevirtual 134, 3) := by decide +kernel
theorem d_S_finger_75 : decode b_S_finger 75 = .ok (.ifCond .eq 32, 3) := by decide +kernel
theorem d_S_finger_78 : decode b_S_finger 78 = .ok (.aload_n 0, 1) := by decide +kernel
theorem d_S_finger_79 : decode b_S_finger 79 = .ok (.aload_n 0, 1) := by decide +kernel
theorem d_S_finger_80 : decode b_S_finger 80 = .ok (.getfield 41, 3) := by decide +kernel
theorem d_S_finger_83 : decode b_S_finger 83 = .ok (.aload_n 0, 1) := by decide +kernel
theorem d_S_finger_84 : decode b_S_finger 84 = .ok (.aload_n 2, 1) := by decide +kernel
theorem d_S_finger_85 : decode b_S_finger 85 = .ok (.invokevirtual 138, 3) := by decide +kernel
theorem d_S_finger_88 : decode b_S_finger 88 = .ok (.invokevirtual 83, 3) := by decide +kernel
theorem d_S_finger_91 : decode b_S_finger 91 = .ok (.aload_n 0, 1) := by decide +kernel
theorem d_S_finger_92 : decode b_S_finger 92 = .ok (.aload_n 0, 1) := by decide +kernel
theorem d_S_finger_93 : decode b_S_finger 93 = .ok (.getfield 41, 3) := by decide +kernel
theorem d_S_finger_96 : decode b_S_finger 96 = .ok (.iconst 4, 1) := by decide +kernel
theorem d_S_finger_97 : decode b_S_finger 97 = .ok (.invokevirtual 114, 3) := by decide +kernel
theorem d_S_finger_100 : decode b_S_finger 100 = .ok (.aload_n 0, 1) := by decide +kernel
theorem d_S_finger_101 : decode b_S_finger 101 = .ok (.invokevirtual 121, 3) := by decide +kernel
theorem d_S_finger_104 : decode b_S_finger 104 = .ok (.goto 8, 3) := by decide +kernel
theorem d_S_finger_107 : decode b_S_finger 107 = .ok (.aload_n 0, 1) := by decide +kernel
theorem d_S_finger_108 : decode b_S_finger 108 = .ok (.iconst 5, 1) := by decide +kernel
theorem d_S_finger_109 : decode b_S_finger 109 = .ok (.invokevirtual 127, 3) := by decide +kernel
theorem d_S_finger_112 : decode b_S_finger 112 = .ok (.aload_n 0, 1) := by decide +kernel
theorem d_S_finger_113 : decode b_S_finger 113 = .ok (.getfield 37, 3) := by decide +kernel
theorem d_S_finger_116 : decode b_S_finger 116 = .ok (.ireturn, 1) := by decide +kernel
theorem d_S_remove_0 : decode b_S_remove 0 = .ok (.aload_n 0, 1) := by decide +kernel
theorem d_S_remove_1 : decode b_S_remove 1 = .ok (.invokevirtual 108, 3) := by decide +kernel
theorem d_S_remove_4 : decode b_S_remove 4 = .ok (.aload_n 0, 1) := by decide +kernel
theorem d_S_remove_5 : decode b_S_remove 5 = .ok (.getfield 41, 3) := by decide +kernel
theorem d_S_remove_8 : decode b_S_remove 8 = .ok (.invokestatic 142, 3) := by decide +kernel
theorem d_S_remove_11 : decode b_S_remove 11 = .ok (.aload_n 0, 1) := by decide +kernel
theorem d_S_remove_12 : decode b_S_remove 12 = .ok (.getfield 41, 3) := by decide +kernel
theorem d_S_remove_15 : decode b_S_remove 15 = .ok (.istore_n 1, 1) := by decide +kernel
theorem d_S_remove_16 : decode b_S_remove 16 = .ok (.aload_n 0, 1) := by decide +kernel
theorem d_S_remove_17 : decode b_S_remove 17 = .ok (.getfield 37, 3) := by decide +kernel
theorem d_S_remove_20 : decode b_S_remove 20 = .ok (.iconst 2, 1) := by decide +kernel
theorem d_S_remove_21 : decode b_S_remove 21 = .ok (.if_icmp .ne 10, 3) := by decide +kernel
theorem d_S_remove_24 : decode b_S_remove 24 = .ok (.aload_n 0, 1) := by decide +kernel
theorem d_S_remove_25 : decode b_S_remove 25 = .ok (.invokevirtual 145, 3) := by decide +kernel
theorem d_S_remove_28 : decode b_S_remove 28 = .ok (.goto 18, 3) := by decide +kernel
theorem d_S_remove_31 : decode b_S_remove 31 = .ok (.aload_n 0, 1) := by decide +kernel
theorem d_S_remove_32 : decode b_S_remove 32 = .ok (.getfield 37, 3) := by decide +kernel
theorem d_S_remove_35 : decode b_S_remove 35 = .ok (.iconst 1, 1) := by decide +kernel
theorem d_S_remove_36 : decode b_S_remove 36 = .ok (.if_icmp .ne 10, 3) := by decide +kernel
theorem d_S_remove_39 : decode b_S_remove 39 = .ok (.aload_n 0, 1) := by decide +kernel
theorem d_S_remove_40 : decode b_S_remove 40 = .ok (.iload_n 1, 1) := by decide +kernel
theorem d_S_remove_41 : decode b_S_remove 41 = .ok (.bipush 8, 2) := by decide +kernel
theorem d_S_remove_43 : decode b_S_remove 43 = .ok (.invokevirtual 114, 3) := by decide +kernel
theorem d_S_remove_46 : decode b_S_remove 46 = .ok (.aload_n 0, 1) := by decide +kernel
theorem d_S_remove_47 : decode b_S_remove 47 = .ok (.iconst (-1), 1) := by decide +kernel
theorem d_S_remove_48 : decode b_S_remove 48 = .ok (.putfield 41, 3) := by decide +kernel
theorem d_S_remove_51 : decode b_S_remove 51 = .ok (.aload_n 0, 1) := by decide +kernel
theorem d_S_remove_52 : decode b_S_remove 52 = .ok (.iconst 0, 1) := by decide +kernel
theorem d_S_remove_53 : decode b_S_remove 53 = .ok (.invokevirtual 98, 3) := by decide +kernel
theorem d_S_remove_56 : decode b_S_remove 56 = .ok (.iload_n 1, 1) := by decide +kernel
theorem d_S_remove_57 : decode b_S_remove 57 = .ok (.ireturn, 1) := by decide +kernel
theorem d_S_logon_0 : decode b_S_logon 0 = .ok (.aload_n 0, 1) := by decide +kernel
theorem d_S_logon_1 : decode b_S_logon 1 = .ok (.invokevirtual 108, 3) := by decide +kernel
theorem d_S_logon_4 : decode b_S_logon 4 = .ok (.iload_n 1, 1) := by decide +kernel
theorem d_S_logon_5 : decode b_S_logon 5 = .ok (.invokestatic 65, 3) := by decide +kernel
theorem d_S_logon_8 : decode b_S_logon 8 = .ok (.aload_n 0, 1) := by decide +kernel
theorem d_S_logon_9 : decode b_S_logon 9 = .ok (.iload_n 1, 1) := by decide +kernel
theorem d_S_logon_10 : decode b_S_logon 10 = .ok (.invokevirtual 73, 3) := by decide +kernel
theorem d_S_logon_13 : decode b_S_logon 13 = .ok (.aload_n 0, 1) := by decide +kernel
theorem d_S_logon_14 : decode b_S_logon 14 = .ok (.getfield 44, 3) := by decide +kernel
theorem d_S_logon_17 : decode b_S_logon 17 = .ok (.invokestatic 111, 3) := by decide +kernel
theorem d_S_logon_20 : decode b_S_logon 20 = .ok (.aload_n 0, 1) := by decide +kernel
theorem d_S_logon_21 : decode b_S_logon 21 = .ok (.iload_n 1, 1) := by decide +kernel
theorem d_S_logon_22 : decode b_S_logon 22 = .ok (.putfield 44, 3) := by decide +kernel
theorem d_S_logon_25 : decode b_S_logon 25 = .ok (.aload_n 0, 1) := by decide +kernel
theorem d_S_logon_26 : decode b_S_logon 26 = .ok (.aload_n 0, 1) := by decide +kernel
theorem d_S_logon_27 : decode b_S_logon 27 = .ok (.iload_n 1, 1) := by decide +kernel
theorem d_S_logon_28 : decode b_S_logon 28 = .ok (.invokevirtual 118, 3) := by decide +kernel
theorem d_S_logon_31 : decode b_S_logon 31 = .ok (.ifCond .eq 11, 3) := by decide +kernel
theorem d_S_logon_34 : decode b_S_logon 34 = .ok (.aload_n 0, 1) := by decide +kernel
theorem d_S_logon_35 : decode b_S_logon 35 = .ok (.iload_n 1, 1) := by decide +kernel
theorem d_S_logon_36 : decode b_S_logon 36 = .ok (.invokevirtual 148, 3) := by decide +kernel
theorem d_S_logon_39 : decode b_S_logon 39 = .ok (.goto 4, 3) := by decide +kernel
theorem d_S_logon_42 : decode b_S_logon 42 = .ok (.iconst 0, 1) := by decide +kernel
theorem d_S_logon_43 : decode b_S_logon 43 = .ok (.putfield 47, 3) := by decide +kernel
theorem d_S_logon_46 : decode b_S_logon 46 = .ok (.aload_n 0, 1) := by decide +kernel
theorem d_S_logon_47 : decode b_S_logon 47 = .ok (.iload_n 1, 1) := by decide +kernel
theorem d_S_logon_48 : decode b_S_logon 48 = .ok (.aload_n 0, 1) := by decide +kernel
theorem d_S_logon_49 : decode b_S_logon 49 = .ok (.getfield 47, 3) := by decide +kernel
theorem d_S_logon_52 : decode b_S_logon 52 = .ok (.ifCond .ne 8, 3) := by decide +kernel
theorem d_S_logon_55 : decode b_S_logon 55 = .ok (.bipush 16, 2) := by decide +kernel
theorem d_S_logon_57 : decode b_S_logon 57 = .ok (.goto 5, 3) := by decide +kernel
theorem d_S_logon_60 : decode b_S_logon 60 = .ok (.bipush 10, 2) := by decide +kernel
theorem d_S_logon_62 : decode b_S_logon 62 = .ok (.invokevirtual 114, 3) := by decide +kernel
theorem d_S_logon_65 : decode b_S_logon 65 = .ok (.aload_n 0, 1) := by decide +kernel
theorem d_S_logon_66 : decode b_S_logon 66 = .ok (.getfield 47, 3) := by decide +kernel
theorem d_S_logon_69 : decode b_S_logon 69 = .ok (.ireturn, 1) := by decide +kernel
theorem d_S_logoff_0 : decode b_S_logoff 0 = .ok (.aload_n 0, 1) := by decide +kernel
theorem d_S_logoff_1 : decode b_S_logoff 1 = .ok (.invokevirtual 108, 3) := by decide +kernel
theorem d_S_logoff_4 : decode b_S_logoff 4 = .ok (.aload_n 0, 1) := by decide +kernel
theorem d_S_logoff_5 : decode b_S_logoff 5 = .ok (.getfield 44, 3) := by decide +kernel
theorem d_S_logoff_8 : decode b_S_logoff 8 = .ok (.invokestatic 142, 3) := by decide +kernel
theorem d_S_logoff_11 : decode b_S_logoff 11 = .ok (.aload_n 0, 1) := by decide +kernel
theorem d_S_logoff_12 : decode b_S_logoff 12 = .ok (.getfield 44, 3) := by decide +kernel
theorem d_S_logoff_15 : decode b_S_logoff 15 = .ok (.istore_n 1, 1) := by decide +kernel
theorem d_S_logoff_16 : decode b_S_logoff 16 = .ok (.aload_n 0, 1) := by decide +kernel
theorem d_S_logoff_17 : decode b_S_logoff 17 = .ok (.getfield 47, 3) := by decide +kernel
theorem d_S_logoff_20 : decode b_S_logoff 20 = .ok (.ifCond .eq 7, 3) := by decide +kernel
theorem d_S_logoff_23 : decode b_S_logoff 23 = .ok (.aload_n 0, 1) := by decide +kernel
theorem d_S_logoff_24 : decode b_S_logoff 24 = .ok (.invokevirtual 152, 3) := by decide +kernel
theorem d_S_logoff_27 : decode b_S_logoff 27 = .ok (.aload_n 0, 1) := by decide +kernel
theorem d_S_logoff_28 : decode b_S_logoff 28 = .ok (.iconst (-1), 1) := by decide +kernel
theorem d_S_logoff_29 : decode b_S_logoff 29 = .ok (.putfield 44, 3) := by decide +kernel
theorem d_S_logoff_32 : decode b_S_logoff 32 = .ok (.iload_n 1, 1) := by decide +kernel
theorem d_S_logoff_33 : decode b_S_logoff 33 = .ok (.ireturn, 1) := by decide +kernel
theorem d_S_override_0 : decode b_S_override 0 = .ok (.aload_n 0, 1) := by decide +kernel
theorem d_S_override_1 : decode b_S_override 1 = .ok (.invokevirtual 108, 3) := by decide +kernel
theorem d_S_override_4 : decode b_S_override 4 = .ok (.aload_n 0, 1) := by decide +kernel
theorem d_S_override_5 : decode b_S_override 5 = .ok (.invokevirtual 155, 3) := by decide +kernel
theorem d_S_override_8 : decode b_S_override 8 = .ok (.aload_n 0, 1) := by decide +kernel
theorem d_S_override_9 : decode b_S_override 9 = .ok (.iconst 1, 1) := by decide +kernel
theorem d_S_override_10 : decode b_S_override 10 = .ok (.invokevirtual 158, 3) := by decide +kernel
theorem d_S_override_13 : decode b_S_override 13 = .ok (.aload_n 0, 1) := by decide +kernel
theorem d_S_override_14 : decode b_S_override 14 = .ok (.invokevirtual 145, 3) := by decide +kernel
theorem d_S_override_17 : decode b_S_override 17 = .ok (.aload_n 0, 1) := by decide +kernel
theorem d_S_override_18 : decode b_S_override 18 = .ok (.aload_n 0, 1) := by decide +kernel
theorem d_S_override_19 : decode b_S_override 19 = .ok (.getfield 44, 3) := by decide +kernel
theorem d_S_override_22 : decode b_S_override 22 = .ok (.bipush 12, 2) := by decide +kernel
theorem d_S_override_24 : decode b_S_override 24 = .ok (.invokevirtual 114, 3) := by decide +kernel
theorem d_S_override_27 : decode b_S_override 27 = .ok (.aload_n 0, 1) := by decide +kernel
theorem d_S_override_28 : decode b_S_override 28 = .ok (.getfield 161, 3) := by decide +kernel
theorem d_S_override_31 : decode b_S_override 31 = .ok (.ireturn, 1) := by decide +kernel
theorem d_S_archive_0 : decode b_S_archive 0 = .ok (.aload_n 0, 1) := by decide +kernel
theorem d_S_archive_1 : decode b_S_archive 1 = .ok (.invokevirtual 108, 3) := by decide +kernel
theorem d_S_archive_4 : decode b_S_archive 4 = .ok (.aload_n 0, 1) := by decide +kernel
theorem d_S_archive_5 : decode b_S_archive 5 = .ok (.invokevirtual 155, 3) := by decide +kernel
theorem d_S_archive_8 : decode b_S_archive 8 = .ok (.aload_n 0, 1) := by decide +kernel
theorem d_S_archive_9 : decode b_S_archive 9 = .ok (.iconst 2, 1) := by decide +kernel
theorem d_S_archive_10 : decode b_S_archive 10 = .ok (.invokevirtual 158, 3) := by decide +kernel
theorem d_S_archive_13 : decode b_S_archive 13 = .ok (.aload_n 0, 1) := by decide +kernel
theorem d_S_archive_14 : decode b_S_archive 14 = .ok (.getfield 33, 3) := by decide +kernel
theorem d_S_archive_17 : decode b_S_archive 17 = .ok (.getfield 164, 3) := by decide +kernel
theorem d_S_archive_20 : decode b_S_archive 20 = .ok (.istore_n 1, 1) := by decide +kernel
theorem d_S_archive_21 : decode b_S_archive 21 = .ok (.aload_n 0, 1) := by decide +kernel
theorem d_S_archive_22 : decode b_S_archive 22 = .ok (.getfield 33, 3) := by decide +kernel
theorem d_S_archive_25 : decode b_S_archive 25 = .ok (.invokevirtual 167, 3) := by decide +kernel
theorem d_S_archive_28 : decode b_S_archive 28 = .ok (.aload_n 0, 1) := by decide +kernel
theorem d_S_archive_29 : decode b_S_archive 29 = .ok (.aload_n 0, 1) := by decide +kernel
theorem d_S_archive_30 : decode b_S_archive 30 = .ok (.getfield 44, 3) := by decide +kernel
theorem d_S_archive_33 : decode b_S_archive 33 = .ok (.bipush 13, 2) := by decide +kernel
theorem d_S_archive_35 : decode b_S_archive 35 = .ok (.invokevirtual 114, 3) := by decide +kernel
theorem d_S_archive_38 : decode b_S_archive 38 = .ok (.iload_n 1, 1) := by decide +kernel
theorem d_S_archive_39 : decode b_S_archive 39 = .ok (.ireturn, 1) := by decide +kernel
theorem d_S_configure_0 : decode b_S_configure 0 = .ok (.aload_n 0, 1) := by decide +kernel
theorem d_S_configure_1 : decode b_S_configure 1 = .ok (.invokevirtual 108, 3) := by decide +kernel
theorem d_S_configure_4 : decode b_S_configure 4 = .ok (.aload_n 0, 1) := by decide +kernel
theorem d_S_configure_5 : decode b_S_configure 5 = .ok (.invokevirtual 155, 3) := by decide +kernel
theorem d_S_configure_8 : decode b_S_configure 8 = .ok (.aload_n 0, 1) := by decide +kernel
theorem d_S_configure_9 : decode b_S_configure 9 = .ok (.iconst 3, 1) := by decide +kernel
theorem d_S_configure_10 : decode b_S_configure 10 = .ok (.invokevirtual 158, 3) := by decide +kernel
theorem d_S_configure_13 : decode b_S_configure 13 = .ok (.iload_n 1, 1) := by decide +kernel
theorem d_S_configure_14 : decode b_S_configure 14 = .ok (.iconst 0, 1) := by decide +kernel
theorem d_S_configure_15 : decode b_S_configure 15 = .ok (.iconst 5, 1) := by decide +kernel
theorem d_S_configure_16 : decode b_S_configure 16 = .ok (.invokestatic 69, 3) := by decide +kernel
theorem d_S_configure_19 : decode b_S_configure 19 = .ok (.ifCond .eq 16, 3) := by decide +kernel
theorem d_S_configure_22 : decode b_S_configure 22 = .ok (.iload_n 2, 1) := by decide +kernel
theorem d_S_configure_23 : decode b_S_configure 23 = .ok (.iconst 0, 1) := by decide +kernel
theorem d_S_configure_24 : decode b_S_configure 24 = .ok (.getstatic 170, 3) := by decide +kernel
theorem d_S_configure_27 : decode b_S_configure 27 = .ok (.iload_n 1, 1) := by decide +kernel
theorem d_S_configure_28 : decode b_S_configure 28 = .ok (.iaload, 1) := by decide +kernel
theorem d_S_configure_29 : decode b_S_configure 29 = .ok (.invokestatic 69, 3) := by decide +kernel
theorem d_S_configure_32 : decode b_S_configure 32 = .ok (.ifCond .ne 11, 3) := by decide +kernel
theorem d_S_configure_35 : decode b_S_configure 35 = .ok (.new 54, 3) := by decide +kernel
theorem d_S_configure_38 : decode b_S_configure 38 = .ok (.dup, 1) := by decide +kernel
theorem d_S_configure_39 : decode b_S_configure 39 = .ok (.invokespecial 56, 3) := by decide +kernel
theorem d_S_configure_42 : decode b_S_configure 42 = .ok (.athrow, 1) := by decide +kernel
theorem d_S_configure_43 : decode b_S_configure 43 = .ok (.aload_n 0, 1) := by decide +kernel
theorem d_S_configure_44 : decode b_S_configure 44 = .ok (.getfield 18, 3) := by decide +kernel
theorem d_S_configure_47 : decode b_S_configure 47 = .ok (.iload_n 1, 1) := by decide +kernel
theorem d_S_configure_48 : decode b_S_configure 48 = .ok (.iaload, 1) := by decide +kernel
theorem d_S_configure_49 : decode b_S_configure 49 = .ok (.istore_n 3, 1) := by decide +kernel
theorem d_S_configure_50 : decode b_S_configure 50 = .ok (.aload_n 0, 1) := by decide +kernel
theorem d_S_configure_51 : decode b_S_configure 51 = .ok (.getfield 18, 3) := by decide +kernel
theorem d_S_configure_54 : decode b_S_configure 54 = .ok (.iload_n 1, 1) := by decide +kernel
theorem d_S_configure_55 : decode b_S_configure 55 = .ok (.iload_n 2, 1) := by decide +kernel
theorem d_S_configure_56 : decode b_S_configure 56 = .ok (.iastore, 1) := by decide +kernel
theorem d_S_configure_57 : decode b_S_configure 57 = .ok (.aload_n 0, 1) := by decide +kernel
theorem d_S_configure_58 : decode b_S_configure 58 = .ok (.aload_n 0, 1) := by decide +kernel
theorem d_S_configure_59 : decode b_S_configure 59 = .ok (.getfield 44, 3) := by decide +kernel
theorem d_S_configure_62 : decode b_S_configure 62 = .ok (.bipush 14, 2) := by decide +kernel
theorem d_S_configure_64 : decode b_S_configure 64 = .ok (.invokevirtual 114, 3) := by decide +kernel
theorem d_S_configure_67 : decode b_S_configure 67 = .ok (.iload_n 3, 1) := by decide +kernel
theorem d_S_configure_68 : decode b_S_configure 68 = .ok (.ireturn, 1) := by decide +kernel
theorem d_S_shutdown_0 : decode b_S_shutdown 0 = .ok (.aload_n 0, 1) := by decide +kernel
theorem d_S_shutdown_1 : decode b_S_shutdown 1 = .ok (.invokevirtual 108, 3) := by decide +kernel
theorem d_S_shutdown_4 : decode b_S_shutdown 4 = .ok (.aload_n 0, 1) := by decide +kernel
theorem d_S_shutdown_5 : decode b_S_shutdown 5 = .ok (.invokevirtual 155, 3) := by decide +kernel
theorem d_S_shutdown_8 : decode b_S_shutdown 8 = .ok (.aload_n 0, 1) := by decide +kernel
theorem d_S_shutdown_9 : decode b_S_shutdown 9 = .ok (.getfield 173, 3) := by decide +kernel
theorem d_S_shutdown_12 : decode b_S_shutdown 12 = .ok (.ifCond .eq 11, 3) := by decide +kernel
theorem d_S_shutdown_15 : decode b_S_shutdown 15 = .ok (.new 91, 3) := by decide +kernel
theorem d_S_shutdown_18 : decode b_S_shutdown 18 = .ok (.dup, 1) := by decide +kernel
theorem d_S_shutdown_19 : decode b_S_shutdown 19 = .ok (.invokespecial 93, 3) := by decide +kernel
theorem d_S_shutdown_22 : decode b_S_shutdown 22 = .ok (.athrow, 1) := by decide +kernel
theorem d_S_shutdown_23 : decode b_S_shutdown 23 = .ok (.aload_n 0, 1) := by decide +kernel
theorem d_S_shutdown_24 : decode b_S_shutdown 24 = .ok (.iconst 3, 1) := by decide +kernel
theorem d_S_shutdown_25 : decode b_S_shutdown 25 = .ok (.invokevirtual 158, 3) := by decide +kernel
theorem d_S_shutdown_28 : decode b_S_shutdown 28 = .ok (.aload_n 0, 1) := by decide +kernel
theorem d_S_shutdown_29 : decode b_S_shutdown 29 = .ok (.aload_n 0, 1) := by decide +kernel
theorem d_S_shutdown_30 : decode b_S_shutdown 30 = .ok (.getfield 44, 3) := by decide +kernel
theorem d_S_shutdown_33 : decode b_S_shutdown 33 = .ok (.bipush 15, 2) := by decide +kernel
theorem d_S_shutdown_35 : decode b_S_shutdown 35 = .ok (.invokevirtual 114, 3) := by decide +kernel
theorem d_S_shutdown_38 : decode b_S_shutdown 38 = .ok (.aload_n 0, 1) := by decide +kernel
theorem d_S_shutdown_39 : decode b_S_shutdown 39 = .ok (.iconst 0, 1) := by decide +kernel
theorem d_S_shutdown_40 : decode b_S_shutdown 40 = .ok (.putfield 87, 3) := by decide +kernel
theorem d_S_shutdown_43 : decode b_S_shutdown 43 = .ok (.aload_n 0, 1) := by decide +kernel
theorem d_S_shutdown_44 : decode b_S_shutdown 44 = .ok (.aload_n 0, 1) := by decide +kernel
theorem d_S_shutdown_45 : decode b_S_shutdown 45 = .ok (.getfield 101, 3) := by decide +kernel
theorem d_S_shutdown_48 : decode b_S_shutdown 48 = .ok (.putfield 161, 3) := by decide +kernel
theorem d_S_shutdown_51 : decode b_S_shutdown 51 = .ok (.aload_n 0, 1) := by decide +kernel
theorem d_S_shutdown_52 : decode b_S_shutdown 52 = .ok (.iconst (-1), 1) := by decide +kernel
theorem d_S_shutdown_53 : decode b_S_shutdown 53 = .ok (.putfield 41, 3) := by decide +kernel
theorem d_S_shutdown_56 : decode b_S_shutdown 56 = .ok (.aload_n 0, 1) := by decide +kernel
theorem d_S_shutdown_57 : decode b_S_shutdown 57 = .ok (.iconst (-1), 1) := by decide +kernel
theorem d_S_shutdown_58 : decode b_S_shutdown 58 = .ok (.putfield 44, 3) := by decide +kernel
theorem d_S_shutdown_61 : decode b_S_shutdown 61 = .ok (.aload_n 0, 1) := by decide +kernel
theorem d_S_shutdown_62 : decode b_S_shutdown 62 = .ok (.iconst 0, 1) := by decide +kernel
theorem d_S_shutdown_63 : decode b_S_shutdown 63 = .ok (.invokevirtual 98, 3) := by decide +kernel
theorem d_S_shutdown_66 : decode b_S_shutdown 66 = .ok (.aload_n 0, 1) := by decide +kernel
theorem d_S_shutdown_67 : decode b_S_shutdown 67 = .ok (.iconst 0, 1) := by decide +kernel
theorem d_S_shutdown_68 : decode b_S_shutdown 68 = .ok (.putfield 47, 3) := by decide +kernel
theorem d_S_shutdown_71 : decode b_S_shutdown 71 = .ok (.iconst 1, 1) := by decide +kernel
theorem d_S_shutdown_72 : decode b_S_shutdown 72 = .ok (.ireturn, 1) := by decide +kernel
theorem d_S_door_0 : decode b_S_door 0 = .ok (.iload_n 1, 1) := by decide +kernel
theorem d_S_door_1 : decode b_S_door 1 = .ok (.aload_n 0, 1) := by decide +kernel
theorem d_S_door_2 : decode b_S_door 2 = .ok (.getfield 173, 3) := by decide +kernel
theorem d_S_door_5 : decode b_S_door 5 = .ok (.if_icmp .ne 5, 3) := by decide +kernel
theorem d_S_door_8 : decode b_S_door 8 = .ok (.iconst 0, 1) := by decide +kernel
theorem d_S_door_9 : decode b_S_door 9 = .ok (.ireturn, 1) := by decide +kernel
theorem d_S_door_10 : decode b_S_door 10 = .ok (.aload_n 0, 1) := by decide +kernel
theorem d_S_door_11 : decode b_S_door 11 = .ok (.iload_n 1, 1) := by decide +kernel
theorem d_S_door_12 : decode b_S_door 12 = .ok (.putfield 173, 3) := by decide +kernel
theorem d_S_door_15 : decode b_S_door 15 = .ok (.iload_n 1, 1) := by decide +kernel
theorem d_S_door_16 : decode b_S_door 16 = .ok (.ifCond .eq 39, 3) := by decide +kernel
theorem d_S_door_19 : decode b_S_door 19 = .ok (.aload_n 0, 1) := by decide +kernel
theorem d_S_door_20 : decode b_S_door 20 = .ok (.invokevirtual 176, 3) := by decide +kernel
theorem d_S_door_23 : decode b_S_door 23 = .ok (.ifCond .ne 32, 3) := by decide +kernel
theorem d_S_door_26 : decode b_S_door 26 = .ok (.aload_n 0, 1) := by decide +kernel
theorem d_S_door_27 : decode b_S_door 27 = .ok (.getfield 33, 3) := by decide +kernel
theorem d_S_door_30 : decode b_S_door 30 = .ok (.bipush 9, 2) := by decide +kernel
theorem d_S_door_32 : decode b_S_door 32 = .ok (.aload_n 0, 1) := by decide +kernel
theorem d_S_door_33 : decode b_S_door 33 = .ok (.getfield 101, 3) := by decide +kernel
theorem d_S_door_36 : decode b_S_door 36 = .ok (.iconst (-1), 1) := by decide +kernel
theorem d_S_door_37 : decode b_S_door 37 = .ok (.invokevirtual 104, 3) := by decide +kernel
theorem d_S_door_40 : decode b_S_door 40 = .ok (.aload_n 0, 1) := by decide +kernel
theorem d_S_door_41 : decode b_S_door 41 = .ok (.aload_n 0, 1) := by decide +kernel
theorem d_S_door_42 : decode b_S_door 42 = .ok (.getfield 101, 3) := by decide +kernel
theorem d_S_door_45 : decode b_S_door 45 = .ok (.aload_n 0, 1) := by decide +kernel
theorem d_S_door_46 : decode b_S_door 46 = .ok (.getfield 18, 3) := by decide +kernel
theorem d_S_door_49 : decode b_S_door 49 = .ok (.iconst 1, 1) := by decide +kernel
theorem d_S_door_50 : decode b_S_door 50 = .ok (.iaload, 1) := by decide +kernel
theorem d_S_door_51 : decode b_S_door 51 = .ok (.iadd, 1) := by decide +kernel
theorem d_S_door_52 : decode b_S_door 52 = .ok (.putfield 180, 3) := by decide +kernel
theorem d_S_door_55 : decode b_S_door 55 = .ok (.iconst 1, 1) := by decide +kernel
theorem d_S_door_56 : decode b_S_door 56 = .ok (.ireturn, 1) := by decide +kernel
theorem d_S_pass_0 : decode b_S_pass 0 = .ok (.iload_n 1, 1) := by decide +kernel
theorem d_S_pass_1 : decode b_S_pass 1 = .ok (.iconst 1, 1) := by decide +kernel
theorem d_S_pass_2 : decode b_S_pass 2 = .ok (.sipush 1000, 3) := by decide +kernel
theorem d_S_pass_5 : decode b_S_pass 5 = .ok (.invokestatic 69, 3) := by decide +kernel
theorem d_S_pass_8 : decode b_S_pass 8 = .ok (.ifCond .eq 14, 3) := by decide +kernel
theorem d_S_pass_11 : decode b_S_pass 11 = .ok (.iload_n 1, 1) := by decide +kernel
theorem d_S_pass_12 : decode b_S_pass 12 = .ok (.ldc 183, 2) := by decide +kernel
theorem d_S_pass_14 : decode b_S_pass 14 = .ok (.aload_n 0, 1) := by decide +kernel
theorem d_S_pass_15 : decode b_S_pass 15 = .ok (.getfield 101, 3) := by decide +kernel
theorem d_S_pass_18 : decode b_S_pass 18 = .ok (.isub, 1) := by decide +kernel
theorem d_S_pass_19 : decode b_S_pass 19 = .ok (.if_icmp .le 11, 3) := by decide +kernel
theorem d_S_pass_22 : decode b_S_pass 22 = .ok (.new 54, 3) := by decide +kernel
theorem d_S_pass_25 : decode b_S_pass 25 = .ok (.dup, 1) := by decide +kernel
theorem d_S_pass_26 : decode b_S_pass 26 = .ok (.invokespecial 56, 3) := by decide +kernel
theorem d_S_pass_29 : decode b_S_pass 29 = .ok (.athrow, 1) := by decide +kernel
theorem d_S_pass_30 : decode b_S_pass 30 = .ok (.iconst 0, 1) := by decide +kernel
theorem d_S_pass_31 : decode b_S_pass 31 = .ok (.istore_n 2, 1) := by decide +kernel
theorem d_S_pass_32 : decode b_S_pass 32 = .ok (.iload_n 2, 1) := by decide +kernel
theorem d_S_pass_33 : decode b_S_pass 33 = .ok (.iload_n 1, 1) := by decide +kernel
theorem d_S_pass_34 : decode b_S_pass 34 = .ok (.if_icmp .ge 27, 3) := by decide +kernel
theorem d_S_pass_37 : decode b_S_pass 37 = .ok (.aload_n 0, 1) := by decide +kernel
theorem d_S_pass_38 : decode b_S_pass 38 = .ok (.dup, 1) := by decide +kernel
theorem d_S_pass_39 : decode b_S_pass 39 = .ok (.getfield 101, 3) := by decide +kernel
theorem d_S_pass_42 : decode b_S_pass 42 = .ok (.iconst 1, 1) := by decide +kernel
theorem d_S_pass_43 : decode b_S_pass 43 = .ok (.iadd, 1) := by decide +kernel
theorem d_S_pass_44 : decode b_S_pass 44 = .ok (.putfield 101, 3) := by decide +kernel
theorem d_S_pass_47 : decode b_S_pass 47 = .ok (.aload_n 0, 1) := by decide +kernel
theorem d_S_pass_48 : decode b_S_pass 48 = .ok (.invokevirtual 184, 3) := by decide +kernel
theorem d_S_pass_51 : decode b_S_pass 51 = .ok (.aload_n 0, 1) := by decide +kernel
theorem d_S_pass_52 : decode b_S_pass 52 = .ok (.invokevirtual 187, 3) := by decide +kernel
theorem d_S_pass_55 : decode b_S_pass 55 = .ok (.iinc 2 1, 3) := by decide +kernel
theorem d_S_pass_58 : decode b_S_pass 58 = .ok (.goto (-26), 3) := by decide +kernel
theorem d_S_pass_61 : decode b_S_pass 61 = .ok (.aload_n 0, 1) := by decide +kernel
theorem d_S_pass_62 : decode b_S_pass 62 = .ok (.getfield 101, 3) := by decide +kernel
theorem d_S_pass_65 : decode b_S_pass 65 = .ok (.ireturn, 1) := by decide +kernel
theorem d_S_entry_0 : decode b_S_entry 0 = .ok (.iload_n 1, 1) := by decide +kernel
theorem d_S_entry_1 : decode b_S_entry 1 = .ok (.iconst 0, 1) := by decide +kernel
theorem d_S_entry_2 : decode b_S_entry 2 = .ok (.aload_n 0, 1) := by decide +kernel
theorem d_S_entry_3 : decode b_S_entry 3 = .ok (.getfield 33, 3) := by decide +kernel
theorem d_S_entry_6 : decode b_S_entry 6 = .ok (.getfield 164, 3) := by decide +kernel
theorem d_S_entry_9 : decode b_S_entry 9 = .ok (.iconst 1, 1) := by decide +kernel
theorem d_S_entry_10 : decode b_S_entry 10 = .ok (.isub, 1) := by decide +kernel
theorem d_S_entry_11 : decode b_S_entry 11 = .ok (.invokestatic 69, 3) := by decide +kernel
theorem d_S_entry_14 : decode b_S_entry 14 = .ok (.ifCond .ne 11, 3) := by decide +kernel
theorem d_S_entry_17 : decode b_S_entry 17 = .ok (.new 190, 3) := by decide +kernel
theorem d_S_entry_20 : decode b_S_entry 20 = .ok (.dup, 1) := by decide +kernel
theorem d_S_entry_21 : decode b_S_entry 21 = .ok (.invokespecial 192, 3) := by decide +kernel
theorem d_S_entry_24 : decode b_S_entry 24 = .ok (.athrow, 1) := by decide +kernel
theorem d_S_entry_25 : decode b_S_entry 25 = .ok (.iload_n 2, 1) := by decide +kernel
theorem d_S_entry_26 : decode b_S_entry 26 = .ok (.tableswitch 56 0 2 #[26, 36, 46], 26) := by decide +kernel
theorem d_S_entry_52 : decode b_S_entry 52 = .ok (.aload_n 0, 1) := by decide +kernel
theorem d_S_entry_53 : decode b_S_entry 53 = .ok (.getfield 33, 3) := by decide +kernel
theorem d_S_entry_56 : decode b_S_entry 56 = .ok (.getfield 193, 3) := by decide +kernel
theorem d_S_entry_59 : decode b_S_entry 59 = .ok (.iload_n 1, 1) := by decide +kernel
theorem d_S_entry_60 : decode b_S_entry 60 = .ok (.iaload, 1) := by decide +kernel
theorem d_S_entry_61 : decode b_S_entry 61 = .ok (.ireturn, 1) := by decide +kernel
theorem d_S_entry_62 : decode b_S_entry 62 = .ok (.aload_n 0, 1) := by decide +kernel
theorem d_S_entry_63 : decode b_S_entry 63 = .ok (.getfield 33, 3) := by decide +kernel
theorem d_S_entry_66 : decode b_S_entry 66 = .ok (.getfield 196, 3) := by decide +kernel
theorem d_S_entry_69 : decode b_S_entry 69 = .ok (.iload_n 1, 1) := by decide +kernel
theorem d_S_entry_70 : decode b_S_entry 70 = .ok (.iaload, 1) := by decide +kernel
theorem d_S_entry_71 : decode b_S_entry 71 = .ok (.ireturn, 1) := by decide +kernel
theorem d_S_entry_72 : decode b_S_entry 72 = .ok (.aload_n 0, 1) := by decide +kernel
theorem d_S_entry_73 : decode b_S_entry 73 = .ok (.getfield 33, 3) := by decide +kernel
theorem d_S_entry_76 : decode b_S_entry 76 = .ok (.getfield 199, 3) := by decide +kernel
theorem d_S_entry_79 : decode b_S_entry 79 = .ok (.iload_n 1, 1) := by decide +kernel
theorem d_S_entry_80 : decode b_S_entry 80 = .ok (.iaload, 1) := by decide +kernel
theorem d_S_entry_81 : decode b_S_entry 81 = .ok (.ireturn, 1) := by decide +kernel
theorem d_S_entry_82 : decode b_S_entry 82 = .ok (.new 54, 3) := by decide +kernel
theorem d_S_entry_85 : decode b_S_entry 85 = .ok (.dup, 1) := by decide +kernel
theorem d_S_entry_86 : decode b_S_entry 86 = .ok (.invokespecial 56, 3) := by decide +kernel
theorem d_S_entry_89 : decode b_S_entry 89 = .ok (.athrow, 1) := by decide +kernel
theorem d_S_certificate_0 : decode b_S_certificate 0 = .ok (.iload_n 1, 1) := by decide +kernel
theorem d_S_certificate_1 : decode b_S_certificate 1 = .ok (.invokestatic 65, 3) := by decide +kernel
theorem d_S_certificate_4 : decode b_S_certificate 4 = .ok (.iload_n 2, 1) := by decide +kernel
theorem d_S_certificate_5 : decode b_S_certificate 5 = .ok (.iconst 0, 1) := by decide +kernel
theorem d_S_certificate_6 : decode b_S_certificate 6 = .ok (.iconst 3, 1) := by decide +kernel
theorem d_S_certificate_7 : decode b_S_certificate 7 = .ok (.invokestatic 69, 3) := by decide +kernel
theorem d_S_certificate_10 : decode b_S_certificate 10 = .ok (.ifCond .eq 13, 3) := by decide +kernel
end DEC
