theorem dX10_init_0 : decode cX10_init 0 = .ok (.aload_n 0, 1) := by decide +kernel
theorem dX10_init_1 : decode cX10_init 1 = .ok (.invokespecial 1, 3) := by decide +kernel
theorem dX10_init_4 : decode cX10_init 4 = .ok (.aload_n 0, 1) := by decide +kernel
theorem dX10_init_5 : decode cX10_init 5 = .ok (.iconst 4, 1) := by decide +kernel
theorem dX10_init_6 : decode cX10_init 6 = .ok (.newarray .int, 2) := by decide +kernel
theorem dX10_init_8 : decode cX10_init 8 = .ok (.putfield 7, 3) := by decide +kernel
theorem dX10_init_11 : decode cX10_init 11 = .ok (.aload_n 0, 1) := by decide +kernel
theorem dX10_init_12 : decode cX10_init 12 = .ok (.iconst 4, 1) := by decide +kernel
theorem dX10_init_13 : decode cX10_init 13 = .ok (.newarray .int, 2) := by decide +kernel
theorem dX10_init_15 : decode cX10_init 15 = .ok (.putfield 13, 3) := by decide +kernel
theorem dX10_init_18 : decode cX10_init 18 = .ok (.aload_n 0, 1) := by decide +kernel
theorem dX10_init_19 : decode cX10_init 19 = .ok (.bipush 12, 2) := by decide +kernel
theorem dX10_init_21 : decode cX10_init 21 = .ok (.newarray .boolean, 2) := by decide +kernel
theorem dX10_init_23 : decode cX10_init 23 = .ok (.putfield 16, 3) := by decide +kernel
theorem dX10_init_26 : decode cX10_init 26 = .ok (.aload_n 0, 1) := by decide +kernel
theorem dX10_init_27 : decode cX10_init 27 = .ok (.bipush 12, 2) := by decide +kernel
theorem dX10_init_29 : decode cX10_init 29 = .ok (.newarray .int, 2) := by decide +kernel
theorem dX10_init_31 : decode cX10_init 31 = .ok (.putfield 20, 3) := by decide +kernel
theorem dX10_init_34 : decode cX10_init 34 = .ok (.aload_n 0, 1) := by decide +kernel
theorem dX10_init_35 : decode cX10_init 35 = .ok (.bipush 12, 2) := by decide +kernel
theorem dX10_init_37 : decode cX10_init 37 = .ok (.newarray .int, 2) := by decide +kernel
theorem dX10_init_39 : decode cX10_init 39 = .ok (.putfield 23, 3) := by decide +kernel
theorem dX10_init_42 : decode cX10_init 42 = .ok (.aload_n 0, 1) := by decide +kernel
theorem dX10_init_43 : decode cX10_init 43 = .ok (.sipush 192, 3) := by decide +kernel
theorem dX10_init_46 : decode cX10_init 46 = .ok (.newarray .int, 2) := by decide +kernel
theorem dX10_init_48 : decode cX10_init 48 = .ok (.putfield 26, 3) := by decide +kernel
theorem dX10_init_51 : decode cX10_init 51 = .ok (.aload_n 0, 1) := by decide +kernel
theorem dX10_init_52 : decode cX10_init 52 = .ok (.bipush 8, 2) := by decide +kernel
theorem dX10_init_54 : decode cX10_init 54 = .ok (.newarray .int, 2) := by decide +kernel
theorem dX10_init_56 : decode cX10_init 56 = .ok (.putfield 29, 3) := by decide +kernel
theorem dX10_init_59 : decode cX10_init 59 = .ok (.aload_n 0, 1) := by decide +kernel
theorem dX10_init_60 : decode cX10_init 60 = .ok (.bipush 80, 2) := by decide +kernel
theorem dX10_init_62 : decode cX10_init 62 = .ok (.newarray .int, 2) := by decide +kernel
theorem dX10_init_64 : decode cX10_init 64 = .ok (.putfield 32, 3) := by decide +kernel
theorem dX10_init_67 : decode cX10_init 67 = .ok (.aload_n 0, 1) := by decide +kernel
theorem dX10_init_68 : decode cX10_init 68 = .ok (.iconst 2, 1) := by decide +kernel
theorem dX10_init_69 : decode cX10_init 69 = .ok (.newarray .int, 2) := by decide +kernel
theorem dX10_init_71 : decode cX10_init 71 = .ok (.putfield 35, 3) := by decide +kernel
theorem dX10_init_74 : decode cX10_init 74 = .ok (.aload_n 0, 1) := by decide +kernel
theorem dX10_init_75 : decode cX10_init 75 = .ok (.sipush 3072, 3) := by decide +kernel
theorem dX10_init_78 : decode cX10_init 78 = .ok (.newarray .int, 2) := by decide +kernel
theorem dX10_init_80 : decode cX10_init 80 = .ok (.putfield 38, 3) := by decide +kernel
theorem dX10_init_83 : decode cX10_init 83 = .ok (.aload_n 0, 1) := by decide +kernel
theorem dX10_init_84 : decode cX10_init 84 = .ok (.sipush 800, 3) := by decide +kernel
theorem dX10_init_87 : decode cX10_init 87 = .ok (.newarray .int, 2) := by decide +kernel
theorem dX10_init_89 : decode cX10_init 89 = .ok (.putfield 41, 3) := by decide +kernel
theorem dX10_init_92 : decode cX10_init 92 = .ok (.aload_n 0, 1) := by decide +kernel
theorem dX10_init_93 : decode cX10_init 93 = .ok (.iconst 2, 1) := by decide +kernel
theorem dX10_init_94 : decode cX10_init 94 = .ok (.newarray .int, 2) := by decide +kernel
theorem dX10_init_96 : decode cX10_init 96 = .ok (.putfield 44, 3) := by decide +kernel
theorem dX10_init_99 : decode cX10_init 99 = .ok (.aload_n 0, 1) := by decide +kernel
theorem dX10_init_100 : decode cX10_init 100 = .ok (.iconst 2, 1) := by decide +kernel
theorem dX10_init_101 : decode cX10_init 101 = .ok (.newarray .int, 2) := by decide +kernel
theorem dX10_init_103 : decode cX10_init 103 = .ok (.putfield 47, 3) := by decide +kernel
theorem dX10_init_106 : decode cX10_init 106 = .ok (.aload_n 0, 1) := by decide +kernel
theorem dX10_init_107 : decode cX10_init 107 = .ok (.bipush 6, 2) := by decide +kernel
theorem dX10_init_109 : decode cX10_init 109 = .ok (.newarray .int, 2) := by decide +kernel
theorem dX10_init_111 : decode cX10_init 111 = .ok (.putfield 50, 3) := by decide +kernel
theorem dX10_init_114 : decode cX10_init 114 = .ok (.aload_n 0, 1) := by decide +kernel
theorem dX10_init_115 : decode cX10_init 115 = .ok (.bipush 6, 2) := by decide +kernel
theorem dX10_init_117 : decode cX10_init 117 = .ok (.newarray .int, 2) := by decide +kernel
theorem dX10_init_119 : decode cX10_init 119 = .ok (.putfield 53, 3) := by decide +kernel
theorem dX10_init_122 : decode cX10_init 122 = .ok (.aload_n 0, 1) := by decide +kernel
theorem dX10_init_123 : decode cX10_init 123 = .ok (.getfield 35, 3) := by decide +kernel
theorem dX10_init_126 : decode cX10_init 126 = .ok (.iconst 0, 1) := by decide +kernel
theorem dX10_init_127 : decode cX10_init 127 = .ok (.bipush 7, 2) := by decide +kernel
theorem dX10_init_129 : decode cX10_init 129 = .ok (.iastore, 1) := by decide +kernel
theorem dX10_init_130 : decode cX10_init 130 = .ok (.aload_n 0, 1) := by decide +kernel
theorem dX10_init_131 : decode cX10_init 131 = .ok (.getfield 35, 3) := by decide +kernel
theorem dX10_init_134 : decode cX10_init 134 = .ok (.iconst 1, 1) := by decide +kernel
theorem dX10_init_135 : decode cX10_init 135 = .ok (.bipush 7, 2) := by decide +kernel
theorem dX10_init_137 : decode cX10_init 137 = .ok (.iastore, 1) := by decide +kernel
theorem dX10_init_138 : decode cX10_init 138 = .ok (.return_, 1) := by decide +kernel
theorem dX10_mix_0 : decode cX10_mix 0 = .ok (.bipush 31, 2) := by decide +kernel
theorem dX10_mix_2 : decode cX10_mix 2 = .ok (.iload_n 0, 1) := by decide +kernel
theorem dX10_mix_3 : decode cX10_mix 3 = .ok (.imul, 1) := by decide +kernel
theorem dX10_mix_4 : decode cX10_mix 4 = .ok (.iload_n 1, 1) := by decide +kernel
theorem dX10_mix_5 : decode cX10_mix 5 = .ok (.iadd, 1) := by decide +kernel
theorem dX10_mix_6 : decode cX10_mix 6 = .ok (.iconst 5, 1) := by decide +kernel
theorem dX10_mix_7 : decode cX10_mix 7 = .ok (.iadd, 1) := by decide +kernel
theorem dX10_mix_8 : decode cX10_mix 8 = .ok (.istore_n 2, 1) := by decide +kernel
theorem dX10_mix_9 : decode cX10_mix 9 = .ok (.iload_n 2, 1) := by decide +kernel
theorem dX10_mix_10 : decode cX10_mix 10 = .ok (.iload_n 2, 1) := by decide +kernel
theorem dX10_mix_11 : decode cX10_mix 11 = .ok (.bipush 13, 2) := by decide +kernel
theorem dX10_mix_13 : decode cX10_mix 13 = .ok (.iushr, 1) := by decide +kernel
theorem dX10_mix_14 : decode cX10_mix 14 = .ok (.ixor, 1) := by decide +kernel
theorem dX10_mix_15 : decode cX10_mix 15 = .ok (.ldc 56, 2) := by decide +kernel
theorem dX10_mix_17 : decode cX10_mix 17 = .ok (.imul, 1) := by decide +kernel
theorem dX10_mix_18 : decode cX10_mix 18 = .ok (.ireturn, 1) := by decide +kernel
theorem dX10_sealOf_0 : decode cX10_sealOf 0 = .ok (.iload_n 0, 1) := by decide +kernel
theorem dX10_sealOf_1 : decode cX10_sealOf 1 = .ok (.iload_n 1, 1) := by decide +kernel
theorem dX10_sealOf_2 : decode cX10_sealOf 2 = .ok (.invokestatic 57, 3) := by decide +kernel
theorem dX10_sealOf_5 : decode cX10_sealOf 5 = .ok (.istore 6, 2) := by decide +kernel
theorem dX10_sealOf_7 : decode cX10_sealOf 7 = .ok (.iload 6, 2) := by decide +kernel
theorem dX10_sealOf_9 : decode cX10_sealOf 9 = .ok (.iload_n 2, 1) := by decide +kernel
theorem dX10_sealOf_10 : decode cX10_sealOf 10 = .ok (.invokestatic 57, 3) := by decide +kernel
theorem dX10_sealOf_13 : decode cX10_sealOf 13 = .ok (.istore 6, 2) := by decide +kernel
theorem dX10_sealOf_15 : decode cX10_sealOf 15 = .ok (.iload 6, 2) := by decide +kernel
theorem dX10_sealOf_17 : decode cX10_sealOf 17 = .ok (.iload_n 3, 1) := by decide +kernel
theorem dX10_sealOf_18 : decode cX10_sealOf 18 = .ok (.invokestatic 57, 3) := by decide +kernel
theorem dX10_sealOf_21 : decode cX10_sealOf 21 = .ok (.istore 6, 2) := by decide +kernel
theorem dX10_sealOf_23 : decode cX10_sealOf 23 = .ok (.iload 6, 2) := by decide +kernel
theorem dX10_sealOf_25 : decode cX10_sealOf 25 = .ok (.iload 4, 2) := by decide +kernel
theorem dX10_sealOf_27 : decode cX10_sealOf 27 = .ok (.invokestatic 57, 3) := by decide +kernel
theorem dX10_sealOf_30 : decode cX10_sealOf 30 = .ok (.istore 6, 2) := by decide +kernel
theorem dX10_sealOf_32 : decode cX10_sealOf 32 = .ok (.iload 6, 2) := by decide +kernel
theorem dX10_sealOf_34 : decode cX10_sealOf 34 = .ok (.iload 5, 2) := by decide +kernel
theorem dX10_sealOf_36 : decode cX10_sealOf 36 = .ok (.invokestatic 57, 3) := by decide +kernel
theorem dX10_sealOf_39 : decode cX10_sealOf 39 = .ok (.ireturn, 1) := by decide +kernel
theorem dX10_keyAt_0 : decode cX10_keyAt 0 = .ok (.iload_n 1, 1) := by decide +kernel
theorem dX10_keyAt_1 : decode cX10_keyAt 1 = .ok (.iload_n 2, 1) := by decide +kernel
theorem dX10_keyAt_2 : decode cX10_keyAt 2 = .ok (.if_icmp .ge 7, 3) := by decide +kernel
theorem dX10_keyAt_5 : decode cX10_keyAt 5 = .ok (.iload_n 1, 1) := by decide +kernel
theorem dX10_keyAt_6 : decode cX10_keyAt 6 = .ok (.goto 4, 3) := by decide +kernel
theorem dX10_keyAt_9 : decode cX10_keyAt 9 = .ok (.iload_n 2, 1) := by decide +kernel
theorem dX10_keyAt_10 : decode cX10_keyAt 10 = .ok (.istore_n 3, 1) := by decide +kernel
theorem dX10_keyAt_11 : decode cX10_keyAt 11 = .ok (.iload_n 1, 1) := by decide +kernel
theorem dX10_keyAt_12 : decode cX10_keyAt 12 = .ok (.iload_n 2, 1) := by decide +kernel
theorem dX10_keyAt_13 : decode cX10_keyAt 13 = .ok (.if_icmp .ge 7, 3) := by decide +kernel
theorem dX10_keyAt_16 : decode cX10_keyAt 16 = .ok (.iload_n 2, 1) := by decide +kernel
theorem dX10_keyAt_17 : decode cX10_keyAt 17 = .ok (.goto 4, 3) := by decide +kernel
theorem dX10_keyAt_20 : decode cX10_keyAt 20 = .ok (.iload_n 1, 1) := by decide +kernel
theorem dX10_keyAt_21 : decode cX10_keyAt 21 = .ok (.istore 4, 2) := by decide +kernel
theorem dX10_keyAt_23 : decode cX10_keyAt 23 = .ok (.iload_n 3, 1) := by decide +kernel
theorem dX10_keyAt_24 : decode cX10_keyAt 24 = .ok (.iconst 2, 1) := by decide +kernel
theorem dX10_keyAt_25 : decode cX10_keyAt 25 = .ok (.if_icmp .ge 7, 3) := by decide +kernel
theorem dX10_keyAt_28 : decode cX10_keyAt 28 = .ok (.iload_n 3, 1) := by decide +kernel
theorem dX10_keyAt_29 : decode cX10_keyAt 29 = .ok (.goto 7, 3) := by decide +kernel
theorem dX10_keyAt_32 : decode cX10_keyAt 32 = .ok (.iload 4, 2) := by decide +kernel
theorem dX10_keyAt_34 : decode cX10_keyAt 34 = .ok (.iconst 1, 1) := by decide +kernel
theorem dX10_keyAt_35 : decode cX10_keyAt 35 = .ok (.isub, 1) := by decide +kernel
theorem dX10_keyAt_36 : decode cX10_keyAt 36 = .ok (.istore 5, 2) := by decide +kernel
theorem dX10_keyAt_38 : decode cX10_keyAt 38 = .ok (.iload_n 1, 1) := by decide +kernel
theorem dX10_keyAt_39 : decode cX10_keyAt 39 = .ok (.iload_n 2, 1) := by decide +kernel
theorem dX10_keyAt_40 : decode cX10_keyAt 40 = .ok (.if_icmp .ge 13, 3) := by decide +kernel
theorem dX10_keyAt_43 : decode cX10_keyAt 43 = .ok (.aload_n 0, 1) := by decide +kernel
theorem dX10_keyAt_44 : decode cX10_keyAt 44 = .ok (.getfield 7, 3) := by decide +kernel
theorem dX10_keyAt_47 : decode cX10_keyAt 47 = .ok (.iload 5, 2) := by decide +kernel
theorem dX10_keyAt_49 : decode cX10_keyAt 49 = .ok (.iaload, 1) := by decide +kernel
theorem dX10_keyAt_50 : decode cX10_keyAt 50 = .ok (.goto 10, 3) := by decide +kernel
theorem dX10_keyAt_53 : decode cX10_keyAt 53 = .ok (.aload_n 0, 1) := by decide +kernel
theorem dX10_keyAt_54 : decode cX10_keyAt 54 = .ok (.getfield 13, 3) := by decide +kernel
theorem dX10_keyAt_57 : decode cX10_keyAt 57 = .ok (.iload 5, 2) := by decide +kernel
theorem dX10_keyAt_59 : decode cX10_keyAt 59 = .ok (.iaload, 1) := by decide +kernel
theorem dX10_keyAt_60 : decode cX10_keyAt 60 = .ok (.ireturn, 1) := by decide +kernel
theorem dX10_key_0 : decode cX10_key 0 = .ok (.iload_n 1, 1) := by decide +kernel
theorem dX10_key_1 : decode cX10_key 1 = .ok (.ifCond .lt 8, 3) := by decide +kernel
theorem dX10_key_4 : decode cX10_key 4 = .ok (.iload_n 1, 1) := by decide +kernel
theorem dX10_key_5 : decode cX10_key 5 = .ok (.iconst 3, 1) := by decide +kernel
theorem dX10_key_6 : decode cX10_key 6 = .ok (.if_icmp .le 5, 3) := by decide +kernel
theorem dX10_key_9 : decode cX10_key 9 = .ok (.iconst 0, 1) := by decide +kernel
theorem dX10_key_10 : decode cX10_key 10 = .ok (.ireturn, 1) := by decide +kernel
theorem dX10_key_11 : decode cX10_key 11 = .ok (.aload_n 0, 1) := by decide +kernel
theorem dX10_key_12 : decode cX10_key 12 = .ok (.getfield 7, 3) := by decide +kernel
theorem dX10_key_15 : decode cX10_key 15 = .ok (.iload_n 1, 1) := by decide +kernel
theorem dX10_key_16 : decode cX10_key 16 = .ok (.iload_n 2, 1) := by decide +kernel
theorem dX10_key_17 : decode cX10_key 17 = .ok (.iastore, 1) := by decide +kernel
theorem dX10_key_18 : decode cX10_key 18 = .ok (.aload_n 0, 1) := by decide +kernel
theorem dX10_key_19 : decode cX10_key 19 = .ok (.getfield 13, 3) := by decide +kernel
theorem dX10_key_22 : decode cX10_key 22 = .ok (.iload_n 1, 1) := by decide +kernel
theorem dX10_key_23 : decode cX10_key 23 = .ok (.iload_n 3, 1) := by decide +kernel
theorem dX10_key_24 : decode cX10_key 24 = .ok (.iastore, 1) := by decide +kernel
theorem dX10_key_25 : decode cX10_key 25 = .ok (.iconst 1, 1) := by decide +kernel
theorem dX10_key_26 : decode cX10_key 26 = .ok (.ireturn, 1) := by decide +kernel
theorem dX10_enrol_0 : decode cX10_enrol 0 = .ok (.iload_n 1, 1) := by decide +kernel
theorem dX10_enrol_1 : decode cX10_enrol 1 = .ok (.ifCond .lt 19, 3) := by decide +kernel
theorem dX10_enrol_4 : decode cX10_enrol 4 = .ok (.iload_n 1, 1) := by decide +kernel
theorem dX10_enrol_5 : decode cX10_enrol 5 = .ok (.bipush 11, 2) := by decide +kernel
theorem dX10_enrol_7 : decode cX10_enrol 7 = .ok (.if_icmp .gt 13, 3) := by decide +kernel
theorem dX10_enrol_10 : decode cX10_enrol 10 = .ok (.iload_n 3, 1) := by decide +kernel
theorem dX10_enrol_11 : decode cX10_enrol 11 = .ok (.ifCond .lt 9, 3) := by decide +kernel
theorem dX10_enrol_14 : decode cX10_enrol 14 = .ok (.iload_n 3, 1) := by decide +kernel
theorem dX10_enrol_15 : decode cX10_enrol 15 = .ok (.bipush 6, 2) := by decide +kernel
theorem dX10_enrol_17 : decode cX10_enrol 17 = .ok (.if_icmp .le 5, 3) := by decide +kernel
theorem dX10_enrol_20 : decode cX10_enrol 20 = .ok (.iconst 0, 1) := by decide +kernel
theorem dX10_enrol_21 : decode cX10_enrol 21 = .ok (.ireturn, 1) := by decide +kernel
theorem dX10_enrol_22 : decode cX10_enrol 22 = .ok (.aload_n 0, 1) := by decide +kernel
theorem dX10_enrol_23 : decode cX10_enrol 23 = .ok (.getfield 16, 3) := by decide +kernel
theorem dX10_enrol_26 : decode cX10_enrol 26 = .ok (.iload_n 1, 1) := by decide +kernel
theorem dX10_enrol_27 : decode cX10_enrol 27 = .ok (.iconst 1, 1) := by decide +kernel
theorem dX10_enrol_28 : decode cX10_enrol 28 = .ok (.bastore, 1) := by decide +kernel
theorem dX10_enrol_29 : decode cX10_enrol 29 = .ok (.aload_n 0, 1) := by decide +kernel
theorem dX10_enrol_30 : decode cX10_enrol 30 = .ok (.getfield 20, 3) := by decide +kernel
theorem dX10_enrol_33 : decode cX10_enrol 33 = .ok (.iload_n 1, 1) := by decide +kernel
theorem dX10_enrol_34 : decode cX10_enrol 34 = .ok (.iload_n 2, 1) := by decide +kernel
theorem dX10_enrol_35 : decode cX10_enrol 35 = .ok (.iastore, 1) := by decide +kernel
theorem dX10_enrol_36 : decode cX10_enrol 36 = .ok (.aload_n 0, 1) := by decide +kernel
theorem dX10_enrol_37 : decode cX10_enrol 37 = .ok (.getfield 23, 3) := by decide +kernel
theorem dX10_enrol_40 : decode cX10_enrol 40 = .ok (.iload_n 1, 1) := by decide +kernel
theorem dX10_enrol_41 : decode cX10_enrol 41 = .ok (.iload_n 3, 1) := by decide +kernel
theorem dX10_enrol_42 : decode cX10_enrol 42 = .ok (.iastore, 1) := by decide +kernel
theorem dX10_enrol_43 : decode cX10_enrol 43 = .ok (.iconst 1, 1) := by decide +kernel
theorem dX10_enrol_44 : decode cX10_enrol 44 = .ok (.ireturn, 1) := by decide +kernel
theorem dX10_request_0 : decode cX10_request 0 = .ok (.iload_n 0, 1) := by decide +kernel
theorem dX10_request_1 : decode cX10_request 1 = .ok (.ifCond .eq 8, 3) := by decide +kernel
theorem dX10_request_4 : decode cX10_request 4 = .ok (.iload_n 0, 1) := by decide +kernel
theorem dX10_request_5 : decode cX10_request 5 = .ok (.iconst 3, 1) := by decide +kernel
theorem dX10_request_6 : decode cX10_request 6 = .ok (.if_icmp .ne 7, 3) := by decide +kernel
theorem dX10_request_9 : decode cX10_request 9 = .ok (.iconst 1, 1) := by decide +kernel
theorem dX10_request_10 : decode cX10_request 10 = .ok (.goto 4, 3) := by decide +kernel
theorem dX10_request_13 : decode cX10_request 13 = .ok (.iconst 0, 1) := by decide +kernel
theorem dX10_request_14 : decode cX10_request 14 = .ok (.ireturn, 1) := by decide +kernel
theorem dX10_answers_0 : decode cX10_answers 0 = .ok (.iload_n 0, 1) := by decide +kernel
theorem dX10_answers_1 : decode cX10_answers 1 = .ok (.iconst 1, 1) := by decide +kernel
theorem dX10_answers_2 : decode cX10_answers 2 = .ok (.if_icmp .eq 13, 3) := by decide +kernel
theorem dX10_answers_5 : decode cX10_answers 5 = .ok (.iload_n 0, 1) := by decide +kernel
theorem dX10_answers_6 : decode cX10_answers 6 = .ok (.iconst 2, 1) := by decide +kernel
theorem dX10_answers_7 : decode cX10_answers 7 = .ok (.if_icmp .eq 8, 3) := by decide +kernel
theorem dX10_answers_10 : decode cX10_answers 10 = .ok (.iload_n 0, 1) := by decide +kernel
theorem dX10_answers_11 : decode cX10_answers 11 = .ok (.iconst 4, 1) := by decide +kernel
theorem dX10_answers_12 : decode cX10_answers 12 = .ok (.if_icmp .ne 7, 3) := by decide +kernel
theorem dX10_answers_15 : decode cX10_answers 15 = .ok (.iconst 1, 1) := by decide +kernel
theorem dX10_answers_16 : decode cX10_answers 16 = .ok (.goto 4, 3) := by decide +kernel
theorem dX10_answers_19 : decode cX10_answers 19 = .ok (.iconst 0, 1) := by decide +kernel
theorem dX10_answers_20 : decode cX10_answers 20 = .ok (.ireturn, 1) := by decide +kernel
theorem dX10_put_0 : decode cX10_put 0 = .ok (.aload_n 0, 1) := by decide +kernel
theorem dX10_put_1 : decode cX10_put 1 = .ok (.getfield 61, 3) := by decide +kernel
theorem dX10_put_4 : decode cX10_put 4 = .ok (.bipush 24, 2) := by decide +kernel
theorem dX10_put_6 : decode cX10_put 6 = .ok (.if_icmp .ne 4, 3) := by decide +kernel
theorem dX10_put_9 : decode cX10_put 9 = .ok (.return_, 1) := by decide +kernel
theorem dX10_put_10 : decode cX10_put 10 = .ok (.bipush 8, 2) := by decide +kernel
theorem dX10_put_12 : decode cX10_put 12 = .ok (.aload_n 0, 1) := by decide +kernel
theorem dX10_put_13 : decode cX10_put 13 = .ok (.getfield 61, 3) := by decide +kernel
theorem dX10_put_16 : decode cX10_put 16 = .ok (.imul, 1) := by decide +kernel
theorem dX10_put_17 : decode cX10_put 17 = .ok (.istore 8, 2) := by decide +kernel
theorem dX10_put_19 : decode cX10_put 19 = .ok (.aload_n 0, 1) := by decide +kernel
theorem dX10_put_20 : decode cX10_put 20 = .ok (.iload_n 1, 1) := by decide +kernel
theorem dX10_put_21 : decode cX10_put 21 = .ok (.iload_n 2, 1) := by decide +kernel
theorem dX10_put_22 : decode cX10_put 22 = .ok (.invokevirtual 65, 3) := by decide +kernel
theorem dX10_put_25 : decode cX10_put 25 = .ok (.istore 9, 2) := by decide +kernel
theorem dX10_put_27 : decode cX10_put 27 = .ok (.aload_n 0, 1) := by decide +kernel
theorem dX10_put_28 : decode cX10_put 28 = .ok (.getfield 26, 3) := by decide +kernel
theorem dX10_put_31 : decode cX10_put 31 = .ok (.iload 8, 2) := by decide +kernel
theorem dX10_put_33 : decode cX10_put 33 = .ok (.iload_n 3, 1) := by decide +kernel
theorem dX10_put_34 : decode cX10_put 34 = .ok (.iastore, 1) := by decide +kernel
theorem dX10_put_35 : decode cX10_put 35 = .ok (.aload_n 0, 1) := by decide +kernel
theorem dX10_put_36 : decode cX10_put 36 = .ok (.getfield 26, 3) := by decide +kernel
theorem dX10_put_39 : decode cX10_put 39 = .ok (.iload 8, 2) := by decide +kernel
theorem dX10_put_41 : decode cX10_put 41 = .ok (.iconst 1, 1) := by decide +kernel
theorem dX10_put_42 : decode cX10_put 42 = .ok (.iadd, 1) := by decide +kernel
theorem dX10_put_43 : decode cX10_put 43 = .ok (.iload 4, 2) := by decide +kernel
theorem dX10_put_45 : decode cX10_put 45 = .ok (.iastore, 1) := by decide +kernel
theorem dX10_put_46 : decode cX10_put 46 = .ok (.aload_n 0, 1) := by decide +kernel
theorem dX10_put_47 : decode cX10_put 47 = .ok (.getfield 26, 3) := by decide +kernel
theorem dX10_put_50 : decode cX10_put 50 = .ok (.iload 8, 2) := by decide +kernel
theorem dX10_put_52 : decode cX10_put 52 = .ok (.iconst 2, 1) := by decide +kernel
theorem dX10_put_53 : decode cX10_put 53 = .ok (.iadd, 1) := by decide +kernel
theorem dX10_put_54 : decode cX10_put 54 = .ok (.iload_n 3, 1) := by decide +kernel
theorem dX10_put_55 : decode cX10_put 55 = .ok (.invokestatic 68, 3) := by decide +kernel
theorem dX10_put_58 : decode cX10_put 58 = .ok (.ifCond .eq 8, 3) := by decide +kernel
theorem dX10_put_61 : decode cX10_put 61 = .ok (.iload 5, 2) := by decide +kernel
theorem dX10_put_63 : decode cX10_put 63 = .ok (.goto 4, 3) := by decide +kernel
theorem dX10_put_66 : decode cX10_put 66 = .ok (.iconst 0, 1) := by decide +kernel
theorem dX10_put_67 : decode cX10_put 67 = .ok (.iastore, 1) := by decide +kernel
theorem dX10_put_68 : decode cX10_put 68 = .ok (.aload_n 0, 1) := by decide +kernel
theorem dX10_put_69 : decode cX10_put 69 = .ok (.getfield 26, 3) := by decide +kernel
theorem dX10_put_72 : decode cX10_put 72 = .ok (.iload 8, 2) := by decide +kernel
theorem dX10_put_74 : decode cX10_put 74 = .ok (.iconst 3, 1) := by decide +kernel
theorem dX10_put_75 : decode cX10_put 75 = .ok (.iadd, 1) := by decide +kernel
theorem dX10_put_76 : decode cX10_put 76 = .ok (.iload 6, 2) := by decide +kernel
theorem dX10_put_78 : decode cX10_put 78 = .ok (.iastore, 1) := by decide +kernel
theorem dX10_put_79 : decode cX10_put 79 = .ok (.aload_n 0, 1) := by decide +kernel
theorem dX10_put_80 : decode cX10_put 80 = .ok (.getfield 26, 3) := by decide +kernel
theorem dX10_put_83 : decode cX10_put 83 = .ok (.iload 8, 2) := by decide +kernel
theorem dX10_put_85 : decode cX10_put 85 = .ok (.iconst 4, 1) := by decide +kernel
theorem dX10_put_86 : decode cX10_put 86 = .ok (.iadd, 1) := by decide +kernel
theorem dX10_put_87 : decode cX10_put 87 = .ok (.iload 7, 2) := by decide +kernel
theorem dX10_put_89 : decode cX10_put 89 = .ok (.iastore, 1) := by decide +kernel
theorem dX10_put_90 : decode cX10_put 90 = .ok (.aload_n 0, 1) := by decide +kernel
theorem dX10_put_91 : decode cX10_put 91 = .ok (.getfield 26, 3) := by decide +kernel
theorem dX10_put_94 : decode cX10_put 94 = .ok (.iload 8, 2) := by decide +kernel
theorem dX10_put_96 : decode cX10_put 96 = .ok (.iconst 5, 1) := by decide +kernel
theorem dX10_put_97 : decode cX10_put 97 = .ok (.iadd, 1) := by decide +kernel
theorem dX10_put_98 : decode cX10_put 98 = .ok (.iload 9, 2) := by decide +kernel
theorem dX10_put_100 : decode cX10_put 100 = .ok (.iload_n 3, 1) := by decide +kernel
theorem dX10_put_101 : decode cX10_put 101 = .ok (.iload 4, 2) := by decide +kernel
theorem dX10_put_103 : decode cX10_put 103 = .ok (.iload 5, 2) := by decide +kernel
theorem dX10_put_105 : decode cX10_put 105 = .ok (.iload 6, 2) := by decide +kernel
theorem dX10_put_107 : decode cX10_put 107 = .ok (.iload 7, 2) := by decide +kernel
theorem dX10_put_109 : decode cX10_put 109 = .ok (.invokestatic 72, 3) := by decide +kernel
theorem dX10_put_112 : decode cX10_put 112 = .ok (.iastore, 1) := by decide +kernel
theorem dX10_put_113 : decode cX10_put 113 = .ok (.aload_n 0, 1) := by decide +kernel
theorem dX10_put_114 : decode cX10_put 114 = .ok (.getfield 26, 3) := by decide +kernel
theorem dX10_put_117 : decode cX10_put 117 = .ok (.iload 8, 2) := by decide +kernel
theorem dX10_put_119 : decode cX10_put 119 = .ok (.bipush 6, 2) := by decide +kernel
theorem dX10_put_121 : decode cX10_put 121 = .ok (.iadd, 1) := by decide +kernel
theorem dX10_put_122 : decode cX10_put 122 = .ok (.iload_n 1, 1) := by decide +kernel
theorem dX10_put_123 : decode cX10_put 123 = .ok (.iastore, 1) := by decide +kernel
theorem dX10_put_124 : decode cX10_put 124 = .ok (.aload_n 0, 1) := by decide +kernel
theorem dX10_put_125 : decode cX10_put 125 = .ok (.getfield 26, 3) := by decide +kernel
theorem dX10_put_128 : decode cX10_put 128 = .ok (.iload 8, 2) := by decide +kernel
theorem dX10_put_130 : decode cX10_put 130 = .ok (.bipush 7, 2) := by decide +kernel
theorem dX10_put_132 : decode cX10_put 132 = .ok (.iadd, 1) := by decide +kernel
theorem dX10_put_133 : decode cX10_put 133 = .ok (.iload_n 2, 1) := by decide +kernel
theorem dX10_put_134 : decode cX10_put 134 = .ok (.iastore, 1) := by decide +kernel
theorem dX10_put_135 : decode cX10_put 135 = .ok (.aload_n 0, 1) := by decide +kernel
theorem dX10_put_136 : decode cX10_put 136 = .ok (.dup, 1) := by decide +kernel
theorem dX10_put_137 : decode cX10_put 137 = .ok (.getfield 61, 3) := by decide +kernel
theorem dX10_put_140 : decode cX10_put 140 = .ok (.iconst 1, 1) := by decide +kernel
theorem dX10_put_141 : decode cX10_put 141 = .ok (.iadd, 1) := by decide +kernel
theorem dX10_put_142 : decode cX10_put 142 = .ok (.putfield 61, 3) := by decide +kernel
theorem dX10_put_145 : decode cX10_put 145 = .ok (.return_, 1) := by decide +kernel
theorem dX10_right_0 : decode cX10_right 0 = .ok (.aload_n 0, 1) := by decide +kernel
theorem dX10_right_1 : decode cX10_right 1 = .ok (.aload_n 0, 1) := by decide +kernel
theorem dX10_right_2 : decode cX10_right 2 = .ok (.getfield 29, 3) := by decide +kernel
theorem dX10_right_5 : decode cX10_right 5 = .ok (.bipush 7, 2) := by decide +kernel
theorem dX10_right_7 : decode cX10_right 7 = .ok (.iaload, 1) := by decide +kernel
theorem dX10_right_8 : decode cX10_right 8 = .ok (.aload_n 0, 1) := by decide +kernel
theorem dX10_right_9 : decode cX10_right 9 = .ok (.getfield 29, 3) := by decide +kernel
theorem dX10_right_12 : decode cX10_right 12 = .ok (.bipush 6, 2) := by decide +kernel
theorem dX10_right_14 : decode cX10_right 14 = .ok (.iaload, 1) := by decide +kernel
theorem dX10_right_15 : decode cX10_right 15 = .ok (.invokevirtual 65, 3) := by decide +kernel
theorem dX10_right_18 : decode cX10_right 18 = .ok (.istore_n 2, 1) := by decide +kernel
theorem dX10_right_19 : decode cX10_right 19 = .ok (.aload_n 0, 1) := by decide +kernel
theorem dX10_right_20 : decode cX10_right 20 = .ok (.getfield 29, 3) := by decide +kernel
theorem dX10_right_23 : decode cX10_right 23 = .ok (.iconst 5, 1) := by decide +kernel
theorem dX10_right_24 : decode cX10_right 24 = .ok (.iaload, 1) := by decide +kernel
theorem dX10_right_25 : decode cX10_right 25 = .ok (.iload_n 2, 1) := by decide +kernel
theorem dX10_right_26 : decode cX10_right 26 = .ok (.aload_n 0, 1) := by decide +kernel
theorem dX10_right_27 : decode cX10_right 27 = .ok (.getfield 29, 3) := by decide +kernel
theorem dX10_right_30 : decode cX10_right 30 = .ok (.iconst 0, 1) := by decide +kernel
theorem dX10_right_31 : decode cX10_right 31 = .ok (.iaload, 1) := by decide +kernel
theorem dX10_right_32 : decode cX10_right 32 = .ok (.aload_n 0, 1) := by decide +kernel
theorem dX10_right_33 : decode cX10_right 33 = .ok (.getfield 29, 3) := by decide +kernel
theorem dX10_right_36 : decode cX10_right 36 = .ok (.iconst 1, 1) := by decide +kernel
theorem dX10_right_37 : decode cX10_right 37 = .ok (.iaload, 1) := by decide +kernel
theorem dX10_right_38 : decode cX10_right 38 = .ok (.iload_n 1, 1) := by decide +kernel
theorem dX10_right_39 : decode cX10_right 39 = .ok (.aload_n 0, 1) := by decide +kernel
theorem dX10_right_40 : decode cX10_right 40 = .ok (.getfield 29, 3) := by decide +kernel
theorem dX10_right_43 : decode cX10_right 43 = .ok (.iconst 3, 1) := by decide +kernel
theorem dX10_right_44 : decode cX10_right 44 = .ok (.iaload, 1) := by decide +kernel
theorem dX10_right_45 : decode cX10_right 45 = .ok (.aload_n 0, 1) := by decide +kernel
theorem dX10_right_46 : decode cX10_right 46 = .ok (.getfield 29, 3) := by decide +kernel
theorem dX10_right_49 : decode cX10_right 49 = .ok (.iconst 4, 1) := by decide +kernel
theorem dX10_right_50 : decode cX10_right 50 = .ok (.iaload, 1) := by decide +kernel
theorem dX10_right_51 : decode cX10_right 51 = .ok (.invokestatic 72, 3) := by decide +kernel
theorem dX10_right_54 : decode cX10_right 54 = .ok (.if_icmp .ne 7, 3) := by decide +kernel
theorem dX10_right_57 : decode cX10_right 57 = .ok (.iconst 1, 1) := by decide +kernel
theorem dX10_right_58 : decode cX10_right 58 = .ok (.goto 4, 3) := by decide +kernel
theorem dX10_right_61 : decode cX10_right 61 = .ok (.iconst 0, 1) := by decide +kernel
theorem dX10_right_62 : decode cX10_right 62 = .ok (.ireturn, 1) := by decide +kernel
theorem dX10_inFlight_0 : decode cX10_inFlight 0 = .ok (.iload_n 1, 1) := by decide +kernel
theorem dX10_inFlight_1 : decode cX10_inFlight 1 = .ok (.ifCond .lt 15, 3) := by decide +kernel
theorem dX10_inFlight_4 : decode cX10_inFlight 4 = .ok (.iload_n 1, 1) := by decide +kernel
theorem dX10_inFlight_5 : decode cX10_inFlight 5 = .ok (.aload_n 0, 1) := by decide +kernel
theorem dX10_inFlight_6 : decode cX10_inFlight 6 = .ok (.getfield 61, 3) := by decide +kernel
theorem dX10_inFlight_9 : decode cX10_inFlight 9 = .ok (.if_icmp .ge 7, 3) := by decide +kernel
theorem dX10_inFlight_12 : decode cX10_inFlight 12 = .ok (.iconst 1, 1) := by decide +kernel
theorem dX10_inFlight_13 : decode cX10_inFlight 13 = .ok (.goto 4, 3) := by decide +kernel
theorem dX10_inFlight_16 : decode cX10_inFlight 16 = .ok (.iconst 0, 1) := by decide +kernel
theorem dX10_inFlight_17 : decode cX10_inFlight 17 = .ok (.ireturn, 1) := by decide +kernel
theorem dX10_takeOut_0 : decode cX10_takeOut 0 = .ok (.bipush 8, 2) := by decide +kernel
theorem dX10_takeOut_2 : decode cX10_takeOut 2 = .ok (.iload_n 1, 1) := by decide +kernel
theorem dX10_takeOut_3 : decode cX10_takeOut 3 = .ok (.imul, 1) := by decide +kernel
theorem dX10_takeOut_4 : decode cX10_takeOut 4 = .ok (.istore_n 2, 1) := by decide +kernel
theorem dX10_takeOut_5 : decode cX10_takeOut 5 = .ok (.iload_n 2, 1) := by decide +kernel
theorem dX10_takeOut_6 : decode cX10_takeOut 6 = .ok (.bipush 8, 2) := by decide +kernel
theorem dX10_takeOut_8 : decode cX10_takeOut 8 = .ok (.aload_n 0, 1) := by decide +kernel
theorem dX10_takeOut_9 : decode cX10_takeOut 9 = .ok (.getfield 61, 3) := by decide +kernel
theorem dX10_takeOut_12 : decode cX10_takeOut 12 = .ok (.imul, 1) := by decide +kernel
theorem dX10_takeOut_13 : decode cX10_takeOut 13 = .ok (.bipush 8, 2) := by decide +kernel
theorem dX10_takeOut_15 : decode cX10_takeOut 15 = .ok (.isub, 1) := by decide +kernel
theorem dX10_takeOut_16 : decode cX10_takeOut 16 = .ok (.if_icmp .ge 24, 3) := by decide +kernel
theorem dX10_takeOut_19 : decode cX10_takeOut 19 = .ok (.aload_n 0, 1) := by decide +kernel
theorem dX10_takeOut_20 : decode cX10_takeOut 20 = .ok (.getfield 26, 3) := by decide +kernel
theorem dX10_takeOut_23 : decode cX10_takeOut 23 = .ok (.iload_n 2, 1) := by decide +kernel
theorem dX10_takeOut_24 : decode cX10_takeOut 24 = .ok (.aload_n 0, 1) := by decide +kernel
theorem dX10_takeOut_25 : decode cX10_takeOut 25 = .ok (.getfield 26, 3) := by decide +kernel
theorem dX10_takeOut_28 : decode cX10_takeOut 28 = .ok (.iload_n 2, 1) := by decide +kernel
theorem dX10_takeOut_29 : decode cX10_takeOut 29 = .ok (.bipush 8, 2) := by decide +kernel
theorem dX10_takeOut_31 : decode cX10_takeOut 31 = .ok (.iadd, 1) := by decide +kernel
theorem dX10_takeOut_32 : decode cX10_takeOut 32 = .ok (.iaload, 1) := by decide +kernel
theorem dX10_takeOut_33 : decode cX10_takeOut 33 = .ok (.iastore, 1) := by decide +kernel
theorem dX10_takeOut_34 : decode cX10_takeOut 34 = .ok (.iinc 2 1, 3) := by decide +kernel
theorem dX10_takeOut_37 : decode cX10_takeOut 37 = .ok (.goto (-32), 3) := by decide +kernel
theorem dX10_takeOut_40 : decode cX10_takeOut 40 = .ok (.aload_n 0, 1) := by decide +kernel
theorem dX10_takeOut_41 : decode cX10_takeOut 41 = .ok (.dup, 1) := by decide +kernel
theorem dX10_takeOut_42 : decode cX10_takeOut 42 = .ok (.getfield 61, 3) := by decide +kernel
theorem dX10_takeOut_45 : decode cX10_takeOut 45 = .ok (.iconst 1, 1) := by decide +kernel
theorem dX10_takeOut_46 : decode cX10_takeOut 46 = .ok (.isub, 1) := by decide +kernel
theorem dX10_takeOut_47 : decode cX10_takeOut 47 = .ok (.putfield 61, 3) := by decide +kernel
theorem dX10_takeOut_50 : decode cX10_takeOut 50 = .ok (.return_, 1) := by decide +kernel
theorem dX10_deliver_0 : decode cX10_deliver 0 = .ok (.aload_n 0, 1) := by decide +kernel
theorem dX10_deliver_1 : decode cX10_deliver 1 = .ok (.iload_n 1, 1) := by decide +kernel
theorem dX10_deliver_2 : decode cX10_deliver 2 = .ok (.invokevirtual 76, 3) := by decide +kernel
theorem dX10_deliver_5 : decode cX10_deliver 5 = .ok (.ifCond .ne 5, 3) := by decide +kernel
theorem dX10_deliver_8 : decode cX10_deliver 8 = .ok (.iconst (-1), 1) := by decide +kernel
theorem dX10_deliver_9 : decode cX10_deliver 9 = .ok (.ireturn, 1) := by decide +kernel
theorem dX10_deliver_10 : decode cX10_deliver 10 = .ok (.iconst 0, 1) := by decide +kernel
theorem dX10_deliver_11 : decode cX10_deliver 11 = .ok (.istore_n 2, 1) := by decide +kernel
theorem dX10_deliver_12 : decode cX10_deliver 12 = .ok (.iload_n 2, 1) := by decide +kernel
theorem dX10_deliver_13 : decode cX10_deliver 13 = .ok (.bipush 8, 2) := by decide +kernel
theorem dX10_deliver_15 : decode cX10_deliver 15 = .ok (.if_icmp .ge 26, 3) := by decide +kernel
theorem dX10_deliver_18 : decode cX10_deliver 18 = .ok (.aload_n 0, 1) := by decide +kernel
theorem dX10_deliver_19 : decode cX10_deliver 19 = .ok (.getfield 29, 3) := by decide +kernel
theorem dX10_deliver_22 : decode cX10_deliver 22 = .ok (.iload_n 2, 1) := by decide +kernel
theorem dX10_deliver_23 : decode cX10_deliver 23 = .ok (.aload_n 0, 1) := by decide +kernel
theorem dX10_deliver_24 : decode cX10_deliver 24 = .ok (.getfield 26, 3) := by decide +kernel
theorem dX10_deliver_27 : decode cX10_deliver 27 = .ok (.bipush 8, 2) := by decide +kernel
theorem dX10_deliver_29 : decode cX10_deliver 29 = .ok (.iload_n 1, 1) := by decide +kernel
theorem dX10_deliver_30 : decode cX10_deliver 30 = .ok (.imul, 1) := by decide +kernel
theorem dX10_deliver_31 : decode cX10_deliver 31 = .ok (.iload_n 2, 1) := by decide +kernel
theorem dX10_deliver_32 : decode cX10_deliver 32 = .ok (.iadd, 1) := by decide +kernel
theorem dX10_deliver_33 : decode cX10_deliver 33 = .ok (.iaload, 1) := by decide +kernel
theorem dX10_deliver_34 : decode cX10_deliver 34 = .ok (.iastore, 1) := by decide +kernel
theorem dX10_deliver_35 : decode cX10_deliver 35 = .ok (.iinc 2 1, 3) := by decide +kernel
theorem dX10_deliver_38 : decode cX10_deliver 38 = .ok (.goto (-26), 3) := by decide +kernel
theorem dX10_deliver_41 : decode cX10_deliver 41 = .ok (.aload_n 0, 1) := by decide +kernel
theorem dX10_deliver_42 : decode cX10_deliver 42 = .ok (.iload_n 1, 1) := by decide +kernel
theorem dX10_deliver_43 : decode cX10_deliver 43 = .ok (.invokevirtual 79, 3) := by decide +kernel
theorem dX10_deliver_46 : decode cX10_deliver 46 = .ok (.aload_n 0, 1) := by decide +kernel
theorem dX10_deliver_47 : decode cX10_deliver 47 = .ok (.getfield 29, 3) := by decide +kernel
theorem dX10_deliver_50 : decode cX10_deliver 50 = .ok (.bipush 6, 2) := by decide +kernel
theorem dX10_deliver_52 : decode cX10_deliver 52 = .ok (.iaload, 1) := by decide +kernel
theorem dX10_deliver_53 : decode cX10_deliver 53 = .ok (.istore_n 2, 1) := by decide +kernel
theorem dX10_deliver_54 : decode cX10_deliver 54 = .ok (.aload_n 0, 1) := by decide +kernel
theorem dX10_deliver_55 : decode cX10_deliver 55 = .ok (.getfield 29, 3) := by decide +kernel
theorem dX10_deliver_58 : decode cX10_deliver 58 = .ok (.bipush 7, 2) := by decide +kernel
theorem dX10_deliver_60 : decode cX10_deliver 60 = .ok (.iaload, 1) := by decide +kernel
theorem dX10_deliver_61 : decode cX10_deliver 61 = .ok (.istore_n 3, 1) := by decide +kernel
theorem dX10_deliver_62 : decode cX10_deliver 62 = .ok (.iload_n 3, 1) := by decide +kernel
theorem dX10_deliver_63 : decode cX10_deliver 63 = .ok (.iconst 2, 1) := by decide +kernel
theorem dX10_deliver_64 : decode cX10_deliver 64 = .ok (.if_icmp .eq 24, 3) := by decide +kernel
theorem dX10_deliver_67 : decode cX10_deliver 67 = .ok (.iload_n 3, 1) := by decide +kernel
theorem dX10_deliver_68 : decode cX10_deliver 68 = .ok (.iconst 2, 1) := by decide +kernel
theorem dX10_deliver_69 : decode cX10_deliver 69 = .ok (.if_icmp .ge 11, 3) := by decide +kernel
theorem dX10_deliver_72 : decode cX10_deliver 72 = .ok (.aload_n 0, 1) := by decide +kernel
theorem dX10_deliver_73 : decode cX10_deliver 73 = .ok (.iload_n 3, 1) := by decide +kernel
theorem dX10_deliver_74 : decode cX10_deliver 74 = .ok (.invokevirtual 83, 3) := by decide +kernel
theorem dX10_deliver_77 : decode cX10_deliver 77 = .ok (.goto 10, 3) := by decide +kernel
theorem dX10_deliver_80 : decode cX10_deliver 80 = .ok (.aload_n 0, 1) := by decide +kernel
theorem dX10_deliver_81 : decode cX10_deliver 81 = .ok (.iload_n 3, 1) := by decide +kernel
theorem dX10_deliver_82 : decode cX10_deliver 82 = .ok (.iconst 3, 1) := by decide +kernel
theorem dX10_deliver_83 : decode cX10_deliver 83 = .ok (.isub, 1) := by decide +kernel
theorem dX10_deliver_84 : decode cX10_deliver 84 = .ok (.invokevirtual 87, 3) := by decide +kernel
theorem dX10_deliver_87 : decode cX10_deliver 87 = .ok (.ireturn, 1) := by decide +kernel
theorem dX10_deliver_88 : decode cX10_deliver 88 = .ok (.iload_n 2, 1) := by decide +kernel
theorem dX10_deliver_89 : decode cX10_deliver 89 = .ok (.iconst 2, 1) := by decide +kernel
theorem dX10_deliver_90 : decode cX10_deliver 90 = .ok (.if_icmp .ge 11, 3) := by decide +kernel
theorem dX10_deliver_93 : decode cX10_deliver 93 = .ok (.aload_n 0, 1) := by decide +kernel
theorem dX10_deliver_94 : decode cX10_deliver 94 = .ok (.iload_n 2, 1) := by decide +kernel
theorem dX10_deliver_95 : decode cX10_deliver 95 = .ok (.invokevirtual 90, 3) := by decide +kernel
theorem dX10_deliver_98 : decode cX10_deliver 98 = .ok (.goto 8, 3) := by decide +kernel
theorem dX10_deliver_101 : decode cX10_deliver 101 = .ok (.aload_n 0, 1) := by decide +kernel
theorem dX10_deliver_102 : decode cX10_deliver 102 = .ok (.iload_n 2, 1) := by decide +kernel
theorem dX10_deliver_103 : decode cX10_deliver 103 = .ok (.invokevirtual 93, 3) := by decide +kernel
theorem dX10_deliver_106 : decode cX10_deliver 106 = .ok (.ireturn, 1) := by decide +kernel
theorem dX10_lose_0 : decode cX10_lose 0 = .ok (.aload_n 0, 1) := by decide +kernel
theorem dX10_lose_1 : decode cX10_lose 1 = .ok (.iload_n 1, 1) := by decide +kernel
theorem dX10_lose_2 : decode cX10_lose 2 = .ok (.invokevirtual 76, 3) := by decide +kernel
theorem dX10_lose_5 : decode cX10_lose 5 = .ok (.ifCond .ne 5, 3) := by decide +kernel
theorem dX10_lose_8 : decode cX10_lose 8 = .ok (.iconst 0, 1) := by decide +kernel
theorem dX10_lose_9 : decode cX10_lose 9 = .ok (.ireturn, 1) := by decide +kernel
theorem dX10_lose_10 : decode cX10_lose 10 = .ok (.aload_n 0, 1) := by decide +kernel
theorem dX10_lose_11 : decode cX10_lose 11 = .ok (.iload_n 1, 1) := by decide +kernel
theorem dX10_lose_12 : decode cX10_lose 12 = .ok (.invokevirtual 79, 3) := by decide +kernel
theorem dX10_lose_15 : decode cX10_lose 15 = .ok (.iconst 1, 1) := by decide +kernel
theorem dX10_lose_16 : decode cX10_lose 16 = .ok (.ireturn, 1) := by decide +kernel
theorem dX10_copy_0 : decode cX10_copy 0 = .ok (.aload_n 0, 1) := by decide +kernel
theorem dX10_copy_1 : decode cX10_copy 1 = .ok (.iload_n 1, 1) := by decide +kernel
theorem dX10_copy_2 : decode cX10_copy 2 = .ok (.invokevirtual 76, 3) := by decide +kernel
theorem dX10_copy_5 : decode cX10_copy 5 = .ok (.ifCond .eq 12, 3) := by decide +kernel
theorem dX10_copy_8 : decode cX10_copy 8 = .ok (.aload_n 0, 1) := by decide +kernel
theorem dX10_copy_9 : decode cX10_copy 9 = .ok (.getfield 61, 3) := by decide +kernel
theorem dX10_copy_12 : decode cX10_copy 12 = .ok (.bipush 24, 2) := by decide +kernel
theorem dX10_copy_14 : decode cX10_copy 14 = .ok (.if_icmp .ne 5, 3) := by decide +kernel
theorem dX10_copy_17 : decode cX10_copy 17 = .ok (.iconst 0, 1) := by decide +kernel
theorem dX10_copy_18 : decode cX10_copy 18 = .ok (.ireturn, 1) := by decide +kernel
theorem dX10_copy_19 : decode cX10_copy 19 = .ok (.iconst 0, 1) := by decide +kernel
theorem dX10_copy_20 : decode cX10_copy 20 = .ok (.istore_n 2, 1) := by decide +kernel
theorem dX10_copy_21 : decode cX10_copy 21 = .ok (.iload_n 2, 1) := by decide +kernel
theorem dX10_copy_22 : decode cX10_copy 22 = .ok (.bipush 8, 2) := by decide +kernel
theorem dX10_copy_24 : decode cX10_copy 24 = .ok (.if_icmp .ge 34, 3) := by decide +kernel
theorem dX10_copy_27 : decode cX10_copy 27 = .ok (.aload_n 0, 1) := by decide +kernel
theorem dX10_copy_28 : decode cX10_copy 28 = .ok (.getfield 26, 3) := by decide +kernel
theorem dX10_copy_31 : decode cX10_copy 31 = .ok (.bipush 8, 2) := by decide +kernel
theorem dX10_copy_33 : decode cX10_copy 33 = .ok (.aload_n 0, 1) := by decide +kernel
theorem dX10_copy_34 : decode cX10_copy 34 = .ok (.getfield 61, 3) := by decide +kernel
theorem dX10_copy_37 : decode cX10_copy 37 = .ok (.imul, 1) := by decide +kernel
theorem dX10_copy_38 : decode cX10_copy 38 = .ok (.iload_n 2, 1) := by decide +kernel
theorem dX10_copy_39 : decode cX10_copy 39 = .ok (.iadd, 1) := by decide +kernel
theorem dX10_copy_40 : decode cX10_copy 40 = .ok (.aload_n 0, 1) := by decide +kernel
theorem dX10_copy_41 : decode cX10_copy 41 = .ok (.getfield 26, 3) := by decide +kernel
theorem dX10_copy_44 : decode cX10_copy 44 = .ok (.bipush 8, 2) := by decide +kernel
theorem dX10_copy_46 : decode cX10_copy 46 = .ok (.iload_n 1, 1) := by decide +kernel
theorem dX10_copy_47 : decode cX10_copy 47 = .ok (.imul, 1) := by decide +kernel
theorem dX10_copy_48 : decode cX10_copy 48 = .ok (.iload_n 2, 1) := by decide +kernel
theorem dX10_copy_49 : decode cX10_copy 49 = .ok (.iadd, 1) := by decide +kernel
theorem dX10_copy_50 : decode cX10_copy 50 = .ok (.iaload, 1) := by decide +kernel
theorem dX10_copy_51 : decode cX10_copy 51 = .ok (.iastore, 1) := by decide +kernel
theorem dX10_copy_52 : decode cX10_copy 52 = .ok (.iinc 2 1, 3) := by decide +kernel
theorem dX10_copy_55 : decode cX10_copy 55 = .ok (.goto (-34), 3) := by decide +kernel
theorem dX10_copy_58 : decode cX10_copy 58 = .ok (.aload_n 0, 1) := by decide +kernel
theorem dX10_copy_59 : decode cX10_copy 59 = .ok (.dup, 1) := by decide +kernel
theorem dX10_copy_60 : decode cX10_copy 60 = .ok (.getfield 61, 3) := by decide +kernel
theorem dX10_copy_63 : decode cX10_copy 63 = .ok (.iconst 1, 1) := by decide +kernel
theorem dX10_copy_64 : decode cX10_copy 64 = .ok (.iadd, 1) := by decide +kernel
theorem dX10_copy_65 : decode cX10_copy 65 = .ok (.putfield 61, 3) := by decide +kernel
theorem dX10_copy_68 : decode cX10_copy 68 = .ok (.iconst 1, 1) := by decide +kernel
theorem dX10_copy_69 : decode cX10_copy 69 = .ok (.ireturn, 1) := by decide +kernel
theorem dX10_forge_0 : decode cX10_forge 0 = .ok (.aload_n 0, 1) := by decide +kernel
theorem dX10_forge_1 : decode cX10_forge 1 = .ok (.iload_n 1, 1) := by decide +kernel
theorem dX10_forge_2 : decode cX10_forge 2 = .ok (.invokevirtual 76, 3) := by decide +kernel
theorem dX10_forge_5 : decode cX10_forge 5 = .ok (.ifCond .eq 12, 3) := by decide +kernel
theorem dX10_forge_8 : decode cX10_forge 8 = .ok (.iload_n 2, 1) := by decide +kernel
theorem dX10_forge_9 : decode cX10_forge 9 = .ok (.ifCond .lt 8, 3) := by decide +kernel
theorem dX10_forge_12 : decode cX10_forge 12 = .ok (.iload_n 2, 1) := by decide +kernel
theorem dX10_forge_13 : decode cX10_forge 13 = .ok (.iconst 5, 1) := by decide +kernel
theorem dX10_forge_14 : decode cX10_forge 14 = .ok (.if_icmp .le 5, 3) := by decide +kernel
theorem dX10_forge_17 : decode cX10_forge 17 = .ok (.iconst 0, 1) := by decide +kernel
theorem dX10_forge_18 : decode cX10_forge 18 = .ok (.ireturn, 1) := by decide +kernel
theorem dX10_forge_19 : decode cX10_forge 19 = .ok (.aload_n 0, 1) := by decide +kernel
theorem dX10_forge_20 : decode cX10_forge 20 = .ok (.getfield 26, 3) := by decide +kernel
theorem dX10_forge_23 : decode cX10_forge 23 = .ok (.bipush 8, 2) := by decide +kernel
theorem dX10_forge_25 : decode cX10_forge 25 = .ok (.iload_n 1, 1) := by decide +kernel
theorem dX10_forge_26 : decode cX10_forge 26 = .ok (.imul, 1) := by decide +kernel
theorem dX10_forge_27 : decode cX10_forge 27 = .ok (.iload_n 2, 1) := by decide +kernel
theorem dX10_forge_28 : decode cX10_forge 28 = .ok (.iadd, 1) := by decide +kernel
theorem dX10_forge_29 : decode cX10_forge 29 = .ok (.dup2, 1) := by decide +kernel
theorem dX10_forge_30 : decode cX10_forge 30 = .ok (.iaload, 1) := by decide +kernel
theorem dX10_forge_31 : decode cX10_forge 31 = .ok (.iload_n 3, 1) := by decide +kernel
theorem dX10_forge_32 : decode cX10_forge 32 = .ok (.iadd, 1) := by decide +kernel
theorem dX10_forge_33 : decode cX10_forge 33 = .ok (.iastore, 1) := by decide +kernel
theorem dX10_forge_34 : decode cX10_forge 34 = .ok (.iconst 1, 1) := by decide +kernel
theorem dX10_forge_35 : decode cX10_forge 35 = .ok (.ireturn, 1) := by decide +kernel
theorem dX10_flight_0 : decode cX10_flight 0 = .ok (.aload_n 0, 1) := by decide +kernel
theorem dX10_flight_1 : decode cX10_flight 1 = .ok (.getfield 61, 3) := by decide +kernel
theorem dX10_flight_4 : decode cX10_flight 4 = .ok (.ireturn, 1) := by decide +kernel
theorem dX10_field_0 : decode cX10_field 0 = .ok (.aload_n 0, 1) := by decide +kernel
theorem dX10_field_1 : decode cX10_field 1 = .ok (.iload_n 1, 1) := by decide +kernel
theorem dX10_field_2 : decode cX10_field 2 = .ok (.invokevirtual 76, 3) := by decide +kernel
theorem dX10_field_5 : decode cX10_field 5 = .ok (.ifCond .eq 13, 3) := by decide +kernel
theorem dX10_field_8 : decode cX10_field 8 = .ok (.iload_n 2, 1) := by decide +kernel
theorem dX10_field_9 : decode cX10_field 9 = .ok (.ifCond .lt 9, 3) := by decide +kernel
theorem dX10_field_12 : decode cX10_field 12 = .ok (.iload_n 2, 1) := by decide +kernel
theorem dX10_field_13 : decode cX10_field 13 = .ok (.bipush 7, 2) := by decide +kernel
theorem dX10_field_15 : decode cX10_field 15 = .ok (.if_icmp .le 7, 3) := by decide +kernel
theorem dX10_field_18 : decode cX10_field 18 = .ok (.iconst (-1), 1) := by decide +kernel
theorem dX10_field_19 : decode cX10_field 19 = .ok (.goto 14, 3) := by decide +kernel
theorem dX10_field_22 : decode cX10_field 22 = .ok (.aload_n 0, 1) := by decide +kernel
theorem dX10_field_23 : decode cX10_field 23 = .ok (.getfield 26, 3) := by decide +kernel
theorem dX10_field_26 : decode cX10_field 26 = .ok (.bipush 8, 2) := by decide +kernel
theorem dX10_field_28 : decode cX10_field 28 = .ok (.iload_n 1, 1) := by decide +kernel
theorem dX10_field_29 : decode cX10_field 29 = .ok (.imul, 1) := by decide +kernel
theorem dX10_field_30 : decode cX10_field 30 = .ok (.iload_n 2, 1) := by decide +kernel
theorem dX10_field_31 : decode cX10_field 31 = .ok (.iadd, 1) := by decide +kernel
theorem dX10_field_32 : decode cX10_field 32 = .ok (.iaload, 1) := by decide +kernel
theorem dX10_field_33 : decode cX10_field 33 = .ok (.ireturn, 1) := by decide +kernel
theorem dX10_noLine_0 : decode cX10_noLine 0 = .ok (.iload_n 0, 1) := by decide +kernel
theorem dX10_noLine_1 : decode cX10_noLine 1 = .ok (.ifCond .lt 17, 3) := by decide +kernel
theorem dX10_noLine_4 : decode cX10_noLine 4 = .ok (.iload_n 0, 1) := by decide +kernel
theorem dX10_noLine_5 : decode cX10_noLine 5 = .ok (.iconst 1, 1) := by decide +kernel
theorem dX10_noLine_6 : decode cX10_noLine 6 = .ok (.if_icmp .gt 12, 3) := by decide +kernel
theorem dX10_noLine_9 : decode cX10_noLine 9 = .ok (.iload_n 1, 1) := by decide +kernel
theorem dX10_noLine_10 : decode cX10_noLine 10 = .ok (.ifCond .lt 8, 3) := by decide +kernel
theorem dX10_noLine_13 : decode cX10_noLine 13 = .ok (.iload_n 1, 1) := by decide +kernel
theorem dX10_noLine_14 : decode cX10_noLine 14 = .ok (.iconst 3, 1) := by decide +kernel
theorem dX10_noLine_15 : decode cX10_noLine 15 = .ok (.if_icmp .le 7, 3) := by decide +kernel
theorem dX10_noLine_18 : decode cX10_noLine 18 = .ok (.iconst 1, 1) := by decide +kernel
theorem dX10_noLine_19 : decode cX10_noLine 19 = .ok (.goto 4, 3) := by decide +kernel
theorem dX10_noLine_22 : decode cX10_noLine 22 = .ok (.iconst 0, 1) := by decide +kernel
theorem dX10_noLine_23 : decode cX10_noLine 23 = .ok (.ireturn, 1) := by decide +kernel
theorem dX10_pending_0 : decode cX10_pending 0 = .ok (.aload_n 0, 1) := by decide +kernel
theorem dX10_pending_1 : decode cX10_pending 1 = .ok (.getfield 32, 3) := by decide +kernel
theorem dX10_pending_4 : decode cX10_pending 4 = .ok (.bipush 10, 2) := by decide +kernel
theorem dX10_pending_6 : decode cX10_pending 6 = .ok (.iload_n 1, 1) := by decide +kernel
theorem dX10_pending_7 : decode cX10_pending 7 = .ok (.imul, 1) := by decide +kernel
theorem dX10_pending_8 : decode cX10_pending 8 = .ok (.iaload, 1) := by decide +kernel
theorem dX10_pending_9 : decode cX10_pending 9 = .ok (.iconst 1, 1) := by decide +kernel
theorem dX10_pending_10 : decode cX10_pending 10 = .ok (.if_icmp .eq 16, 3) := by decide +kernel
theorem dX10_pending_13 : decode cX10_pending 13 = .ok (.aload_n 0, 1) := by decide +kernel
theorem dX10_pending_14 : decode cX10_pending 14 = .ok (.getfield 32, 3) := by decide +kernel
theorem dX10_pending_17 : decode cX10_pending 17 = .ok (.bipush 10, 2) := by decide +kernel
theorem dX10_pending_19 : decode cX10_pending 19 = .ok (.iload_n 1, 1) := by decide +kernel
theorem dX10_pending_20 : decode cX10_pending 20 = .ok (.imul, 1) := by decide +kernel
theorem dX10_pending_21 : decode cX10_pending 21 = .ok (.iaload, 1) := by decide +kernel
theorem dX10_pending_22 : decode cX10_pending 22 = .ok (.iconst 3, 1) := by decide +kernel
theorem dX10_pending_23 : decode cX10_pending 23 = .ok (.if_icmp .ne 7, 3) := by decide +kernel
theorem dX10_pending_26 : decode cX10_pending 26 = .ok (.iconst 1, 1) := by decide +kernel
theorem dX10_pending_27 : decode cX10_pending 27 = .ok (.goto 4, 3) := by decide +kernel
theorem dX10_pending_30 : decode cX10_pending 30 = .ok (.iconst 0, 1) := by decide +kernel
theorem dX10_pending_31 : decode cX10_pending 31 = .ok (.ireturn, 1) := by decide +kernel
theorem dX10_start_0 : decode cX10_start 0 = .ok (.iload_n 1, 1) := by decide +kernel
theorem dX10_start_1 : decode cX10_start 1 = .ok (.iconst 4, 1) := by decide +kernel
theorem dX10_start_2 : decode cX10_start 2 = .ok (.idiv, 1) := by decide +kernel
theorem dX10_start_3 : decode cX10_start 3 = .ok (.istore 4, 2) := by decide +kernel
theorem dX10_start_5 : decode cX10_start 5 = .ok (.aload_n 0, 1) := by decide +kernel
theorem dX10_start_6 : decode cX10_start 6 = .ok (.getfield 35, 3) := by decide +kernel
theorem dX10_start_9 : decode cX10_start 9 = .ok (.iload 4, 2) := by decide +kernel
theorem dX10_start_11 : decode cX10_start 11 = .ok (.iaload, 1) := by decide +kernel
theorem dX10_start_12 : decode cX10_start 12 = .ok (.istore 5, 2) := by decide +kernel
theorem dX10_start_14 : decode cX10_start 14 = .ok (.iconst 1, 1) := by decide +kernel
theorem dX10_start_15 : decode cX10_start 15 = .ok (.istore 6, 2) := by decide +kernel
theorem dX10_start_17 : decode cX10_start 17 = .ok (.iconst 0, 1) := by decide +kernel
theorem dX10_start_18 : decode cX10_start 18 = .ok (.istore 7, 2) := by decide +kernel
theorem dX10_start_20 : decode cX10_start 20 = .ok (.iload 7, 2) := by decide +kernel
theorem dX10_start_22 : decode cX10_start 22 = .ok (.bipush 8, 2) := by decide +kernel
theorem dX10_start_24 : decode cX10_start 24 = .ok (.if_icmp .ge 87, 3) := by decide +kernel
theorem dX10_start_27 : decode cX10_start 27 = .ok (.iload 6, 2) := by decide +kernel
theorem dX10_start_29 : decode cX10_start 29 = .ok (.ifCond .eq 82, 3) := by decide +kernel
theorem dX10_start_32 : decode cX10_start 32 = .ok (.iload 5, 2) := by decide +kernel
theorem dX10_start_34 : decode cX10_start 34 = .ok (.iconst 1, 1) := by decide +kernel
theorem dX10_start_35 : decode cX10_start 35 = .ok (.iadd, 1) := by decide +kernel
theorem dX10_start_36 : decode cX10_start 36 = .ok (.bipush 8, 2) := by decide +kernel
theorem dX10_start_38 : decode cX10_start 38 = .ok (.irem, 1) := by decide +kernel
theorem dX10_start_39 : decode cX10_start 39 = .ok (.istore 5, 2) := by decide +kernel
theorem dX10_start_41 : decode cX10_start 41 = .ok (.iconst 0, 1) := by decide +kernel
theorem dX10_start_42 : decode cX10_start 42 = .ok (.istore 6, 2) := by decide +kernel
theorem dX10_start_44 : decode cX10_start 44 = .ok (.iconst 4, 1) := by decide +kernel
theorem dX10_start_45 : decode cX10_start 45 = .ok (.iload 4, 2) := by decide +kernel
theorem dX10_start_47 : decode cX10_start 47 = .ok (.imul, 1) := by decide +kernel
theorem dX10_start_48 : decode cX10_start 48 = .ok (.istore 8, 2) := by decide +kernel
theorem dX10_start_50 : decode cX10_start 50 = .ok (.iload 8, 2) := by decide +kernel
theorem dX10_start_52 : decode cX10_start 52 = .ok (.iconst 4, 1) := by decide +kernel
theorem dX10_start_53 : decode cX10_start 53 = .ok (.iload 4, 2) := by decide +kernel
theorem dX10_start_55 : decode cX10_start 55 = .ok (.imul, 1) := by decide +kernel
theorem dX10_start_56 : decode cX10_start 56 = .ok (.iconst 4, 1) := by decide +kernel
theorem dX10_start_57 : decode cX10_start 57 = .ok (.iadd, 1) := by decide +kernel
theorem dX10_start_58 : decode cX10_start 58 = .ok (.if_icmp .ge 47, 3) := by decide +kernel
theorem dX10_start_61 : decode cX10_start 61 = .ok (.iload 6, 2) := by decide +kernel
theorem dX10_start_63 : decode cX10_start 63 = .ok (.ifCond .ne 29, 3) := by decide +kernel
theorem dX10_start_66 : decode cX10_start 66 = .ok (.aload_n 0, 1) := by decide +kernel
theorem dX10_start_67 : decode cX10_start 67 = .ok (.iload 8, 2) := by decide +kernel
theorem dX10_start_69 : decode cX10_start 69 = .ok (.invokevirtual 96, 3) := by decide +kernel
theorem dX10_start_72 : decode cX10_start 72 = .ok (.ifCond .eq 24, 3) := by decide +kernel
theorem dX10_start_75 : decode cX10_start 75 = .ok (.aload_n 0, 1) := by decide +kernel
theorem dX10_start_76 : decode cX10_start 76 = .ok (.getfield 32, 3) := by decide +kernel
theorem dX10_start_79 : decode cX10_start 79 = .ok (.bipush 10, 2) := by decide +kernel
theorem dX10_start_81 : decode cX10_start 81 = .ok (.iload 8, 2) := by decide +kernel
theorem dX10_start_83 : decode cX10_start 83 = .ok (.imul, 1) := by decide +kernel
theorem dX10_start_84 : decode cX10_start 84 = .ok (.iconst 2, 1) := by decide +kernel
theorem dX10_start_85 : decode cX10_start 85 = .ok (.iadd, 1) := by decide +kernel
theorem dX10_start_86 : decode cX10_start 86 = .ok (.iaload, 1) := by decide +kernel
theorem dX10_start_87 : decode cX10_start 87 = .ok (.iload 5, 2) := by decide +kernel
theorem dX10_start_89 : decode cX10_start 89 = .ok (.if_icmp .ne 7, 3) := by decide +kernel
theorem dX10_start_92 : decode cX10_start 92 = .ok (.iconst 1, 1) := by decide +kernel
theorem dX10_start_93 : decode cX10_start 93 = .ok (.goto 4, 3) := by decide +kernel
theorem dX10_start_96 : decode cX10_start 96 = .ok (.iconst 0, 1) := by decide +kernel
theorem dX10_start_97 : decode cX10_start 97 = .ok (.istore 6, 2) := by decide +kernel
theorem dX10_start_99 : decode cX10_start 99 = .ok (.iinc 8 1, 3) := by decide +kernel
theorem dX10_start_102 : decode cX10_start 102 = .ok (.goto (-52), 3) := by decide +kernel
theorem dX10_start_105 : decode cX10_start 105 = .ok (.iinc 7 1, 3) := by decide +kernel
theorem dX10_start_108 : decode cX10_start 108 = .ok (.goto (-88), 3) := by decide +kernel
theorem dX10_start_111 : decode cX10_start 111 = .ok (.aload_n 0, 1) := by decide +kernel
theorem dX10_start_112 : decode cX10_start 112 = .ok (.getfield 35, 3) := by decide +kernel
theorem dX10_start_115 : decode cX10_start 115 = .ok (.iload 4, 2) := by decide +kernel
theorem dX10_start_117 : decode cX10_start 117 = .ok (.iload 5, 2) := by decide +kernel
theorem dX10_start_119 : decode cX10_start 119 = .ok (.iastore, 1) := by decide +kernel
theorem dX10_start_120 : decode cX10_start 120 = .ok (.aload_n 0, 1) := by decide +kernel
theorem dX10_start_121 : decode cX10_start 121 = .ok (.getfield 32, 3) := by decide +kernel
theorem dX10_start_124 : decode cX10_start 124 = .ok (.bipush 10, 2) := by decide +kernel
theorem dX10_start_126 : decode cX10_start 126 = .ok (.iload_n 1, 1) := by decide +kernel
theorem dX10_start_127 : decode cX10_start 127 = .ok (.imul, 1) := by decide +kernel
theorem dX10_start_128 : decode cX10_start 128 = .ok (.iload_n 2, 1) := by decide +kernel
theorem dX10_start_129 : decode cX10_start 129 = .ok (.iastore, 1) := by decide +kernel
theorem dX10_start_130 : decode cX10_start 130 = .ok (.aload_n 0, 1) := by decide +kernel
theorem dX10_start_131 : decode cX10_start 131 = .ok (.getfield 32, 3) := by decide +kernel
theorem dX10_start_134 : decode cX10_start 134 = .ok (.bipush 10, 2) := by decide +kernel
theorem dX10_start_136 : decode cX10_start 136 = .ok (.iload_n 1, 1) := by decide +kernel
theorem dX10_start_137 : decode cX10_start 137 = .ok (.imul, 1) := by decide +kernel
theorem dX10_start_138 : decode cX10_start 138 = .ok (.iconst 2, 1) := by decide +kernel
theorem dX10_start_139 : decode cX10_start 139 = .ok (.iadd, 1) := by decide +kernel
theorem dX10_start_140 : decode cX10_start 140 = .ok (.iload 5, 2) := by decide +kernel
theorem dX10_start_142 : decode cX10_start 142 = .ok (.iastore, 1) := by decide +kernel
theorem dX10_start_143 : decode cX10_start 143 = .ok (.aload_n 0, 1) := by decide +kernel
theorem dX10_start_144 : decode cX10_start 144 = .ok (.getfield 32, 3) := by decide +kernel
theorem dX10_start_147 : decode cX10_start 147 = .ok (.bipush 10, 2) := by decide +kernel
theorem dX10_start_149 : decode cX10_start 149 = .ok (.iload_n 1, 1) := by decide +kernel
theorem dX10_start_150 : decode cX10_start 150 = .ok (.imul, 1) := by decide +kernel
theorem dX10_start_151 : decode cX10_start 151 = .ok (.iconst 3, 1) := by decide +kernel
theorem dX10_start_152 : decode cX10_start 152 = .ok (.iadd, 1) := by decide +kernel
theorem dX10_start_153 : decode cX10_start 153 = .ok (.iload_n 3, 1) := by decide +kernel
theorem dX10_start_154 : decode cX10_start 154 = .ok (.iastore, 1) := by decide +kernel
theorem dX10_start_155 : decode cX10_start 155 = .ok (.aload_n 0, 1) := by decide +kernel
theorem dX10_start_156 : decode cX10_start 156 = .ok (.getfield 32, 3) := by decide +kernel
theorem dX10_start_159 : decode cX10_start 159 = .ok (.bipush 10, 2) := by decide +kernel
theorem dX10_start_161 : decode cX10_start 161 = .ok (.iload_n 1, 1) := by decide +kernel
theorem dX10_start_162 : decode cX10_start 162 = .ok (.imul, 1) := by decide +kernel
theorem dX10_start_163 : decode cX10_start 163 = .ok (.bipush 9, 2) := by decide +kernel
theorem dX10_start_165 : decode cX10_start 165 = .ok (.iadd, 1) := by decide +kernel
theorem dX10_start_166 : decode cX10_start 166 = .ok (.iconst 0, 1) := by decide +kernel
theorem dX10_start_167 : decode cX10_start 167 = .ok (.iastore, 1) := by decide +kernel
theorem dX10_start_168 : decode cX10_start 168 = .ok (.aload_n 0, 1) := by decide +kernel
theorem dX10_start_169 : decode cX10_start 169 = .ok (.iload_n 1, 1) := by decide +kernel
theorem dX10_start_170 : decode cX10_start 170 = .ok (.invokevirtual 99, 3) := by decide +kernel
theorem dX10_start_173 : decode cX10_start 173 = .ok (.return_, 1) := by decide +kernel
theorem dX10_sendLine_0 : decode cX10_sendLine 0 = .ok (.bipush 10, 2) := by decide +kernel
theorem dX10_sendLine_2 : decode cX10_sendLine 2 = .ok (.iload_n 1, 1) := by decide +kernel
theorem dX10_sendLine_3 : decode cX10_sendLine 3 = .ok (.imul, 1) := by decide +kernel
theorem dX10_sendLine_4 : decode cX10_sendLine 4 = .ok (.istore_n 2, 1) := by decide +kernel
theorem dX10_sendLine_5 : decode cX10_sendLine 5 = .ok (.iload_n 1, 1) := by decide +kernel
theorem dX10_sendLine_6 : decode cX10_sendLine 6 = .ok (.iconst 4, 1) := by decide +kernel
theorem dX10_sendLine_7 : decode cX10_sendLine 7 = .ok (.idiv, 1) := by decide +kernel
theorem dX10_sendLine_8 : decode cX10_sendLine 8 = .ok (.istore_n 3, 1) := by decide +kernel
theorem dX10_sendLine_9 : decode cX10_sendLine 9 = .ok (.aload_n 0, 1) := by decide +kernel
theorem dX10_sendLine_10 : decode cX10_sendLine 10 = .ok (.getfield 32, 3) := by decide +kernel
theorem dX10_sendLine_13 : decode cX10_sendLine 13 = .ok (.iload_n 2, 1) := by decide +kernel
theorem dX10_sendLine_14 : decode cX10_sendLine 14 = .ok (.iconst 2, 1) := by decide +kernel
theorem dX10_sendLine_15 : decode cX10_sendLine 15 = .ok (.iadd, 1) := by decide +kernel
theorem dX10_sendLine_16 : decode cX10_sendLine 16 = .ok (.iaload, 1) := by decide +kernel
theorem dX10_sendLine_17 : decode cX10_sendLine 17 = .ok (.istore 4, 2) := by decide +kernel
theorem dX10_sendLine_19 : decode cX10_sendLine 19 = .ok (.aload_n 0, 1) := by decide +kernel
theorem dX10_sendLine_20 : decode cX10_sendLine 20 = .ok (.getfield 32, 3) := by decide +kernel
theorem dX10_sendLine_23 : decode cX10_sendLine 23 = .ok (.iload_n 2, 1) := by decide +kernel
theorem dX10_sendLine_24 : decode cX10_sendLine 24 = .ok (.iconst 3, 1) := by decide +kernel
theorem dX10_sendLine_25 : decode cX10_sendLine 25 = .ok (.iadd, 1) := by decide +kernel
theorem dX10_sendLine_26 : decode cX10_sendLine 26 = .ok (.iaload, 1) := by decide +kernel
theorem dX10_sendLine_27 : decode cX10_sendLine 27 = .ok (.istore 5, 2) := by decide +kernel
theorem dX10_sendLine_29 : decode cX10_sendLine 29 = .ok (.aload_n 0, 1) := by decide +kernel
theorem dX10_sendLine_30 : decode cX10_sendLine 30 = .ok (.getfield 32, 3) := by decide +kernel
theorem dX10_sendLine_33 : decode cX10_sendLine 33 = .ok (.iload_n 2, 1) := by decide +kernel
theorem dX10_sendLine_34 : decode cX10_sendLine 34 = .ok (.iconst 4, 1) := by decide +kernel
theorem dX10_sendLine_35 : decode cX10_sendLine 35 = .ok (.iadd, 1) := by decide +kernel
theorem dX10_sendLine_36 : decode cX10_sendLine 36 = .ok (.iaload, 1) := by decide +kernel
theorem dX10_sendLine_37 : decode cX10_sendLine 37 = .ok (.istore 6, 2) := by decide +kernel
theorem dX10_sendLine_39 : decode cX10_sendLine 39 = .ok (.aload_n 0, 1) := by decide +kernel
theorem dX10_sendLine_40 : decode cX10_sendLine 40 = .ok (.getfield 32, 3) := by decide +kernel
theorem dX10_sendLine_43 : decode cX10_sendLine 43 = .ok (.iload_n 2, 1) := by decide +kernel
theorem dX10_sendLine_44 : decode cX10_sendLine 44 = .ok (.iaload, 1) := by decide +kernel
theorem dX10_sendLine_45 : decode cX10_sendLine 45 = .ok (.iconst 1, 1) := by decide +kernel
theorem dX10_sendLine_46 : decode cX10_sendLine 46 = .ok (.if_icmp .ne 43, 3) := by decide +kernel
theorem dX10_sendLine_49 : decode cX10_sendLine 49 = .ok (.aload_n 0, 1) := by decide +kernel
theorem dX10_sendLine_50 : decode cX10_sendLine 50 = .ok (.getfield 32, 3) := by decide +kernel
theorem dX10_sendLine_53 : decode cX10_sendLine 53 = .ok (.iload_n 2, 1) := by decide +kernel
theorem dX10_sendLine_54 : decode cX10_sendLine 54 = .ok (.iconst 5, 1) := by decide +kernel
theorem dX10_sendLine_55 : decode cX10_sendLine 55 = .ok (.iadd, 1) := by decide +kernel
theorem dX10_sendLine_56 : decode cX10_sendLine 56 = .ok (.iaload, 1) := by decide +kernel
theorem dX10_sendLine_57 : decode cX10_sendLine 57 = .ok (.aload_n 0, 1) := by decide +kernel
theorem dX10_sendLine_58 : decode cX10_sendLine 58 = .ok (.getfield 7, 3) := by decide +kernel
theorem dX10_sendLine_61 : decode cX10_sendLine 61 = .ok (.iload_n 3, 1) := by decide +kernel
theorem dX10_sendLine_62 : decode cX10_sendLine 62 = .ok (.iaload, 1) := by decide +kernel
theorem dX10_sendLine_63 : decode cX10_sendLine 63 = .ok (.iload 5, 2) := by decide +kernel
theorem dX10_sendLine_65 : decode cX10_sendLine 65 = .ok (.invokestatic 57, 3) := by decide +kernel
theorem dX10_sendLine_68 : decode cX10_sendLine 68 = .ok (.ixor, 1) := by decide +kernel
theorem dX10_sendLine_69 : decode cX10_sendLine 69 = .ok (.istore 7, 2) := by decide +kernel
theorem dX10_sendLine_71 : decode cX10_sendLine 71 = .ok (.aload_n 0, 1) := by decide +kernel
theorem dX10_sendLine_72 : decode cX10_sendLine 72 = .ok (.iload_n 3, 1) := by decide +kernel
theorem dX10_sendLine_73 : decode cX10_sendLine 73 = .ok (.iconst 2, 1) := by decide +kernel
theorem dX10_sendLine_74 : decode cX10_sendLine 74 = .ok (.iconst 0, 1) := by decide +kernel
theorem dX10_sendLine_75 : decode cX10_sendLine 75 = .ok (.iload 4, 2) := by decide +kernel
theorem dX10_sendLine_77 : decode cX10_sendLine 77 = .ok (.iload 5, 2) := by decide +kernel
theorem dX10_sendLine_79 : decode cX10_sendLine 79 = .ok (.iload 6, 2) := by decide +kernel
theorem dX10_sendLine_81 : decode cX10_sendLine 81 = .ok (.iload 7, 2) := by decide +kernel
theorem dX10_sendLine_83 : decode cX10_sendLine 83 = .ok (.invokevirtual 102, 3) := by decide +kernel
theorem dX10_sendLine_86 : decode cX10_sendLine 86 = .ok (.goto 25, 3) := by decide +kernel
theorem dX10_sendLine_89 : decode cX10_sendLine 89 = .ok (.aload_n 0, 1) := by decide +kernel
theorem dX10_sendLine_90 : decode cX10_sendLine 90 = .ok (.iload_n 3, 1) := by decide +kernel
theorem dX10_sendLine_91 : decode cX10_sendLine 91 = .ok (.iconst 2, 1) := by decide +kernel
theorem dX10_sendLine_92 : decode cX10_sendLine 92 = .ok (.iconst 3, 1) := by decide +kernel
theorem dX10_sendLine_93 : decode cX10_sendLine 93 = .ok (.iload 4, 2) := by decide +kernel
theorem dX10_sendLine_95 : decode cX10_sendLine 95 = .ok (.iload 5, 2) := by decide +kernel
theorem dX10_sendLine_97 : decode cX10_sendLine 97 = .ok (.iload 6, 2) := by decide +kernel
theorem dX10_sendLine_99 : decode cX10_sendLine 99 = .ok (.aload_n 0, 1) := by decide +kernel
theorem dX10_sendLine_100 : decode cX10_sendLine 100 = .ok (.getfield 32, 3) := by decide +kernel
theorem dX10_sendLine_103 : decode cX10_sendLine 103 = .ok (.iload_n 2, 1) := by decide +kernel
theorem dX10_sendLine_104 : decode cX10_sendLine 104 = .ok (.bipush 6, 2) := by decide +kernel
theorem dX10_sendLine_106 : decode cX10_sendLine 106 = .ok (.iadd, 1) := by decide +kernel
theorem dX10_sendLine_107 : decode cX10_sendLine 107 = .ok (.iaload, 1) := by decide +kernel
theorem dX10_sendLine_108 : decode cX10_sendLine 108 = .ok (.invokevirtual 102, 3) := by decide +kernel
theorem dX10_sendLine_111 : decode cX10_sendLine 111 = .ok (.aload_n 0, 1) := by decide +kernel
theorem dX10_sendLine_112 : decode cX10_sendLine 112 = .ok (.getfield 32, 3) := by decide +kernel
theorem dX10_sendLine_115 : decode cX10_sendLine 115 = .ok (.iload_n 2, 1) := by decide +kernel
theorem dX10_sendLine_116 : decode cX10_sendLine 116 = .ok (.bipush 8, 2) := by decide +kernel
theorem dX10_sendLine_118 : decode cX10_sendLine 118 = .ok (.iadd, 1) := by decide +kernel
theorem dX10_sendLine_119 : decode cX10_sendLine 119 = .ok (.aload_n 0, 1) := by decide +kernel
theorem dX10_sendLine_120 : decode cX10_sendLine 120 = .ok (.getfield 106, 3) := by decide +kernel
theorem dX10_sendLine_123 : decode cX10_sendLine 123 = .ok (.iastore, 1) := by decide +kernel
theorem dX10_sendLine_124 : decode cX10_sendLine 124 = .ok (.aload_n 0, 1) := by decide +kernel
theorem dX10_sendLine_125 : decode cX10_sendLine 125 = .ok (.getfield 32, 3) := by decide +kernel
theorem dX10_sendLine_128 : decode cX10_sendLine 128 = .ok (.iload_n 2, 1) := by decide +kernel
theorem dX10_sendLine_129 : decode cX10_sendLine 129 = .ok (.bipush 9, 2) := by decide +kernel
theorem dX10_sendLine_131 : decode cX10_sendLine 131 = .ok (.iadd, 1) := by decide +kernel
theorem dX10_sendLine_132 : decode cX10_sendLine 132 = .ok (.dup2, 1) := by decide +kernel
theorem dX10_sendLine_133 : decode cX10_sendLine 133 = .ok (.iaload, 1) := by decide +kernel
theorem dX10_sendLine_134 : decode cX10_sendLine 134 = .ok (.iconst 1, 1) := by decide +kernel
theorem dX10_sendLine_135 : decode cX10_sendLine 135 = .ok (.iadd, 1) := by decide +kernel
theorem dX10_sendLine_136 : decode cX10_sendLine 136 = .ok (.iastore, 1) := by decide +kernel
theorem dX10_sendLine_137 : decode cX10_sendLine 137 = .ok (.return_, 1) := by decide +kernel
theorem dX10_login_0 : decode cX10_login 0 = .ok (.iload_n 1, 1) := by decide +kernel
theorem dX10_login_1 : decode cX10_login 1 = .ok (.iload_n 2, 1) := by decide +kernel
theorem dX10_login_2 : decode cX10_login 2 = .ok (.invokestatic 109, 3) := by decide +kernel
theorem dX10_login_5 : decode cX10_login 5 = .ok (.ifCond .ne 30, 3) := by decide +kernel
theorem dX10_login_8 : decode cX10_login 8 = .ok (.iload_n 3, 1) := by decide +kernel
theorem dX10_login_9 : decode cX10_login 9 = .ok (.ifCond .lt 26, 3) := by decide +kernel
theorem dX10_login_12 : decode cX10_login 12 = .ok (.iload_n 3, 1) := by decide +kernel
theorem dX10_login_13 : decode cX10_login 13 = .ok (.bipush 11, 2) := by decide +kernel
theorem dX10_login_15 : decode cX10_login 15 = .ok (.if_icmp .gt 20, 3) := by decide +kernel
theorem dX10_login_18 : decode cX10_login 18 = .ok (.aload_n 0, 1) := by decide +kernel
theorem dX10_login_19 : decode cX10_login 19 = .ok (.getfield 32, 3) := by decide +kernel
theorem dX10_login_22 : decode cX10_login 22 = .ok (.bipush 40, 2) := by decide +kernel
theorem dX10_login_24 : decode cX10_login 24 = .ok (.iload_n 1, 1) := by decide +kernel
theorem dX10_login_25 : decode cX10_login 25 = .ok (.imul, 1) := by decide +kernel
theorem dX10_login_26 : decode cX10_login 26 = .ok (.bipush 10, 2) := by decide +kernel
theorem dX10_login_28 : decode cX10_login 28 = .ok (.iload_n 2, 1) := by decide +kernel
theorem dX10_login_29 : decode cX10_login 29 = .ok (.imul, 1) := by decide +kernel
theorem dX10_login_30 : decode cX10_login 30 = .ok (.iadd, 1) := by decide +kernel
theorem dX10_login_31 : decode cX10_login 31 = .ok (.iaload, 1) := by decide +kernel
theorem dX10_login_32 : decode cX10_login 32 = .ok (.ifCond .eq 5, 3) := by decide +kernel
theorem dX10_login_35 : decode cX10_login 35 = .ok (.iconst (-1), 1) := by decide +kernel
theorem dX10_login_36 : decode cX10_login 36 = .ok (.ireturn, 1) := by decide +kernel
theorem dX10_login_37 : decode cX10_login 37 = .ok (.iconst 4, 1) := by decide +kernel
theorem dX10_login_38 : decode cX10_login 38 = .ok (.iload_n 1, 1) := by decide +kernel
theorem dX10_login_39 : decode cX10_login 39 = .ok (.imul, 1) := by decide +kernel
theorem dX10_login_40 : decode cX10_login 40 = .ok (.iload_n 2, 1) := by decide +kernel
theorem dX10_login_41 : decode cX10_login 41 = .ok (.iadd, 1) := by decide +kernel
theorem dX10_login_42 : decode cX10_login 42 = .ok (.istore 6, 2) := by decide +kernel
theorem dX10_login_44 : decode cX10_login 44 = .ok (.aload_n 0, 1) := by decide +kernel
theorem dX10_login_45 : decode cX10_login 45 = .ok (.getfield 32, 3) := by decide +kernel
theorem dX10_login_48 : decode cX10_login 48 = .ok (.bipush 10, 2) := by decide +kernel
theorem dX10_login_50 : decode cX10_login 50 = .ok (.iload 6, 2) := by decide +kernel
theorem dX10_login_52 : decode cX10_login 52 = .ok (.imul, 1) := by decide +kernel
theorem dX10_login_53 : decode cX10_login 53 = .ok (.iconst 1, 1) := by decide +kernel
theorem dX10_login_54 : decode cX10_login 54 = .ok (.iadd, 1) := by decide +kernel
theorem dX10_login_55 : decode cX10_login 55 = .ok (.iconst 0, 1) := by decide +kernel
theorem dX10_login_56 : decode cX10_login 56 = .ok (.iastore, 1) := by decide +kernel
theorem dX10_login_57 : decode cX10_login 57 = .ok (.aload_n 0, 1) := by decide +kernel
theorem dX10_login_58 : decode cX10_login 58 = .ok (.getfield 32, 3) := by decide +kernel
theorem dX10_login_61 : decode cX10_login 61 = .ok (.bipush 10, 2) := by decide +kernel
theorem dX10_login_63 : decode cX10_login 63 = .ok (.iload 6, 2) := by decide +kernel
theorem dX10_login_65 : decode cX10_login 65 = .ok (.imul, 1) := by decide +kernel
theorem dX10_login_66 : decode cX10_login 66 = .ok (.iconst 4, 1) := by decide +kernel
theorem dX10_login_67 : decode cX10_login 67 = .ok (.iadd, 1) := by decide +kernel
theorem dX10_login_68 : decode cX10_login 68 = .ok (.iload_n 3, 1) := by decide +kernel
theorem dX10_login_69 : decode cX10_login 69 = .ok (.iastore, 1) := by decide +kernel
theorem dX10_login_70 : decode cX10_login 70 = .ok (.aload_n 0, 1) := by decide +kernel
theorem dX10_login_71 : decode cX10_login 71 = .ok (.getfield 32, 3) := by decide +kernel
theorem dX10_login_74 : decode cX10_login 74 = .ok (.bipush 10, 2) := by decide +kernel
theorem dX10_login_76 : decode cX10_login 76 = .ok (.iload 6, 2) := by decide +kernel
theorem dX10_login_78 : decode cX10_login 78 = .ok (.imul, 1) := by decide +kernel
theorem dX10_login_79 : decode cX10_login 79 = .ok (.iconst 5, 1) := by decide +kernel
theorem dX10_login_80 : decode cX10_login 80 = .ok (.iadd, 1) := by decide +kernel
theorem dX10_login_81 : decode cX10_login 81 = .ok (.iload 4, 2) := by decide +kernel
theorem dX10_login_83 : decode cX10_login 83 = .ok (.iastore, 1) := by decide +kernel
theorem dX10_login_84 : decode cX10_login 84 = .ok (.aload_n 0, 1) := by decide +kernel
theorem dX10_login_85 : decode cX10_login 85 = .ok (.iload 6, 2) := by decide +kernel
theorem dX10_login_87 : decode cX10_login 87 = .ok (.iconst 1, 1) := by decide +kernel
theorem dX10_login_88 : decode cX10_login 88 = .ok (.iload 5, 2) := by decide +kernel
theorem dX10_login_90 : decode cX10_login 90 = .ok (.invokevirtual 113, 3) := by decide +kernel
theorem dX10_login_93 : decode cX10_login 93 = .ok (.aload_n 0, 1) := by decide +kernel
theorem dX10_login_94 : decode cX10_login 94 = .ok (.getfield 32, 3) := by decide +kernel
theorem dX10_login_97 : decode cX10_login 97 = .ok (.bipush 10, 2) := by decide +kernel
theorem dX10_login_99 : decode cX10_login 99 = .ok (.iload 6, 2) := by decide +kernel
theorem dX10_login_101 : decode cX10_login 101 = .ok (.imul, 1) := by decide +kernel
theorem dX10_login_102 : decode cX10_login 102 = .ok (.iconst 2, 1) := by decide +kernel
theorem dX10_login_103 : decode cX10_login 103 = .ok (.iadd, 1) := by decide +kernel
theorem dX10_login_104 : decode cX10_login 104 = .ok (.iaload, 1) := by decide +kernel
theorem dX10_login_105 : decode cX10_login 105 = .ok (.ireturn, 1) := by decide +kernel
theorem dX10_logout_0 : decode cX10_logout 0 = .ok (.iload_n 1, 1) := by decide +kernel
theorem dX10_logout_1 : decode cX10_logout 1 = .ok (.iload_n 2, 1) := by decide +kernel
theorem dX10_logout_2 : decode cX10_logout 2 = .ok (.invokestatic 109, 3) := by decide +kernel
theorem dX10_logout_5 : decode cX10_logout 5 = .ok (.ifCond .ne 21, 3) := by decide +kernel
theorem dX10_logout_8 : decode cX10_logout 8 = .ok (.aload_n 0, 1) := by decide +kernel
theorem dX10_logout_9 : decode cX10_logout 9 = .ok (.getfield 32, 3) := by decide +kernel
theorem dX10_logout_12 : decode cX10_logout 12 = .ok (.bipush 40, 2) := by decide +kernel
theorem dX10_logout_14 : decode cX10_logout 14 = .ok (.iload_n 1, 1) := by decide +kernel
theorem dX10_logout_15 : decode cX10_logout 15 = .ok (.imul, 1) := by decide +kernel
theorem dX10_logout_16 : decode cX10_logout 16 = .ok (.bipush 10, 2) := by decide +kernel
theorem dX10_logout_18 : decode cX10_logout 18 = .ok (.iload_n 2, 1) := by decide +kernel
theorem dX10_logout_19 : decode cX10_logout 19 = .ok (.imul, 1) := by decide +kernel
theorem dX10_logout_20 : decode cX10_logout 20 = .ok (.iadd, 1) := by decide +kernel
theorem dX10_logout_21 : decode cX10_logout 21 = .ok (.iaload, 1) := by decide +kernel
theorem dX10_logout_22 : decode cX10_logout 22 = .ok (.iconst 2, 1) := by decide +kernel
theorem dX10_logout_23 : decode cX10_logout 23 = .ok (.if_icmp .eq 5, 3) := by decide +kernel
theorem dX10_logout_26 : decode cX10_logout 26 = .ok (.iconst (-1), 1) := by decide +kernel
theorem dX10_logout_27 : decode cX10_logout 27 = .ok (.ireturn, 1) := by decide +kernel
theorem dX10_logout_28 : decode cX10_logout 28 = .ok (.iconst 4, 1) := by decide +kernel
theorem dX10_logout_29 : decode cX10_logout 29 = .ok (.iload_n 1, 1) := by decide +kernel
theorem dX10_logout_30 : decode cX10_logout 30 = .ok (.imul, 1) := by decide +kernel
theorem dX10_logout_31 : decode cX10_logout 31 = .ok (.iload_n 2, 1) := by decide +kernel
theorem dX10_logout_32 : decode cX10_logout 32 = .ok (.iadd, 1) := by decide +kernel
theorem dX10_logout_33 : decode cX10_logout 33 = .ok (.istore 4, 2) := by decide +kernel
theorem dX10_logout_35 : decode cX10_logout 35 = .ok (.aload_n 0, 1) := by decide +kernel
theorem dX10_logout_36 : decode cX10_logout 36 = .ok (.iload 4, 2) := by decide +kernel
theorem dX10_logout_38 : decode cX10_logout 38 = .ok (.iconst 3, 1) := by decide +kernel
theorem dX10_logout_39 : decode cX10_logout 39 = .ok (.iload_n 3, 1) := by decide +kernel
theorem dX10_logout_40 : decode cX10_logout 40 = .ok (.invokevirtual 113, 3) := by decide +kernel
theorem dX10_logout_43 : decode cX10_logout 43 = .ok (.aload_n 0, 1) := by decide +kernel
theorem dX10_logout_44 : decode cX10_logout 44 = .ok (.getfield 32, 3) := by decide +kernel
theorem dX10_logout_47 : decode cX10_logout 47 = .ok (.bipush 10, 2) := by decide +kernel
theorem dX10_logout_49 : decode cX10_logout 49 = .ok (.iload 4, 2) := by decide +kernel
theorem dX10_logout_51 : decode cX10_logout 51 = .ok (.imul, 1) := by decide +kernel
theorem dX10_logout_52 : decode cX10_logout 52 = .ok (.iconst 2, 1) := by decide +kernel
theorem dX10_logout_53 : decode cX10_logout 53 = .ok (.iadd, 1) := by decide +kernel
theorem dX10_logout_54 : decode cX10_logout 54 = .ok (.iaload, 1) := by decide +kernel
theorem dX10_logout_55 : decode cX10_logout 55 = .ok (.ireturn, 1) := by decide +kernel
theorem dX10_tick_0 : decode cX10_tick 0 = .ok (.iload_n 1, 1) := by decide +kernel
theorem dX10_tick_1 : decode cX10_tick 1 = .ok (.iconst 1, 1) := by decide +kernel
theorem dX10_tick_2 : decode cX10_tick 2 = .ok (.if_icmp .lt 9, 3) := by decide +kernel
theorem dX10_tick_5 : decode cX10_tick 5 = .ok (.iload_n 1, 1) := by decide +kernel
theorem dX10_tick_6 : decode cX10_tick 6 = .ok (.bipush 10, 2) := by decide +kernel
theorem dX10_tick_8 : decode cX10_tick 8 = .ok (.if_icmp .le 5, 3) := by decide +kernel
theorem dX10_tick_11 : decode cX10_tick 11 = .ok (.iconst (-1), 1) := by decide +kernel
theorem dX10_tick_12 : decode cX10_tick 12 = .ok (.ireturn, 1) := by decide +kernel
theorem dX10_tick_13 : decode cX10_tick 13 = .ok (.iconst 0, 1) := by decide +kernel
theorem dX10_tick_14 : decode cX10_tick 14 = .ok (.istore_n 2, 1) := by decide +kernel
theorem dX10_tick_15 : decode cX10_tick 15 = .ok (.iconst 0, 1) := by decide +kernel
theorem dX10_tick_16 : decode cX10_tick 16 = .ok (.istore_n 3, 1) := by decide +kernel
theorem dX10_tick_17 : decode cX10_tick 17 = .ok (.iload_n 3, 1) := by decide +kernel
theorem dX10_tick_18 : decode cX10_tick 18 = .ok (.iload_n 1, 1) := by decide +kernel
theorem dX10_tick_19 : decode cX10_tick 19 = .ok (.if_icmp .ge 137, 3) := by decide +kernel
theorem dX10_tick_22 : decode cX10_tick 22 = .ok (.aload_n 0, 1) := by decide +kernel
theorem dX10_tick_23 : decode cX10_tick 23 = .ok (.dup, 1) := by decide +kernel
theorem dX10_tick_24 : decode cX10_tick 24 = .ok (.getfield 106, 3) := by decide +kernel
theorem dX10_tick_27 : decode cX10_tick 27 = .ok (.iconst 1, 1) := by decide +kernel
theorem dX10_tick_28 : decode cX10_tick 28 = .ok (.iadd, 1) := by decide +kernel
theorem dX10_tick_29 : decode cX10_tick 29 = .ok (.putfield 106, 3) := by decide +kernel
theorem dX10_tick_32 : decode cX10_tick 32 = .ok (.iconst 0, 1) := by decide +kernel
theorem dX10_tick_33 : decode cX10_tick 33 = .ok (.istore 4, 2) := by decide +kernel
theorem dX10_tick_35 : decode cX10_tick 35 = .ok (.iload 4, 2) := by decide +kernel
theorem dX10_tick_37 : decode cX10_tick 37 = .ok (.bipush 8, 2) := by decide +kernel
theorem dX10_tick_39 : decode cX10_tick 39 = .ok (.if_icmp .ge 111, 3) := by decide +kernel
theorem dX10_tick_42 : decode cX10_tick 42 = .ok (.bipush 10, 2) := by decide +kernel
theorem dX10_tick_44 : decode cX10_tick 44 = .ok (.iload 4, 2) := by decide +kernel
theorem dX10_tick_46 : decode cX10_tick 46 = .ok (.imul, 1) := by decide +kernel
theorem dX10_tick_47 : decode cX10_tick 47 = .ok (.istore 5, 2) := by decide +kernel
theorem dX10_tick_49 : decode cX10_tick 49 = .ok (.aload_n 0, 1) := by decide +kernel
theorem dX10_tick_50 : decode cX10_tick 50 = .ok (.iload 4, 2) := by decide +kernel
theorem dX10_tick_52 : decode cX10_tick 52 = .ok (.invokevirtual 96, 3) := by decide +kernel
theorem dX10_tick_55 : decode cX10_tick 55 = .ok (.ifCond .eq 89, 3) := by decide +kernel
theorem dX10_tick_58 : decode cX10_tick 58 = .ok (.aload_n 0, 1) := by decide +kernel
theorem dX10_tick_59 : decode cX10_tick 59 = .ok (.getfield 106, 3) := by decide +kernel
theorem dX10_tick_62 : decode cX10_tick 62 = .ok (.aload_n 0, 1) := by decide +kernel
theorem dX10_tick_63 : decode cX10_tick 63 = .ok (.getfield 32, 3) := by decide +kernel
theorem dX10_tick_66 : decode cX10_tick 66 = .ok (.iload 5, 2) := by decide +kernel
theorem dX10_tick_68 : decode cX10_tick 68 = .ok (.bipush 8, 2) := by decide +kernel
theorem dX10_tick_70 : decode cX10_tick 70 = .ok (.iadd, 1) := by decide +kernel
theorem dX10_tick_71 : decode cX10_tick 71 = .ok (.iaload, 1) := by decide +kernel
theorem dX10_tick_72 : decode cX10_tick 72 = .ok (.isub, 1) := by decide +kernel
theorem dX10_tick_73 : decode cX10_tick 73 = .ok (.iconst 5, 1) := by decide +kernel
theorem dX10_tick_74 : decode cX10_tick 74 = .ok (.if_icmp .ne 70, 3) := by decide +kernel
theorem dX10_tick_77 : decode cX10_tick 77 = .ok (.aload_n 0, 1) := by decide +kernel
theorem dX10_tick_78 : decode cX10_tick 78 = .ok (.getfield 32, 3) := by decide +kernel
theorem dX10_tick_81 : decode cX10_tick 81 = .ok (.iload 5, 2) := by decide +kernel
theorem dX10_tick_83 : decode cX10_tick 83 = .ok (.bipush 9, 2) := by decide +kernel
theorem dX10_tick_85 : decode cX10_tick 85 = .ok (.iadd, 1) := by decide +kernel
theorem dX10_tick_86 : decode cX10_tick 86 = .ok (.iaload, 1) := by decide +kernel
theorem dX10_tick_87 : decode cX10_tick 87 = .ok (.iconst 3, 1) := by decide +kernel
theorem dX10_tick_88 : decode cX10_tick 88 = .ok (.if_icmp .ge 15, 3) := by decide +kernel
theorem dX10_tick_91 : decode cX10_tick 91 = .ok (.aload_n 0, 1) := by decide +kernel
theorem dX10_tick_92 : decode cX10_tick 92 = .ok (.iload 4, 2) := by decide +kernel
theorem dX10_tick_94 : decode cX10_tick 94 = .ok (.invokevirtual 99, 3) := by decide +kernel
theorem dX10_tick_97 : decode cX10_tick 97 = .ok (.iinc 2 1, 3) := by decide +kernel
theorem dX10_tick_100 : decode cX10_tick 100 = .ok (.goto 44, 3) := by decide +kernel
theorem dX10_tick_103 : decode cX10_tick 103 = .ok (.aload_n 0, 1) := by decide +kernel
theorem dX10_tick_104 : decode cX10_tick 104 = .ok (.getfield 32, 3) := by decide +kernel
theorem dX10_tick_107 : decode cX10_tick 107 = .ok (.iload 5, 2) := by decide +kernel
theorem dX10_tick_109 : decode cX10_tick 109 = .ok (.iconst 1, 1) := by decide +kernel
theorem dX10_tick_110 : decode cX10_tick 110 = .ok (.iadd, 1) := by decide +kernel
theorem dX10_tick_111 : decode cX10_tick 111 = .ok (.aload_n 0, 1) := by decide +kernel
theorem dX10_tick_112 : decode cX10_tick 112 = .ok (.getfield 32, 3) := by decide +kernel
theorem dX10_tick_115 : decode cX10_tick 115 = .ok (.iload 5, 2) := by decide +kernel
theorem dX10_tick_117 : decode cX10_tick 117 = .ok (.iaload, 1) := by decide +kernel
theorem dX10_tick_118 : decode cX10_tick 118 = .ok (.iconst 1, 1) := by decide +kernel
theorem dX10_tick_119 : decode cX10_tick 119 = .ok (.if_icmp .ne 7, 3) := by decide +kernel
theorem dX10_tick_122 : decode cX10_tick 122 = .ok (.iconst 3, 1) := by decide +kernel
theorem dX10_tick_123 : decode cX10_tick 123 = .ok (.goto 12, 3) := by decide +kernel
theorem dX10_tick_126 : decode cX10_tick 126 = .ok (.aload_n 0, 1) := by decide +kernel
theorem dX10_tick_127 : decode cX10_tick 127 = .ok (.getfield 32, 3) := by decide +kernel
theorem dX10_tick_130 : decode cX10_tick 130 = .ok (.iload 5, 2) := by decide +kernel
theorem dX10_tick_132 : decode cX10_tick 132 = .ok (.iconst 1, 1) := by decide +kernel
theorem dX10_tick_133 : decode cX10_tick 133 = .ok (.iadd, 1) := by decide +kernel
theorem dX10_tick_134 : decode cX10_tick 134 = .ok (.iaload, 1) := by decide +kernel
theorem dX10_tick_135 : decode cX10_tick 135 = .ok (.iastore, 1) := by decide +kernel
theorem dX10_tick_136 : decode cX10_tick 136 = .ok (.aload_n 0, 1) := by decide +kernel
theorem dX10_tick_137 : decode cX10_tick 137 = .ok (.getfield 32, 3) := by decide +kernel
theorem dX10_tick_140 : decode cX10_tick 140 = .ok (.iload 5, 2) := by decide +kernel
theorem dX10_tick_142 : decode cX10_tick 142 = .ok (.iconst 0, 1) := by decide +kernel
theorem dX10_tick_143 : decode cX10_tick 143 = .ok (.iastore, 1) := by decide +kernel
theorem dX10_tick_144 : decode cX10_tick 144 = .ok (.iinc 4 1, 3) := by decide +kernel
theorem dX10_tick_147 : decode cX10_tick 147 = .ok (.goto (-112), 3) := by decide +kernel
theorem dX10_tick_150 : decode cX10_tick 150 = .ok (.iinc 3 1, 3) := by decide +kernel
theorem dX10_tick_153 : decode cX10_tick 153 = .ok (.goto (-136), 3) := by decide +kernel
theorem dX10_tick_156 : decode cX10_tick 156 = .ok (.iload_n 2, 1) := by decide +kernel
theorem dX10_tick_157 : decode cX10_tick 157 = .ok (.ireturn, 1) := by decide +kernel
theorem dX10_atPoint_0 : decode cX10_atPoint 0 = .ok (.iconst 4, 1) := by decide +kernel
theorem dX10_atPoint_1 : decode cX10_atPoint 1 = .ok (.iload_n 1, 1) := by decide +kernel
theorem dX10_atPoint_2 : decode cX10_atPoint 2 = .ok (.imul, 1) := by decide +kernel
theorem dX10_atPoint_3 : decode cX10_atPoint 3 = .ok (.istore_n 2, 1) := by decide +kernel
theorem dX10_atPoint_4 : decode cX10_atPoint 4 = .ok (.iload_n 2, 1) := by decide +kernel
theorem dX10_atPoint_5 : decode cX10_atPoint 5 = .ok (.iconst 4, 1) := by decide +kernel
theorem dX10_atPoint_6 : decode cX10_atPoint 6 = .ok (.iload_n 1, 1) := by decide +kernel
theorem dX10_atPoint_7 : decode cX10_atPoint 7 = .ok (.imul, 1) := by decide +kernel
theorem dX10_atPoint_8 : decode cX10_atPoint 8 = .ok (.iconst 4, 1) := by decide +kernel
theorem dX10_atPoint_9 : decode cX10_atPoint 9 = .ok (.iadd, 1) := by decide +kernel
theorem dX10_atPoint_10 : decode cX10_atPoint 10 = .ok (.if_icmp .ge 206, 3) := by decide +kernel
theorem dX10_atPoint_13 : decode cX10_atPoint 13 = .ok (.bipush 10, 2) := by decide +kernel
theorem dX10_atPoint_15 : decode cX10_atPoint 15 = .ok (.iload_n 2, 1) := by decide +kernel
theorem dX10_atPoint_16 : decode cX10_atPoint 16 = .ok (.imul, 1) := by decide +kernel
theorem dX10_atPoint_17 : decode cX10_atPoint 17 = .ok (.istore_n 3, 1) := by decide +kernel
theorem dX10_atPoint_18 : decode cX10_atPoint 18 = .ok (.aload_n 0, 1) := by decide +kernel
theorem dX10_atPoint_19 : decode cX10_atPoint 19 = .ok (.getfield 32, 3) := by decide +kernel
theorem dX10_atPoint_22 : decode cX10_atPoint 22 = .ok (.iload_n 3, 1) := by decide +kernel
theorem dX10_atPoint_23 : decode cX10_atPoint 23 = .ok (.iaload, 1) := by decide +kernel
theorem dX10_atPoint_24 : decode cX10_atPoint 24 = .ok (.iconst 1, 1) := by decide +kernel
theorem dX10_atPoint_25 : decode cX10_atPoint 25 = .ok (.if_icmp .ne 23, 3) := by decide +kernel
theorem dX10_atPoint_28 : decode cX10_atPoint 28 = .ok (.aload_n 0, 1) := by decide +kernel
theorem dX10_atPoint_29 : decode cX10_atPoint 29 = .ok (.getfield 29, 3) := by decide +kernel
theorem dX10_atPoint_32 : decode cX10_atPoint 32 = .ok (.iconst 0, 1) := by decide +kernel
theorem dX10_atPoint_33 : decode cX10_atPoint 33 = .ok (.iaload, 1) := by decide +kernel
theorem dX10_atPoint_34 : decode cX10_atPoint 34 = .ok (.iconst 1, 1) := by decide +kernel
theorem dX10_atPoint_35 : decode cX10_atPoint 35 = .ok (.if_icmp .eq 33, 3) := by decide +kernel
theorem dX10_atPoint_38 : decode cX10_atPoint 38 = .ok (.aload_n 0, 1) := by decide +kernel
theorem dX10_atPoint_39 : decode cX10_atPoint 39 = .ok (.getfield 29, 3) := by decide +kernel
theorem dX10_atPoint_42 : decode cX10_atPoint 42 = .ok (.iconst 0, 1) := by decide +kernel
theorem dX10_atPoint_43 : decode cX10_atPoint 43 = .ok (.iaload, 1) := by decide +kernel
theorem dX10_atPoint_44 : decode cX10_atPoint 44 = .ok (.iconst 2, 1) := by decide +kernel
theorem dX10_atPoint_45 : decode cX10_atPoint 45 = .ok (.if_icmp .eq 23, 3) := by decide +kernel
theorem dX10_atPoint_48 : decode cX10_atPoint 48 = .ok (.aload_n 0, 1) := by decide +kernel
theorem dX10_atPoint_49 : decode cX10_atPoint 49 = .ok (.getfield 32, 3) := by decide +kernel
theorem dX10_atPoint_52 : decode cX10_atPoint 52 = .ok (.iload_n 3, 1) := by decide +kernel
theorem dX10_atPoint_53 : decode cX10_atPoint 53 = .ok (.iaload, 1) := by decide +kernel
theorem dX10_atPoint_54 : decode cX10_atPoint 54 = .ok (.iconst 3, 1) := by decide +kernel
theorem dX10_atPoint_55 : decode cX10_atPoint 55 = .ok (.if_icmp .ne 17, 3) := by decide +kernel
theorem dX10_atPoint_58 : decode cX10_atPoint 58 = .ok (.aload_n 0, 1) := by decide +kernel
theorem dX10_atPoint_59 : decode cX10_atPoint 59 = .ok (.getfield 29, 3) := by decide +kernel
theorem dX10_atPoint_62 : decode cX10_atPoint 62 = .ok (.iconst 0, 1) := by decide +kernel
theorem dX10_atPoint_63 : decode cX10_atPoint 63 = .ok (.iaload, 1) := by decide +kernel
theorem dX10_atPoint_64 : decode cX10_atPoint 64 = .ok (.iconst 4, 1) := by decide +kernel
theorem dX10_atPoint_65 : decode cX10_atPoint 65 = .ok (.if_icmp .ne 7, 3) := by decide +kernel
theorem dX10_atPoint_68 : decode cX10_atPoint 68 = .ok (.iconst 1, 1) := by decide +kernel
theorem dX10_atPoint_69 : decode cX10_atPoint 69 = .ok (.goto 4, 3) := by decide +kernel
theorem dX10_atPoint_72 : decode cX10_atPoint 72 = .ok (.iconst 0, 1) := by decide +kernel
theorem dX10_atPoint_73 : decode cX10_atPoint 73 = .ok (.istore 4, 2) := by decide +kernel
theorem dX10_atPoint_75 : decode cX10_atPoint 75 = .ok (.iload 4, 2) := by decide +kernel
theorem dX10_atPoint_77 : decode cX10_atPoint 77 = .ok (.ifCond .eq 133, 3) := by decide +kernel
theorem dX10_atPoint_80 : decode cX10_atPoint 80 = .ok (.aload_n 0, 1) := by decide +kernel
theorem dX10_atPoint_81 : decode cX10_atPoint 81 = .ok (.getfield 32, 3) := by decide +kernel
theorem dX10_atPoint_84 : decode cX10_atPoint 84 = .ok (.iload_n 3, 1) := by decide +kernel
theorem dX10_atPoint_85 : decode cX10_atPoint 85 = .ok (.iconst 2, 1) := by decide +kernel
theorem dX10_atPoint_86 : decode cX10_atPoint 86 = .ok (.iadd, 1) := by decide +kernel
theorem dX10_atPoint_87 : decode cX10_atPoint 87 = .ok (.iaload, 1) := by decide +kernel
theorem dX10_atPoint_88 : decode cX10_atPoint 88 = .ok (.aload_n 0, 1) := by decide +kernel
theorem dX10_atPoint_89 : decode cX10_atPoint 89 = .ok (.getfield 29, 3) := by decide +kernel
theorem dX10_atPoint_92 : decode cX10_atPoint 92 = .ok (.iconst 1, 1) := by decide +kernel
theorem dX10_atPoint_93 : decode cX10_atPoint 93 = .ok (.iaload, 1) := by decide +kernel
theorem dX10_atPoint_94 : decode cX10_atPoint 94 = .ok (.if_icmp .ne 116, 3) := by decide +kernel
theorem dX10_atPoint_97 : decode cX10_atPoint 97 = .ok (.aload_n 0, 1) := by decide +kernel
theorem dX10_atPoint_98 : decode cX10_atPoint 98 = .ok (.aload_n 0, 1) := by decide +kernel
theorem dX10_atPoint_99 : decode cX10_atPoint 99 = .ok (.getfield 32, 3) := by decide +kernel
theorem dX10_atPoint_102 : decode cX10_atPoint 102 = .ok (.iload_n 3, 1) := by decide +kernel
theorem dX10_atPoint_103 : decode cX10_atPoint 103 = .ok (.iconst 3, 1) := by decide +kernel
theorem dX10_atPoint_104 : decode cX10_atPoint 104 = .ok (.iadd, 1) := by decide +kernel
theorem dX10_atPoint_105 : decode cX10_atPoint 105 = .ok (.iaload, 1) := by decide +kernel
theorem dX10_atPoint_106 : decode cX10_atPoint 106 = .ok (.invokevirtual 117, 3) := by decide +kernel
theorem dX10_atPoint_109 : decode cX10_atPoint 109 = .ok (.ifCond .eq 101, 3) := by decide +kernel
theorem dX10_atPoint_112 : decode cX10_atPoint 112 = .ok (.aload_n 0, 1) := by decide +kernel
theorem dX10_atPoint_113 : decode cX10_atPoint 113 = .ok (.getfield 32, 3) := by decide +kernel
theorem dX10_atPoint_116 : decode cX10_atPoint 116 = .ok (.iload_n 3, 1) := by decide +kernel
theorem dX10_atPoint_117 : decode cX10_atPoint 117 = .ok (.aload_n 0, 1) := by decide +kernel
theorem dX10_atPoint_118 : decode cX10_atPoint 118 = .ok (.getfield 29, 3) := by decide +kernel
theorem dX10_atPoint_121 : decode cX10_atPoint 121 = .ok (.iconst 0, 1) := by decide +kernel
theorem dX10_atPoint_122 : decode cX10_atPoint 122 = .ok (.iaload, 1) := by decide +kernel
theorem dX10_atPoint_123 : decode cX10_atPoint 123 = .ok (.iconst 1, 1) := by decide +kernel
theorem dX10_atPoint_124 : decode cX10_atPoint 124 = .ok (.if_icmp .ne 7, 3) := by decide +kernel
theorem dX10_atPoint_127 : decode cX10_atPoint 127 = .ok (.iconst 2, 1) := by decide +kernel
theorem dX10_atPoint_128 : decode cX10_atPoint 128 = .ok (.goto 4, 3) := by decide +kernel
theorem dX10_atPoint_131 : decode cX10_atPoint 131 = .ok (.iconst 0, 1) := by decide +kernel
theorem dX10_atPoint_132 : decode cX10_atPoint 132 = .ok (.iastore, 1) := by decide +kernel
theorem dX10_atPoint_133 : decode cX10_atPoint 133 = .ok (.aload_n 0, 1) := by decide +kernel
theorem dX10_atPoint_134 : decode cX10_atPoint 134 = .ok (.getfield 32, 3) := by decide +kernel
theorem dX10_atPoint_137 : decode cX10_atPoint 137 = .ok (.iload_n 3, 1) := by decide +kernel
theorem dX10_atPoint_138 : decode cX10_atPoint 138 = .ok (.iconst 1, 1) := by decide +kernel
theorem dX10_atPoint_139 : decode cX10_atPoint 139 = .ok (.iadd, 1) := by decide +kernel
theorem dX10_atPoint_140 : decode cX10_atPoint 140 = .ok (.aload_n 0, 1) := by decide +kernel
theorem dX10_atPoint_141 : decode cX10_atPoint 141 = .ok (.getfield 29, 3) := by decide +kernel
theorem dX10_atPoint_144 : decode cX10_atPoint 144 = .ok (.iconst 0, 1) := by decide +kernel
theorem dX10_atPoint_145 : decode cX10_atPoint 145 = .ok (.iaload, 1) := by decide +kernel
theorem dX10_atPoint_146 : decode cX10_atPoint 146 = .ok (.iconst 4, 1) := by decide +kernel
theorem dX10_atPoint_147 : decode cX10_atPoint 147 = .ok (.if_icmp .ne 14, 3) := by decide +kernel
theorem dX10_atPoint_150 : decode cX10_atPoint 150 = .ok (.aload_n 0, 1) := by decide +kernel
theorem dX10_atPoint_151 : decode cX10_atPoint 151 = .ok (.getfield 32, 3) := by decide +kernel
theorem dX10_atPoint_154 : decode cX10_atPoint 154 = .ok (.iload_n 3, 1) := by decide +kernel
theorem dX10_atPoint_155 : decode cX10_atPoint 155 = .ok (.iconst 1, 1) := by decide +kernel
theorem dX10_atPoint_156 : decode cX10_atPoint 156 = .ok (.iadd, 1) := by decide +kernel
theorem dX10_atPoint_157 : decode cX10_atPoint 157 = .ok (.iaload, 1) := by decide +kernel
theorem dX10_atPoint_158 : decode cX10_atPoint 158 = .ok (.goto 9, 3) := by decide +kernel
theorem dX10_atPoint_161 : decode cX10_atPoint 161 = .ok (.aload_n 0, 1) := by decide +kernel
theorem dX10_atPoint_162 : decode cX10_atPoint 162 = .ok (.getfield 29, 3) := by decide +kernel
theorem dX10_atPoint_165 : decode cX10_atPoint 165 = .ok (.iconst 0, 1) := by decide +kernel
theorem dX10_atPoint_166 : decode cX10_atPoint 166 = .ok (.iaload, 1) := by decide +kernel
theorem dX10_atPoint_167 : decode cX10_atPoint 167 = .ok (.iastore, 1) := by decide +kernel
theorem dX10_atPoint_168 : decode cX10_atPoint 168 = .ok (.aload_n 0, 1) := by decide +kernel
theorem dX10_atPoint_169 : decode cX10_atPoint 169 = .ok (.getfield 29, 3) := by decide +kernel
theorem dX10_atPoint_172 : decode cX10_atPoint 172 = .ok (.iconst 0, 1) := by decide +kernel
theorem dX10_atPoint_173 : decode cX10_atPoint 173 = .ok (.iaload, 1) := by decide +kernel
theorem dX10_atPoint_174 : decode cX10_atPoint 174 = .ok (.iconst 1, 1) := by decide +kernel
theorem dX10_atPoint_175 : decode cX10_atPoint 175 = .ok (.if_icmp .ne 33, 3) := by decide +kernel
theorem dX10_atPoint_178 : decode cX10_atPoint 178 = .ok (.aload_n 0, 1) := by decide +kernel
theorem dX10_atPoint_179 : decode cX10_atPoint 179 = .ok (.getfield 32, 3) := by decide +kernel
theorem dX10_atPoint_182 : decode cX10_atPoint 182 = .ok (.iload_n 3, 1) := by decide +kernel
theorem dX10_atPoint_183 : decode cX10_atPoint 183 = .ok (.bipush 6, 2) := by decide +kernel
theorem dX10_atPoint_185 : decode cX10_atPoint 185 = .ok (.iadd, 1) := by decide +kernel
theorem dX10_atPoint_186 : decode cX10_atPoint 186 = .ok (.aload_n 0, 1) := by decide +kernel
theorem dX10_atPoint_187 : decode cX10_atPoint 187 = .ok (.getfield 29, 3) := by decide +kernel
theorem dX10_atPoint_190 : decode cX10_atPoint 190 = .ok (.iconst 3, 1) := by decide +kernel
theorem dX10_atPoint_191 : decode cX10_atPoint 191 = .ok (.iaload, 1) := by decide +kernel
theorem dX10_atPoint_192 : decode cX10_atPoint 192 = .ok (.iastore, 1) := by decide +kernel
theorem dX10_atPoint_193 : decode cX10_atPoint 193 = .ok (.aload_n 0, 1) := by decide +kernel
theorem dX10_atPoint_194 : decode cX10_atPoint 194 = .ok (.getfield 32, 3) := by decide +kernel
theorem dX10_atPoint_197 : decode cX10_atPoint 197 = .ok (.iload_n 3, 1) := by decide +kernel
theorem dX10_atPoint_198 : decode cX10_atPoint 198 = .ok (.bipush 7, 2) := by decide +kernel
theorem dX10_atPoint_200 : decode cX10_atPoint 200 = .ok (.iadd, 1) := by decide +kernel
theorem dX10_atPoint_201 : decode cX10_atPoint 201 = .ok (.aload_n 0, 1) := by decide +kernel
theorem dX10_atPoint_202 : decode cX10_atPoint 202 = .ok (.getfield 29, 3) := by decide +kernel
theorem dX10_atPoint_205 : decode cX10_atPoint 205 = .ok (.iconst 4, 1) := by decide +kernel
theorem dX10_atPoint_206 : decode cX10_atPoint 206 = .ok (.iaload, 1) := by decide +kernel
theorem dX10_atPoint_207 : decode cX10_atPoint 207 = .ok (.iastore, 1) := by decide +kernel
theorem dX10_atPoint_208 : decode cX10_atPoint 208 = .ok (.iconst 1, 1) := by decide +kernel
theorem dX10_atPoint_209 : decode cX10_atPoint 209 = .ok (.ireturn, 1) := by decide +kernel
theorem dX10_atPoint_210 : decode cX10_atPoint 210 = .ok (.iinc 2 1, 3) := by decide +kernel
theorem dX10_atPoint_213 : decode cX10_atPoint 213 = .ok (.goto (-209), 3) := by decide +kernel
theorem dX10_atPoint_216 : decode cX10_atPoint 216 = .ok (.iconst 0, 1) := by decide +kernel
theorem dX10_atPoint_217 : decode cX10_atPoint 217 = .ok (.ireturn, 1) := by decide +kernel
theorem dX10_line_0 : decode cX10_line 0 = .ok (.iload_n 1, 1) := by decide +kernel
theorem dX10_line_1 : decode cX10_line 1 = .ok (.iload_n 2, 1) := by decide +kernel
theorem dX10_line_2 : decode cX10_line 2 = .ok (.invokestatic 109, 3) := by decide +kernel
theorem dX10_line_5 : decode cX10_line 5 = .ok (.ifCond .ne 12, 3) := by decide +kernel
theorem dX10_line_8 : decode cX10_line 8 = .ok (.iload_n 3, 1) := by decide +kernel
theorem dX10_line_9 : decode cX10_line 9 = .ok (.ifCond .lt 8, 3) := by decide +kernel
theorem dX10_line_12 : decode cX10_line 12 = .ok (.iload_n 3, 1) := by decide +kernel
theorem dX10_line_13 : decode cX10_line 13 = .ok (.iconst 4, 1) := by decide +kernel
theorem dX10_line_14 : decode cX10_line 14 = .ok (.if_icmp .le 5, 3) := by decide +kernel
theorem dX10_line_17 : decode cX10_line 17 = .ok (.iconst (-1), 1) := by decide +kernel
theorem dX10_line_18 : decode cX10_line 18 = .ok (.ireturn, 1) := by decide +kernel
theorem dX10_line_19 : decode cX10_line 19 = .ok (.iconst 4, 1) := by decide +kernel
theorem dX10_line_20 : decode cX10_line 20 = .ok (.iload_n 1, 1) := by decide +kernel
theorem dX10_line_21 : decode cX10_line 21 = .ok (.imul, 1) := by decide +kernel
theorem dX10_line_22 : decode cX10_line 22 = .ok (.iload_n 2, 1) := by decide +kernel
theorem dX10_line_23 : decode cX10_line 23 = .ok (.iadd, 1) := by decide +kernel
theorem dX10_line_24 : decode cX10_line 24 = .ok (.istore 4, 2) := by decide +kernel
theorem dX10_line_26 : decode cX10_line 26 = .ok (.bipush 10, 2) := by decide +kernel
theorem dX10_line_28 : decode cX10_line 28 = .ok (.iload 4, 2) := by decide +kernel
theorem dX10_line_30 : decode cX10_line 30 = .ok (.imul, 1) := by decide +kernel
theorem dX10_line_31 : decode cX10_line 31 = .ok (.istore 5, 2) := by decide +kernel
theorem dX10_line_33 : decode cX10_line 33 = .ok (.iload_n 3, 1) := by decide +kernel
theorem dX10_line_34 : decode cX10_line 34 = .ok (.iconst 2, 1) := by decide +kernel
theorem dX10_line_35 : decode cX10_line 35 = .ok (.if_icmp .ge 13, 3) := by decide +kernel
theorem dX10_line_38 : decode cX10_line 38 = .ok (.aload_n 0, 1) := by decide +kernel
theorem dX10_line_39 : decode cX10_line 39 = .ok (.getfield 32, 3) := by decide +kernel
theorem dX10_line_42 : decode cX10_line 42 = .ok (.iload 5, 2) := by decide +kernel
theorem dX10_line_44 : decode cX10_line 44 = .ok (.iload_n 3, 1) := by decide +kernel
theorem dX10_line_45 : decode cX10_line 45 = .ok (.iadd, 1) := by decide +kernel
theorem dX10_line_46 : decode cX10_line 46 = .ok (.iaload, 1) := by decide +kernel
theorem dX10_line_47 : decode cX10_line 47 = .ok (.ireturn, 1) := by decide +kernel
theorem dX10_line_48 : decode cX10_line 48 = .ok (.iload_n 3, 1) := by decide +kernel
theorem dX10_line_49 : decode cX10_line 49 = .ok (.iconst 2, 1) := by decide +kernel
theorem dX10_line_50 : decode cX10_line 50 = .ok (.if_icmp .ne 26, 3) := by decide +kernel
theorem dX10_line_53 : decode cX10_line 53 = .ok (.aload_n 0, 1) := by decide +kernel
theorem dX10_line_54 : decode cX10_line 54 = .ok (.iload 4, 2) := by decide +kernel
theorem dX10_line_56 : decode cX10_line 56 = .ok (.invokevirtual 96, 3) := by decide +kernel
theorem dX10_line_59 : decode cX10_line 59 = .ok (.ifCond .eq 15, 3) := by decide +kernel
theorem dX10_line_62 : decode cX10_line 62 = .ok (.aload_n 0, 1) := by decide +kernel
theorem dX10_line_63 : decode cX10_line 63 = .ok (.getfield 32, 3) := by decide +kernel
theorem dX10_line_66 : decode cX10_line 66 = .ok (.iload 5, 2) := by decide +kernel
theorem dX10_line_68 : decode cX10_line 68 = .ok (.iconst 2, 1) := by decide +kernel
theorem dX10_line_69 : decode cX10_line 69 = .ok (.iadd, 1) := by decide +kernel
theorem dX10_line_70 : decode cX10_line 70 = .ok (.iaload, 1) := by decide +kernel
theorem dX10_line_71 : decode cX10_line 71 = .ok (.goto 4, 3) := by decide +kernel
theorem dX10_line_74 : decode cX10_line 74 = .ok (.iconst (-1), 1) := by decide +kernel
theorem dX10_line_75 : decode cX10_line 75 = .ok (.ireturn, 1) := by decide +kernel
theorem dX10_line_76 : decode cX10_line 76 = .ok (.aload_n 0, 1) := by decide +kernel
theorem dX10_line_77 : decode cX10_line 77 = .ok (.getfield 32, 3) := by decide +kernel
theorem dX10_line_80 : decode cX10_line 80 = .ok (.iload 5, 2) := by decide +kernel
theorem dX10_line_82 : decode cX10_line 82 = .ok (.iaload, 1) := by decide +kernel
theorem dX10_line_83 : decode cX10_line 83 = .ok (.iconst 2, 1) := by decide +kernel
theorem dX10_line_84 : decode cX10_line 84 = .ok (.if_icmp .ge 7, 3) := by decide +kernel
theorem dX10_line_87 : decode cX10_line 87 = .ok (.iconst (-1), 1) := by decide +kernel
theorem dX10_line_88 : decode cX10_line 88 = .ok (.goto 14, 3) := by decide +kernel
theorem dX10_line_91 : decode cX10_line 91 = .ok (.aload_n 0, 1) := by decide +kernel
theorem dX10_line_92 : decode cX10_line 92 = .ok (.getfield 32, 3) := by decide +kernel
theorem dX10_line_95 : decode cX10_line 95 = .ok (.iload 5, 2) := by decide +kernel
theorem dX10_line_97 : decode cX10_line 97 = .ok (.iconst 3, 1) := by decide +kernel
theorem dX10_line_98 : decode cX10_line 98 = .ok (.iadd, 1) := by decide +kernel
theorem dX10_line_99 : decode cX10_line 99 = .ok (.iload_n 3, 1) := by decide +kernel
theorem dX10_line_100 : decode cX10_line 100 = .ok (.iadd, 1) := by decide +kernel
theorem dX10_line_101 : decode cX10_line 101 = .ok (.iaload, 1) := by decide +kernel
theorem dX10_line_102 : decode cX10_line 102 = .ok (.ireturn, 1) := by decide +kernel
theorem dX10_fromPoint_0 : decode cX10_fromPoint 0 = .ok (.aload_n 0, 1) := by decide +kernel
theorem dX10_fromPoint_1 : decode cX10_fromPoint 1 = .ok (.getfield 29, 3) := by decide +kernel
theorem dX10_fromPoint_4 : decode cX10_fromPoint 4 = .ok (.iconst 0, 1) := by decide +kernel
theorem dX10_fromPoint_5 : decode cX10_fromPoint 5 = .ok (.iaload, 1) := by decide +kernel
theorem dX10_fromPoint_6 : decode cX10_fromPoint 6 = .ok (.invokestatic 68, 3) := by decide +kernel
theorem dX10_fromPoint_9 : decode cX10_fromPoint 9 = .ok (.ifCond .eq 16, 3) := by decide +kernel
theorem dX10_fromPoint_12 : decode cX10_fromPoint 12 = .ok (.aload_n 0, 1) := by decide +kernel
theorem dX10_fromPoint_13 : decode cX10_fromPoint 13 = .ok (.aload_n 0, 1) := by decide +kernel
theorem dX10_fromPoint_14 : decode cX10_fromPoint 14 = .ok (.getfield 29, 3) := by decide +kernel
theorem dX10_fromPoint_17 : decode cX10_fromPoint 17 = .ok (.iconst 2, 1) := by decide +kernel
theorem dX10_fromPoint_18 : decode cX10_fromPoint 18 = .ok (.iaload, 1) := by decide +kernel
theorem dX10_fromPoint_19 : decode cX10_fromPoint 19 = .ok (.invokevirtual 117, 3) := by decide +kernel
theorem dX10_fromPoint_22 : decode cX10_fromPoint 22 = .ok (.ifCond .ne 5, 3) := by decide +kernel
theorem dX10_fromPoint_25 : decode cX10_fromPoint 25 = .ok (.iconst 0, 1) := by decide +kernel
theorem dX10_fromPoint_26 : decode cX10_fromPoint 26 = .ok (.ireturn, 1) := by decide +kernel
theorem dX10_fromPoint_27 : decode cX10_fromPoint 27 = .ok (.iconst (-1), 1) := by decide +kernel
theorem dX10_fromPoint_28 : decode cX10_fromPoint 28 = .ok (.istore_n 2, 1) := by decide +kernel
theorem dX10_fromPoint_29 : decode cX10_fromPoint 29 = .ok (.aload_n 0, 1) := by decide +kernel
theorem dX10_fromPoint_30 : decode cX10_fromPoint 30 = .ok (.getfield 120, 3) := by decide +kernel
theorem dX10_fromPoint_33 : decode cX10_fromPoint 33 = .ok (.istore_n 3, 1) := by decide +kernel
theorem dX10_fromPoint_34 : decode cX10_fromPoint 34 = .ok (.iload_n 3, 1) := by decide +kernel
theorem dX10_fromPoint_35 : decode cX10_fromPoint 35 = .ok (.aload_n 0, 1) := by decide +kernel
theorem dX10_fromPoint_36 : decode cX10_fromPoint 36 = .ok (.getfield 123, 3) := by decide +kernel
theorem dX10_fromPoint_39 : decode cX10_fromPoint 39 = .ok (.if_icmp .ge 109, 3) := by decide +kernel
theorem dX10_fromPoint_42 : decode cX10_fromPoint 42 = .ok (.bipush 6, 2) := by decide +kernel
theorem dX10_fromPoint_44 : decode cX10_fromPoint 44 = .ok (.iload_n 3, 1) := by decide +kernel
theorem dX10_fromPoint_45 : decode cX10_fromPoint 45 = .ok (.imul, 1) := by decide +kernel
theorem dX10_fromPoint_46 : decode cX10_fromPoint 46 = .ok (.istore 4, 2) := by decide +kernel
theorem dX10_fromPoint_48 : decode cX10_fromPoint 48 = .ok (.aload_n 0, 1) := by decide +kernel
theorem dX10_fromPoint_49 : decode cX10_fromPoint 49 = .ok (.getfield 38, 3) := by decide +kernel
theorem dX10_fromPoint_52 : decode cX10_fromPoint 52 = .ok (.iload 4, 2) := by decide +kernel
theorem dX10_fromPoint_54 : decode cX10_fromPoint 54 = .ok (.iaload, 1) := by decide +kernel
theorem dX10_fromPoint_55 : decode cX10_fromPoint 55 = .ok (.iload_n 1, 1) := by decide +kernel
theorem dX10_fromPoint_56 : decode cX10_fromPoint 56 = .ok (.if_icmp .ne 61, 3) := by decide +kernel
theorem dX10_fromPoint_59 : decode cX10_fromPoint 59 = .ok (.aload_n 0, 1) := by decide +kernel
theorem dX10_fromPoint_60 : decode cX10_fromPoint 60 = .ok (.getfield 38, 3) := by decide +kernel
theorem dX10_fromPoint_63 : decode cX10_fromPoint 63 = .ok (.iload 4, 2) := by decide +kernel
theorem dX10_fromPoint_65 : decode cX10_fromPoint 65 = .ok (.iconst 1, 1) := by decide +kernel
theorem dX10_fromPoint_66 : decode cX10_fromPoint 66 = .ok (.iadd, 1) := by decide +kernel
theorem dX10_fromPoint_67 : decode cX10_fromPoint 67 = .ok (.iaload, 1) := by decide +kernel
theorem dX10_fromPoint_68 : decode cX10_fromPoint 68 = .ok (.aload_n 0, 1) := by decide +kernel
theorem dX10_fromPoint_69 : decode cX10_fromPoint 69 = .ok (.getfield 29, 3) := by decide +kernel
theorem dX10_fromPoint_72 : decode cX10_fromPoint 72 = .ok (.iconst 0, 1) := by decide +kernel
theorem dX10_fromPoint_73 : decode cX10_fromPoint 73 = .ok (.iaload, 1) := by decide +kernel
theorem dX10_fromPoint_74 : decode cX10_fromPoint 74 = .ok (.if_icmp .ne 43, 3) := by decide +kernel
theorem dX10_fromPoint_77 : decode cX10_fromPoint 77 = .ok (.aload_n 0, 1) := by decide +kernel
theorem dX10_fromPoint_78 : decode cX10_fromPoint 78 = .ok (.getfield 38, 3) := by decide +kernel
theorem dX10_fromPoint_81 : decode cX10_fromPoint 81 = .ok (.iload 4, 2) := by decide +kernel
theorem dX10_fromPoint_83 : decode cX10_fromPoint 83 = .ok (.iconst 2, 1) := by decide +kernel
theorem dX10_fromPoint_84 : decode cX10_fromPoint 84 = .ok (.iadd, 1) := by decide +kernel
theorem dX10_fromPoint_85 : decode cX10_fromPoint 85 = .ok (.iaload, 1) := by decide +kernel
theorem dX10_fromPoint_86 : decode cX10_fromPoint 86 = .ok (.aload_n 0, 1) := by decide +kernel
theorem dX10_fromPoint_87 : decode cX10_fromPoint 87 = .ok (.getfield 29, 3) := by decide +kernel
theorem dX10_fromPoint_90 : decode cX10_fromPoint 90 = .ok (.iconst 1, 1) := by decide +kernel
theorem dX10_fromPoint_91 : decode cX10_fromPoint 91 = .ok (.iaload, 1) := by decide +kernel
theorem dX10_fromPoint_92 : decode cX10_fromPoint 92 = .ok (.if_icmp .ne 25, 3) := by decide +kernel
theorem dX10_fromPoint_95 : decode cX10_fromPoint 95 = .ok (.aload_n 0, 1) := by decide +kernel
theorem dX10_fromPoint_96 : decode cX10_fromPoint 96 = .ok (.getfield 38, 3) := by decide +kernel
theorem dX10_fromPoint_99 : decode cX10_fromPoint 99 = .ok (.iload 4, 2) := by decide +kernel
theorem dX10_fromPoint_101 : decode cX10_fromPoint 101 = .ok (.iconst 3, 1) := by decide +kernel
theorem dX10_fromPoint_102 : decode cX10_fromPoint 102 = .ok (.iadd, 1) := by decide +kernel
theorem dX10_fromPoint_103 : decode cX10_fromPoint 103 = .ok (.iaload, 1) := by decide +kernel
theorem dX10_fromPoint_104 : decode cX10_fromPoint 104 = .ok (.aload_n 0, 1) := by decide +kernel
theorem dX10_fromPoint_105 : decode cX10_fromPoint 105 = .ok (.getfield 29, 3) := by decide +kernel
theorem dX10_fromPoint_108 : decode cX10_fromPoint 108 = .ok (.iconst 2, 1) := by decide +kernel
theorem dX10_fromPoint_109 : decode cX10_fromPoint 109 = .ok (.iaload, 1) := by decide +kernel
theorem dX10_fromPoint_110 : decode cX10_fromPoint 110 = .ok (.if_icmp .ne 7, 3) := by decide +kernel
theorem dX10_fromPoint_113 : decode cX10_fromPoint 113 = .ok (.iconst 1, 1) := by decide +kernel
theorem dX10_fromPoint_114 : decode cX10_fromPoint 114 = .ok (.goto 4, 3) := by decide +kernel
theorem dX10_fromPoint_117 : decode cX10_fromPoint 117 = .ok (.iconst 0, 1) := by decide +kernel
theorem dX10_fromPoint_118 : decode cX10_fromPoint 118 = .ok (.istore 5, 2) := by decide +kernel
theorem dX10_fromPoint_120 : decode cX10_fromPoint 120 = .ok (.iload 5, 2) := by decide +kernel
theorem dX10_fromPoint_122 : decode cX10_fromPoint 122 = .ok (.ifCond .eq 18, 3) := by decide +kernel
theorem dX10_fromPoint_125 : decode cX10_fromPoint 125 = .ok (.iload_n 3, 1) := by decide +kernel
theorem dX10_fromPoint_126 : decode cX10_fromPoint 126 = .ok (.aload_n 0, 1) := by decide +kernel
theorem dX10_fromPoint_127 : decode cX10_fromPoint 127 = .ok (.getfield 123, 3) := by decide +kernel
theorem dX10_fromPoint_130 : decode cX10_fromPoint 130 = .ok (.bipush 8, 2) := by decide +kernel
theorem dX10_fromPoint_132 : decode cX10_fromPoint 132 = .ok (.isub, 1) := by decide +kernel
theorem dX10_fromPoint_133 : decode cX10_fromPoint 133 = .ok (.if_icmp .lt 7, 3) := by decide +kernel
theorem dX10_fromPoint_136 : decode cX10_fromPoint 136 = .ok (.iload_n 3, 1) := by decide +kernel
theorem dX10_fromPoint_137 : decode cX10_fromPoint 137 = .ok (.goto 4, 3) := by decide +kernel
theorem dX10_fromPoint_140 : decode cX10_fromPoint 140 = .ok (.iload_n 2, 1) := by decide +kernel
theorem dX10_fromPoint_141 : decode cX10_fromPoint 141 = .ok (.istore_n 2, 1) := by decide +kernel
theorem dX10_fromPoint_142 : decode cX10_fromPoint 142 = .ok (.iinc 3 1, 3) := by decide +kernel
theorem dX10_fromPoint_145 : decode cX10_fromPoint 145 = .ok (.goto (-111), 3) := by decide +kernel
theorem dX10_fromPoint_148 : decode cX10_fromPoint 148 = .ok (.iload_n 2, 1) := by decide +kernel
theorem dX10_fromPoint_149 : decode cX10_fromPoint 149 = .ok (.ifCond .lt 7, 3) := by decide +kernel
theorem dX10_fromPoint_152 : decode cX10_fromPoint 152 = .ok (.iconst 1, 1) := by decide +kernel
theorem dX10_fromPoint_153 : decode cX10_fromPoint 153 = .ok (.goto 4, 3) := by decide +kernel
theorem dX10_fromPoint_156 : decode cX10_fromPoint 156 = .ok (.iconst 0, 1) := by decide +kernel
theorem dX10_fromPoint_157 : decode cX10_fromPoint 157 = .ok (.istore_n 3, 1) := by decide +kernel
theorem dX10_fromPoint_158 : decode cX10_fromPoint 158 = .ok (.iload_n 3, 1) := by decide +kernel
theorem dX10_fromPoint_159 : decode cX10_fromPoint 159 = .ok (.ifCond .ne 115, 3) := by decide +kernel
theorem dX10_fromPoint_162 : decode cX10_fromPoint 162 = .ok (.aload_n 0, 1) := by decide +kernel
theorem dX10_fromPoint_163 : decode cX10_fromPoint 163 = .ok (.getfield 123, 3) := by decide +kernel
theorem dX10_fromPoint_166 : decode cX10_fromPoint 166 = .ok (.istore_n 2, 1) := by decide +kernel
theorem dX10_fromPoint_167 : decode cX10_fromPoint 167 = .ok (.bipush 6, 2) := by decide +kernel
theorem dX10_fromPoint_169 : decode cX10_fromPoint 169 = .ok (.iload_n 2, 1) := by decide +kernel
theorem dX10_fromPoint_170 : decode cX10_fromPoint 170 = .ok (.imul, 1) := by decide +kernel
theorem dX10_fromPoint_171 : decode cX10_fromPoint 171 = .ok (.istore 4, 2) := by decide +kernel
theorem dX10_fromPoint_173 : decode cX10_fromPoint 173 = .ok (.aload_n 0, 1) := by decide +kernel
theorem dX10_fromPoint_174 : decode cX10_fromPoint 174 = .ok (.getfield 38, 3) := by decide +kernel
theorem dX10_fromPoint_177 : decode cX10_fromPoint 177 = .ok (.iload 4, 2) := by decide +kernel
theorem dX10_fromPoint_179 : decode cX10_fromPoint 179 = .ok (.iload_n 1, 1) := by decide +kernel
theorem dX10_fromPoint_180 : decode cX10_fromPoint 180 = .ok (.iastore, 1) := by decide +kernel
theorem dX10_fromPoint_181 : decode cX10_fromPoint 181 = .ok (.aload_n 0, 1) := by decide +kernel
theorem dX10_fromPoint_182 : decode cX10_fromPoint 182 = .ok (.getfield 38, 3) := by decide +kernel
theorem dX10_fromPoint_185 : decode cX10_fromPoint 185 = .ok (.iload 4, 2) := by decide +kernel
theorem dX10_fromPoint_187 : decode cX10_fromPoint 187 = .ok (.iconst 1, 1) := by decide +kernel
theorem dX10_fromPoint_188 : decode cX10_fromPoint 188 = .ok (.iadd, 1) := by decide +kernel
theorem dX10_fromPoint_189 : decode cX10_fromPoint 189 = .ok (.aload_n 0, 1) := by decide +kernel
theorem dX10_fromPoint_190 : decode cX10_fromPoint 190 = .ok (.getfield 29, 3) := by decide +kernel
theorem dX10_fromPoint_193 : decode cX10_fromPoint 193 = .ok (.iconst 0, 1) := by decide +kernel
theorem dX10_fromPoint_194 : decode cX10_fromPoint 194 = .ok (.iaload, 1) := by decide +kernel
theorem dX10_fromPoint_195 : decode cX10_fromPoint 195 = .ok (.iastore, 1) := by decide +kernel
theorem dX10_fromPoint_196 : decode cX10_fromPoint 196 = .ok (.aload_n 0, 1) := by decide +kernel
theorem dX10_fromPoint_197 : decode cX10_fromPoint 197 = .ok (.getfield 38, 3) := by decide +kernel
theorem dX10_fromPoint_200 : decode cX10_fromPoint 200 = .ok (.iload 4, 2) := by decide +kernel
theorem dX10_fromPoint_202 : decode cX10_fromPoint 202 = .ok (.iconst 2, 1) := by decide +kernel
theorem dX10_fromPoint_203 : decode cX10_fromPoint 203 = .ok (.iadd, 1) := by decide +kernel
theorem dX10_fromPoint_204 : decode cX10_fromPoint 204 = .ok (.aload_n 0, 1) := by decide +kernel
theorem dX10_fromPoint_205 : decode cX10_fromPoint 205 = .ok (.getfield 29, 3) := by decide +kernel
theorem dX10_fromPoint_208 : decode cX10_fromPoint 208 = .ok (.iconst 1, 1) := by decide +kernel
theorem dX10_fromPoint_209 : decode cX10_fromPoint 209 = .ok (.iaload, 1) := by decide +kernel
theorem dX10_fromPoint_210 : decode cX10_fromPoint 210 = .ok (.iastore, 1) := by decide +kernel
theorem dX10_fromPoint_211 : decode cX10_fromPoint 211 = .ok (.aload_n 0, 1) := by decide +kernel
theorem dX10_fromPoint_212 : decode cX10_fromPoint 212 = .ok (.getfield 38, 3) := by decide +kernel
theorem dX10_fromPoint_215 : decode cX10_fromPoint 215 = .ok (.iload 4, 2) := by decide +kernel
theorem dX10_fromPoint_217 : decode cX10_fromPoint 217 = .ok (.iconst 3, 1) := by decide +kernel
theorem dX10_fromPoint_218 : decode cX10_fromPoint 218 = .ok (.iadd, 1) := by decide +kernel
theorem dX10_fromPoint_219 : decode cX10_fromPoint 219 = .ok (.aload_n 0, 1) := by decide +kernel
theorem dX10_fromPoint_220 : decode cX10_fromPoint 220 = .ok (.getfield 29, 3) := by decide +kernel
theorem dX10_fromPoint_223 : decode cX10_fromPoint 223 = .ok (.iconst 2, 1) := by decide +kernel
theorem dX10_fromPoint_224 : decode cX10_fromPoint 224 = .ok (.iaload, 1) := by decide +kernel
theorem dX10_fromPoint_225 : decode cX10_fromPoint 225 = .ok (.iastore, 1) := by decide +kernel
theorem dX10_fromPoint_226 : decode cX10_fromPoint 226 = .ok (.aload_n 0, 1) := by decide +kernel
theorem dX10_fromPoint_227 : decode cX10_fromPoint 227 = .ok (.getfield 38, 3) := by decide +kernel
theorem dX10_fromPoint_230 : decode cX10_fromPoint 230 = .ok (.iload 4, 2) := by decide +kernel
theorem dX10_fromPoint_232 : decode cX10_fromPoint 232 = .ok (.iconst 4, 1) := by decide +kernel
theorem dX10_fromPoint_233 : decode cX10_fromPoint 233 = .ok (.iadd, 1) := by decide +kernel
theorem dX10_fromPoint_234 : decode cX10_fromPoint 234 = .ok (.iconst 3, 1) := by decide +kernel
theorem dX10_fromPoint_235 : decode cX10_fromPoint 235 = .ok (.aload_n 0, 1) := by decide +kernel
theorem dX10_fromPoint_236 : decode cX10_fromPoint 236 = .ok (.getfield 29, 3) := by decide +kernel
theorem dX10_fromPoint_239 : decode cX10_fromPoint 239 = .ok (.iconst 3, 1) := by decide +kernel
theorem dX10_fromPoint_240 : decode cX10_fromPoint 240 = .ok (.iaload, 1) := by decide +kernel
theorem dX10_fromPoint_241 : decode cX10_fromPoint 241 = .ok (.iconst 1, 1) := by decide +kernel
theorem dX10_fromPoint_242 : decode cX10_fromPoint 242 = .ok (.iand, 1) := by decide +kernel
theorem dX10_fromPoint_243 : decode cX10_fromPoint 243 = .ok (.iadd, 1) := by decide +kernel
theorem dX10_fromPoint_244 : decode cX10_fromPoint 244 = .ok (.iastore, 1) := by decide +kernel
theorem dX10_fromPoint_245 : decode cX10_fromPoint 245 = .ok (.aload_n 0, 1) := by decide +kernel
theorem dX10_fromPoint_246 : decode cX10_fromPoint 246 = .ok (.getfield 38, 3) := by decide +kernel
theorem dX10_fromPoint_249 : decode cX10_fromPoint 249 = .ok (.iload 4, 2) := by decide +kernel
theorem dX10_fromPoint_251 : decode cX10_fromPoint 251 = .ok (.iconst 5, 1) := by decide +kernel
theorem dX10_fromPoint_252 : decode cX10_fromPoint 252 = .ok (.iadd, 1) := by decide +kernel
theorem dX10_fromPoint_253 : decode cX10_fromPoint 253 = .ok (.aload_n 0, 1) := by decide +kernel
theorem dX10_fromPoint_254 : decode cX10_fromPoint 254 = .ok (.getfield 29, 3) := by decide +kernel
theorem dX10_fromPoint_257 : decode cX10_fromPoint 257 = .ok (.iconst 2, 1) := by decide +kernel
theorem dX10_fromPoint_258 : decode cX10_fromPoint 258 = .ok (.iaload, 1) := by decide +kernel
theorem dX10_fromPoint_259 : decode cX10_fromPoint 259 = .ok (.iload_n 2, 1) := by decide +kernel
theorem dX10_fromPoint_260 : decode cX10_fromPoint 260 = .ok (.invokestatic 57, 3) := by decide +kernel
theorem dX10_fromPoint_263 : decode cX10_fromPoint 263 = .ok (.iastore, 1) := by decide +kernel
theorem dX10_fromPoint_264 : decode cX10_fromPoint 264 = .ok (.aload_n 0, 1) := by decide +kernel
theorem dX10_fromPoint_265 : decode cX10_fromPoint 265 = .ok (.dup, 1) := by decide +kernel
theorem dX10_fromPoint_266 : decode cX10_fromPoint 266 = .ok (.getfield 123, 3) := by decide +kernel
theorem dX10_fromPoint_269 : decode cX10_fromPoint 269 = .ok (.iconst 1, 1) := by decide +kernel
theorem dX10_fromPoint_270 : decode cX10_fromPoint 270 = .ok (.iadd, 1) := by decide +kernel
theorem dX10_fromPoint_271 : decode cX10_fromPoint 271 = .ok (.putfield 123, 3) := by decide +kernel
theorem dX10_fromPoint_274 : decode cX10_fromPoint 274 = .ok (.aload_n 0, 1) := by decide +kernel
theorem dX10_fromPoint_275 : decode cX10_fromPoint 275 = .ok (.getfield 38, 3) := by decide +kernel
theorem dX10_fromPoint_278 : decode cX10_fromPoint 278 = .ok (.bipush 6, 2) := by decide +kernel
theorem dX10_fromPoint_280 : decode cX10_fromPoint 280 = .ok (.iload_n 2, 1) := by decide +kernel
theorem dX10_fromPoint_281 : decode cX10_fromPoint 281 = .ok (.imul, 1) := by decide +kernel
theorem dX10_fromPoint_282 : decode cX10_fromPoint 282 = .ok (.iconst 4, 1) := by decide +kernel
theorem dX10_fromPoint_283 : decode cX10_fromPoint 283 = .ok (.iadd, 1) := by decide +kernel
theorem dX10_fromPoint_284 : decode cX10_fromPoint 284 = .ok (.iaload, 1) := by decide +kernel
theorem dX10_fromPoint_285 : decode cX10_fromPoint 285 = .ok (.istore 4, 2) := by decide +kernel
theorem dX10_fromPoint_287 : decode cX10_fromPoint 287 = .ok (.aload_n 0, 1) := by decide +kernel
theorem dX10_fromPoint_288 : decode cX10_fromPoint 288 = .ok (.getfield 38, 3) := by decide +kernel
theorem dX10_fromPoint_291 : decode cX10_fromPoint 291 = .ok (.bipush 6, 2) := by decide +kernel
theorem dX10_fromPoint_293 : decode cX10_fromPoint 293 = .ok (.iload_n 2, 1) := by decide +kernel
theorem dX10_fromPoint_294 : decode cX10_fromPoint 294 = .ok (.imul, 1) := by decide +kernel
theorem dX10_fromPoint_295 : decode cX10_fromPoint 295 = .ok (.iconst 5, 1) := by decide +kernel
theorem dX10_fromPoint_296 : decode cX10_fromPoint 296 = .ok (.iadd, 1) := by decide +kernel
theorem dX10_fromPoint_297 : decode cX10_fromPoint 297 = .ok (.iaload, 1) := by decide +kernel
theorem dX10_fromPoint_298 : decode cX10_fromPoint 298 = .ok (.istore 5, 2) := by decide +kernel
theorem dX10_fromPoint_300 : decode cX10_fromPoint 300 = .ok (.aload_n 0, 1) := by decide +kernel
theorem dX10_fromPoint_301 : decode cX10_fromPoint 301 = .ok (.getfield 29, 3) := by decide +kernel
theorem dX10_fromPoint_304 : decode cX10_fromPoint 304 = .ok (.iconst 4, 1) := by decide +kernel
theorem dX10_fromPoint_305 : decode cX10_fromPoint 305 = .ok (.iaload, 1) := by decide +kernel
theorem dX10_fromPoint_306 : decode cX10_fromPoint 306 = .ok (.istore 6, 2) := by decide +kernel
theorem dX10_fromPoint_308 : decode cX10_fromPoint 308 = .ok (.aload_n 0, 1) := by decide +kernel
theorem dX10_fromPoint_309 : decode cX10_fromPoint 309 = .ok (.getfield 29, 3) := by decide +kernel
theorem dX10_fromPoint_312 : decode cX10_fromPoint 312 = .ok (.iconst 0, 1) := by decide +kernel
theorem dX10_fromPoint_313 : decode cX10_fromPoint 313 = .ok (.iaload, 1) := by decide +kernel
theorem dX10_fromPoint_314 : decode cX10_fromPoint 314 = .ok (.ifCond .ne 36, 3) := by decide +kernel
theorem dX10_fromPoint_317 : decode cX10_fromPoint 317 = .ok (.iload 6, 2) := by decide +kernel
theorem dX10_fromPoint_319 : decode cX10_fromPoint 319 = .ok (.aload_n 0, 1) := by decide +kernel
theorem dX10_fromPoint_320 : decode cX10_fromPoint 320 = .ok (.iconst 2, 1) := by decide +kernel
theorem dX10_fromPoint_321 : decode cX10_fromPoint 321 = .ok (.iload_n 1, 1) := by decide +kernel
theorem dX10_fromPoint_322 : decode cX10_fromPoint 322 = .ok (.invokevirtual 65, 3) := by decide +kernel
theorem dX10_fromPoint_325 : decode cX10_fromPoint 325 = .ok (.aload_n 0, 1) := by decide +kernel
theorem dX10_fromPoint_326 : decode cX10_fromPoint 326 = .ok (.getfield 29, 3) := by decide +kernel
theorem dX10_fromPoint_329 : decode cX10_fromPoint 329 = .ok (.iconst 2, 1) := by decide +kernel
theorem dX10_fromPoint_330 : decode cX10_fromPoint 330 = .ok (.iaload, 1) := by decide +kernel
theorem dX10_fromPoint_331 : decode cX10_fromPoint 331 = .ok (.invokestatic 57, 3) := by decide +kernel
theorem dX10_fromPoint_334 : decode cX10_fromPoint 334 = .ok (.ixor, 1) := by decide +kernel
theorem dX10_fromPoint_335 : decode cX10_fromPoint 335 = .ok (.aload_n 0, 1) := by decide +kernel
theorem dX10_fromPoint_336 : decode cX10_fromPoint 336 = .ok (.iconst 2, 1) := by decide +kernel
theorem dX10_fromPoint_337 : decode cX10_fromPoint 337 = .ok (.iload 4, 2) := by decide +kernel
theorem dX10_fromPoint_339 : decode cX10_fromPoint 339 = .ok (.invokevirtual 65, 3) := by decide +kernel
theorem dX10_fromPoint_342 : decode cX10_fromPoint 342 = .ok (.iload 5, 2) := by decide +kernel
theorem dX10_fromPoint_344 : decode cX10_fromPoint 344 = .ok (.invokestatic 57, 3) := by decide +kernel
theorem dX10_fromPoint_347 : decode cX10_fromPoint 347 = .ok (.ixor, 1) := by decide +kernel
theorem dX10_fromPoint_348 : decode cX10_fromPoint 348 = .ok (.istore 6, 2) := by decide +kernel
theorem dX10_fromPoint_350 : decode cX10_fromPoint 350 = .ok (.aload_n 0, 1) := by decide +kernel
theorem dX10_fromPoint_351 : decode cX10_fromPoint 351 = .ok (.iconst 2, 1) := by decide +kernel
theorem dX10_fromPoint_352 : decode cX10_fromPoint 352 = .ok (.iload 4, 2) := by decide +kernel
theorem dX10_fromPoint_354 : decode cX10_fromPoint 354 = .ok (.aload_n 0, 1) := by decide +kernel
theorem dX10_fromPoint_355 : decode cX10_fromPoint 355 = .ok (.getfield 29, 3) := by decide +kernel
theorem dX10_fromPoint_358 : decode cX10_fromPoint 358 = .ok (.iconst 0, 1) := by decide +kernel
theorem dX10_fromPoint_359 : decode cX10_fromPoint 359 = .ok (.iaload, 1) := by decide +kernel
theorem dX10_fromPoint_360 : decode cX10_fromPoint 360 = .ok (.iload_n 2, 1) := by decide +kernel
theorem dX10_fromPoint_361 : decode cX10_fromPoint 361 = .ok (.aload_n 0, 1) := by decide +kernel
theorem dX10_fromPoint_362 : decode cX10_fromPoint 362 = .ok (.getfield 120, 3) := by decide +kernel
theorem dX10_fromPoint_365 : decode cX10_fromPoint 365 = .ok (.isub, 1) := by decide +kernel
theorem dX10_fromPoint_366 : decode cX10_fromPoint 366 = .ok (.bipush 8, 2) := by decide +kernel
theorem dX10_fromPoint_368 : decode cX10_fromPoint 368 = .ok (.irem, 1) := by decide +kernel
theorem dX10_fromPoint_369 : decode cX10_fromPoint 369 = .ok (.iload 5, 2) := by decide +kernel
theorem dX10_fromPoint_371 : decode cX10_fromPoint 371 = .ok (.aload_n 0, 1) := by decide +kernel
theorem dX10_fromPoint_372 : decode cX10_fromPoint 372 = .ok (.getfield 29, 3) := by decide +kernel
theorem dX10_fromPoint_375 : decode cX10_fromPoint 375 = .ok (.iconst 3, 1) := by decide +kernel
theorem dX10_fromPoint_376 : decode cX10_fromPoint 376 = .ok (.iaload, 1) := by decide +kernel
theorem dX10_fromPoint_377 : decode cX10_fromPoint 377 = .ok (.iload 6, 2) := by decide +kernel
theorem dX10_fromPoint_379 : decode cX10_fromPoint 379 = .ok (.invokevirtual 102, 3) := by decide +kernel
theorem dX10_fromPoint_382 : decode cX10_fromPoint 382 = .ok (.iload_n 3, 1) := by decide +kernel
theorem dX10_fromPoint_383 : decode cX10_fromPoint 383 = .ok (.ifCond .eq 7, 3) := by decide +kernel
theorem dX10_fromPoint_386 : decode cX10_fromPoint 386 = .ok (.iconst 2, 1) := by decide +kernel
theorem dX10_fromPoint_387 : decode cX10_fromPoint 387 = .ok (.goto 4, 3) := by decide +kernel
theorem dX10_fromPoint_390 : decode cX10_fromPoint 390 = .ok (.iconst 1, 1) := by decide +kernel
theorem dX10_fromPoint_391 : decode cX10_fromPoint 391 = .ok (.ireturn, 1) := by decide +kernel
theorem dX10_fromHome_0 : decode cX10_fromHome 0 = .ok (.aload_n 0, 1) := by decide +kernel
theorem dX10_fromHome_1 : decode cX10_fromHome 1 = .ok (.getfield 29, 3) := by decide +kernel
theorem dX10_fromHome_4 : decode cX10_fromHome 4 = .ok (.iconst 0, 1) := by decide +kernel
theorem dX10_fromHome_5 : decode cX10_fromHome 5 = .ok (.iaload, 1) := by decide +kernel
theorem dX10_fromHome_6 : decode cX10_fromHome 6 = .ok (.invokestatic 126, 3) := by decide +kernel
theorem dX10_fromHome_9 : decode cX10_fromHome 9 = .ok (.ifCond .ne 5, 3) := by decide +kernel
theorem dX10_fromHome_12 : decode cX10_fromHome 12 = .ok (.iconst 0, 1) := by decide +kernel
theorem dX10_fromHome_13 : decode cX10_fromHome 13 = .ok (.ireturn, 1) := by decide +kernel
theorem dX10_fromHome_14 : decode cX10_fromHome 14 = .ok (.aload_n 0, 1) := by decide +kernel
theorem dX10_fromHome_15 : decode cX10_fromHome 15 = .ok (.getfield 120, 3) := by decide +kernel
theorem dX10_fromHome_18 : decode cX10_fromHome 18 = .ok (.istore_n 2, 1) := by decide +kernel
theorem dX10_fromHome_19 : decode cX10_fromHome 19 = .ok (.iload_n 2, 1) := by decide +kernel
theorem dX10_fromHome_20 : decode cX10_fromHome 20 = .ok (.aload_n 0, 1) := by decide +kernel
theorem dX10_fromHome_21 : decode cX10_fromHome 21 = .ok (.getfield 123, 3) := by decide +kernel
theorem dX10_fromHome_24 : decode cX10_fromHome 24 = .ok (.if_icmp .ge 129, 3) := by decide +kernel
theorem dX10_fromHome_27 : decode cX10_fromHome 27 = .ok (.bipush 6, 2) := by decide +kernel
theorem dX10_fromHome_29 : decode cX10_fromHome 29 = .ok (.iload_n 2, 1) := by decide +kernel
theorem dX10_fromHome_30 : decode cX10_fromHome 30 = .ok (.imul, 1) := by decide +kernel
theorem dX10_fromHome_31 : decode cX10_fromHome 31 = .ok (.istore_n 3, 1) := by decide +kernel
theorem dX10_fromHome_32 : decode cX10_fromHome 32 = .ok (.iload_n 2, 1) := by decide +kernel
theorem dX10_fromHome_33 : decode cX10_fromHome 33 = .ok (.aload_n 0, 1) := by decide +kernel
theorem dX10_fromHome_34 : decode cX10_fromHome 34 = .ok (.getfield 123, 3) := by decide +kernel
theorem dX10_fromHome_37 : decode cX10_fromHome 37 = .ok (.bipush 8, 2) := by decide +kernel
theorem dX10_fromHome_39 : decode cX10_fromHome 39 = .ok (.isub, 1) := by decide +kernel
theorem dX10_fromHome_40 : decode cX10_fromHome 40 = .ok (.if_icmp .lt 25, 3) := by decide +kernel
theorem dX10_fromHome_43 : decode cX10_fromHome 43 = .ok (.iload_n 2, 1) := by decide +kernel
theorem dX10_fromHome_44 : decode cX10_fromHome 44 = .ok (.aload_n 0, 1) := by decide +kernel
theorem dX10_fromHome_45 : decode cX10_fromHome 45 = .ok (.getfield 120, 3) := by decide +kernel
theorem dX10_fromHome_48 : decode cX10_fromHome 48 = .ok (.isub, 1) := by decide +kernel
theorem dX10_fromHome_49 : decode cX10_fromHome 49 = .ok (.bipush 8, 2) := by decide +kernel
theorem dX10_fromHome_51 : decode cX10_fromHome 51 = .ok (.irem, 1) := by decide +kernel
theorem dX10_fromHome_52 : decode cX10_fromHome 52 = .ok (.aload_n 0, 1) := by decide +kernel
theorem dX10_fromHome_53 : decode cX10_fromHome 53 = .ok (.getfield 29, 3) := by decide +kernel
theorem dX10_fromHome_56 : decode cX10_fromHome 56 = .ok (.iconst 1, 1) := by decide +kernel
theorem dX10_fromHome_57 : decode cX10_fromHome 57 = .ok (.iaload, 1) := by decide +kernel
theorem dX10_fromHome_58 : decode cX10_fromHome 58 = .ok (.if_icmp .ne 7, 3) := by decide +kernel
theorem dX10_fromHome_61 : decode cX10_fromHome 61 = .ok (.iconst 1, 1) := by decide +kernel
theorem dX10_fromHome_62 : decode cX10_fromHome 62 = .ok (.goto 4, 3) := by decide +kernel
theorem dX10_fromHome_65 : decode cX10_fromHome 65 = .ok (.iconst 0, 1) := by decide +kernel
theorem dX10_fromHome_66 : decode cX10_fromHome 66 = .ok (.istore 4, 2) := by decide +kernel
theorem dX10_fromHome_68 : decode cX10_fromHome 68 = .ok (.iload 4, 2) := by decide +kernel
theorem dX10_fromHome_70 : decode cX10_fromHome 70 = .ok (.ifCond .eq 77, 3) := by decide +kernel
theorem dX10_fromHome_73 : decode cX10_fromHome 73 = .ok (.aload_n 0, 1) := by decide +kernel
theorem dX10_fromHome_74 : decode cX10_fromHome 74 = .ok (.getfield 38, 3) := by decide +kernel
theorem dX10_fromHome_77 : decode cX10_fromHome 77 = .ok (.iload_n 3, 1) := by decide +kernel
theorem dX10_fromHome_78 : decode cX10_fromHome 78 = .ok (.iconst 4, 1) := by decide +kernel
theorem dX10_fromHome_79 : decode cX10_fromHome 79 = .ok (.iadd, 1) := by decide +kernel
theorem dX10_fromHome_80 : decode cX10_fromHome 80 = .ok (.iaload, 1) := by decide +kernel
theorem dX10_fromHome_81 : decode cX10_fromHome 81 = .ok (.iload_n 1, 1) := by decide +kernel
theorem dX10_fromHome_82 : decode cX10_fromHome 82 = .ok (.if_icmp .ne 65, 3) := by decide +kernel
theorem dX10_fromHome_85 : decode cX10_fromHome 85 = .ok (.aload_n 0, 1) := by decide +kernel
theorem dX10_fromHome_86 : decode cX10_fromHome 86 = .ok (.aload_n 0, 1) := by decide +kernel
theorem dX10_fromHome_87 : decode cX10_fromHome 87 = .ok (.getfield 38, 3) := by decide +kernel
theorem dX10_fromHome_90 : decode cX10_fromHome 90 = .ok (.iload_n 3, 1) := by decide +kernel
theorem dX10_fromHome_91 : decode cX10_fromHome 91 = .ok (.iconst 5, 1) := by decide +kernel
theorem dX10_fromHome_92 : decode cX10_fromHome 92 = .ok (.iadd, 1) := by decide +kernel
theorem dX10_fromHome_93 : decode cX10_fromHome 93 = .ok (.iaload, 1) := by decide +kernel
theorem dX10_fromHome_94 : decode cX10_fromHome 94 = .ok (.invokevirtual 117, 3) := by decide +kernel
theorem dX10_fromHome_97 : decode cX10_fromHome 97 = .ok (.ifCond .eq 50, 3) := by decide +kernel
theorem dX10_fromHome_100 : decode cX10_fromHome 100 = .ok (.aload_n 0, 1) := by decide +kernel
theorem dX10_fromHome_101 : decode cX10_fromHome 101 = .ok (.iconst 2, 1) := by decide +kernel
theorem dX10_fromHome_102 : decode cX10_fromHome 102 = .ok (.aload_n 0, 1) := by decide +kernel
theorem dX10_fromHome_103 : decode cX10_fromHome 103 = .ok (.getfield 38, 3) := by decide +kernel
theorem dX10_fromHome_106 : decode cX10_fromHome 106 = .ok (.iload_n 3, 1) := by decide +kernel
theorem dX10_fromHome_107 : decode cX10_fromHome 107 = .ok (.iaload, 1) := by decide +kernel
theorem dX10_fromHome_108 : decode cX10_fromHome 108 = .ok (.aload_n 0, 1) := by decide +kernel
theorem dX10_fromHome_109 : decode cX10_fromHome 109 = .ok (.getfield 29, 3) := by decide +kernel
theorem dX10_fromHome_112 : decode cX10_fromHome 112 = .ok (.iconst 0, 1) := by decide +kernel
theorem dX10_fromHome_113 : decode cX10_fromHome 113 = .ok (.iaload, 1) := by decide +kernel
theorem dX10_fromHome_114 : decode cX10_fromHome 114 = .ok (.aload_n 0, 1) := by decide +kernel
theorem dX10_fromHome_115 : decode cX10_fromHome 115 = .ok (.getfield 38, 3) := by decide +kernel
theorem dX10_fromHome_118 : decode cX10_fromHome 118 = .ok (.iload_n 3, 1) := by decide +kernel
theorem dX10_fromHome_119 : decode cX10_fromHome 119 = .ok (.iconst 2, 1) := by decide +kernel
theorem dX10_fromHome_120 : decode cX10_fromHome 120 = .ok (.iadd, 1) := by decide +kernel
theorem dX10_fromHome_121 : decode cX10_fromHome 121 = .ok (.iaload, 1) := by decide +kernel
theorem dX10_fromHome_122 : decode cX10_fromHome 122 = .ok (.aload_n 0, 1) := by decide +kernel
theorem dX10_fromHome_123 : decode cX10_fromHome 123 = .ok (.getfield 38, 3) := by decide +kernel
theorem dX10_fromHome_126 : decode cX10_fromHome 126 = .ok (.iload_n 3, 1) := by decide +kernel
theorem dX10_fromHome_127 : decode cX10_fromHome 127 = .ok (.iconst 3, 1) := by decide +kernel
theorem dX10_fromHome_128 : decode cX10_fromHome 128 = .ok (.iadd, 1) := by decide +kernel
theorem dX10_fromHome_129 : decode cX10_fromHome 129 = .ok (.iaload, 1) := by decide +kernel
theorem dX10_fromHome_130 : decode cX10_fromHome 130 = .ok (.aload_n 0, 1) := by decide +kernel
theorem dX10_fromHome_131 : decode cX10_fromHome 131 = .ok (.getfield 29, 3) := by decide +kernel
theorem dX10_fromHome_134 : decode cX10_fromHome 134 = .ok (.iconst 3, 1) := by decide +kernel
theorem dX10_fromHome_135 : decode cX10_fromHome 135 = .ok (.iaload, 1) := by decide +kernel
theorem dX10_fromHome_136 : decode cX10_fromHome 136 = .ok (.aload_n 0, 1) := by decide +kernel
theorem dX10_fromHome_137 : decode cX10_fromHome 137 = .ok (.getfield 29, 3) := by decide +kernel
theorem dX10_fromHome_140 : decode cX10_fromHome 140 = .ok (.iconst 4, 1) := by decide +kernel
theorem dX10_fromHome_141 : decode cX10_fromHome 141 = .ok (.iaload, 1) := by decide +kernel
theorem dX10_fromHome_142 : decode cX10_fromHome 142 = .ok (.invokevirtual 102, 3) := by decide +kernel
theorem dX10_fromHome_145 : decode cX10_fromHome 145 = .ok (.iconst 1, 1) := by decide +kernel
theorem dX10_fromHome_146 : decode cX10_fromHome 146 = .ok (.ireturn, 1) := by decide +kernel
theorem dX10_fromHome_147 : decode cX10_fromHome 147 = .ok (.iinc 2 1, 3) := by decide +kernel
theorem dX10_fromHome_150 : decode cX10_fromHome 150 = .ok (.goto (-131), 3) := by decide +kernel
theorem dX10_fromHome_153 : decode cX10_fromHome 153 = .ok (.iconst 0, 1) := by decide +kernel
theorem dX10_fromHome_154 : decode cX10_fromHome 154 = .ok (.ireturn, 1) := by decide +kernel
theorem dX10_replay_0 : decode cX10_replay 0 = .ok (.aload_n 0, 1) := by decide +kernel
theorem dX10_replay_1 : decode cX10_replay 1 = .ok (.iconst 0, 1) := by decide +kernel
theorem dX10_replay_2 : decode cX10_replay 2 = .ok (.putfield 129, 3) := by decide +kernel
theorem dX10_replay_5 : decode cX10_replay 5 = .ok (.iconst 0, 1) := by decide +kernel
theorem dX10_replay_6 : decode cX10_replay 6 = .ok (.istore_n 2, 1) := by decide +kernel
theorem dX10_replay_7 : decode cX10_replay 7 = .ok (.iload_n 2, 1) := by decide +kernel
theorem dX10_replay_8 : decode cX10_replay 8 = .ok (.bipush 6, 2) := by decide +kernel
theorem dX10_replay_10 : decode cX10_replay 10 = .ok (.if_icmp .ge 16, 3) := by decide +kernel
theorem dX10_replay_13 : decode cX10_replay 13 = .ok (.aload_n 0, 1) := by decide +kernel
theorem dX10_replay_14 : decode cX10_replay 14 = .ok (.getfield 50, 3) := by decide +kernel
theorem dX10_replay_17 : decode cX10_replay 17 = .ok (.iload_n 2, 1) := by decide +kernel
theorem dX10_replay_18 : decode cX10_replay 18 = .ok (.iconst (-1), 1) := by decide +kernel
theorem dX10_replay_19 : decode cX10_replay 19 = .ok (.iastore, 1) := by decide +kernel
theorem dX10_replay_20 : decode cX10_replay 20 = .ok (.iinc 2 1, 3) := by decide +kernel
theorem dX10_replay_23 : decode cX10_replay 23 = .ok (.goto (-16), 3) := by decide +kernel
theorem dX10_replay_26 : decode cX10_replay 26 = .ok (.iconst 0, 1) := by decide +kernel
theorem dX10_replay_27 : decode cX10_replay 27 = .ok (.istore_n 2, 1) := by decide +kernel
theorem dX10_replay_28 : decode cX10_replay 28 = .ok (.iload_n 2, 1) := by decide +kernel
theorem dX10_replay_29 : decode cX10_replay 29 = .ok (.aload_n 0, 1) := by decide +kernel
theorem dX10_replay_30 : decode cX10_replay 30 = .ok (.getfield 44, 3) := by decide +kernel
theorem dX10_replay_33 : decode cX10_replay 33 = .ok (.iload_n 1, 1) := by decide +kernel
theorem dX10_replay_34 : decode cX10_replay 34 = .ok (.iaload, 1) := by decide +kernel
theorem dX10_replay_35 : decode cX10_replay 35 = .ok (.if_icmp .ge 167, 3) := by decide +kernel
theorem dX10_replay_38 : decode cX10_replay 38 = .ok (.sipush 400, 3) := by decide +kernel
theorem dX10_replay_41 : decode cX10_replay 41 = .ok (.iload_n 1, 1) := by decide +kernel
theorem dX10_replay_42 : decode cX10_replay 42 = .ok (.imul, 1) := by decide +kernel
theorem dX10_replay_43 : decode cX10_replay 43 = .ok (.bipush 10, 2) := by decide +kernel
theorem dX10_replay_45 : decode cX10_replay 45 = .ok (.iload_n 2, 1) := by decide +kernel
theorem dX10_replay_46 : decode cX10_replay 46 = .ok (.imul, 1) := by decide +kernel
theorem dX10_replay_47 : decode cX10_replay 47 = .ok (.iadd, 1) := by decide +kernel
theorem dX10_replay_48 : decode cX10_replay 48 = .ok (.istore_n 3, 1) := by decide +kernel
theorem dX10_replay_49 : decode cX10_replay 49 = .ok (.aload_n 0, 1) := by decide +kernel
theorem dX10_replay_50 : decode cX10_replay 50 = .ok (.getfield 41, 3) := by decide +kernel
theorem dX10_replay_53 : decode cX10_replay 53 = .ok (.iload_n 3, 1) := by decide +kernel
theorem dX10_replay_54 : decode cX10_replay 54 = .ok (.bipush 7, 2) := by decide +kernel
theorem dX10_replay_56 : decode cX10_replay 56 = .ok (.iadd, 1) := by decide +kernel
theorem dX10_replay_57 : decode cX10_replay 57 = .ok (.iaload, 1) := by decide +kernel
theorem dX10_replay_58 : decode cX10_replay 58 = .ok (.iconst 1, 1) := by decide +kernel
theorem dX10_replay_59 : decode cX10_replay 59 = .ok (.if_icmp .ne 41, 3) := by decide +kernel
theorem dX10_replay_62 : decode cX10_replay 62 = .ok (.aload_n 0, 1) := by decide +kernel
theorem dX10_replay_63 : decode cX10_replay 63 = .ok (.getfield 50, 3) := by decide +kernel
theorem dX10_replay_66 : decode cX10_replay 66 = .ok (.aload_n 0, 1) := by decide +kernel
theorem dX10_replay_67 : decode cX10_replay 67 = .ok (.getfield 41, 3) := by decide +kernel
theorem dX10_replay_70 : decode cX10_replay 70 = .ok (.iload_n 3, 1) := by decide +kernel
theorem dX10_replay_71 : decode cX10_replay 71 = .ok (.bipush 9, 2) := by decide +kernel
theorem dX10_replay_73 : decode cX10_replay 73 = .ok (.iadd, 1) := by decide +kernel
theorem dX10_replay_74 : decode cX10_replay 74 = .ok (.iaload, 1) := by decide +kernel
theorem dX10_replay_75 : decode cX10_replay 75 = .ok (.iload_n 2, 1) := by decide +kernel
theorem dX10_replay_76 : decode cX10_replay 76 = .ok (.iastore, 1) := by decide +kernel
theorem dX10_replay_77 : decode cX10_replay 77 = .ok (.aload_n 0, 1) := by decide +kernel
theorem dX10_replay_78 : decode cX10_replay 78 = .ok (.getfield 53, 3) := by decide +kernel
theorem dX10_replay_81 : decode cX10_replay 81 = .ok (.aload_n 0, 1) := by decide +kernel
theorem dX10_replay_82 : decode cX10_replay 82 = .ok (.getfield 41, 3) := by decide +kernel
theorem dX10_replay_85 : decode cX10_replay 85 = .ok (.iload_n 3, 1) := by decide +kernel
theorem dX10_replay_86 : decode cX10_replay 86 = .ok (.bipush 9, 2) := by decide +kernel
theorem dX10_replay_88 : decode cX10_replay 88 = .ok (.iadd, 1) := by decide +kernel
theorem dX10_replay_89 : decode cX10_replay 89 = .ok (.iaload, 1) := by decide +kernel
theorem dX10_replay_90 : decode cX10_replay 90 = .ok (.aload_n 0, 1) := by decide +kernel
theorem dX10_replay_91 : decode cX10_replay 91 = .ok (.getfield 41, 3) := by decide +kernel
theorem dX10_replay_94 : decode cX10_replay 94 = .ok (.iload_n 3, 1) := by decide +kernel
theorem dX10_replay_95 : decode cX10_replay 95 = .ok (.bipush 8, 2) := by decide +kernel
theorem dX10_replay_97 : decode cX10_replay 97 = .ok (.iadd, 1) := by decide +kernel
theorem dX10_replay_98 : decode cX10_replay 98 = .ok (.iaload, 1) := by decide +kernel
theorem dX10_replay_99 : decode cX10_replay 99 = .ok (.iastore, 1) := by decide +kernel
theorem dX10_replay_100 : decode cX10_replay 100 = .ok (.iconst 0, 1) := by decide +kernel
theorem dX10_replay_101 : decode cX10_replay 101 = .ok (.istore 4, 2) := by decide +kernel
theorem dX10_replay_103 : decode cX10_replay 103 = .ok (.iload 4, 2) := by decide +kernel
theorem dX10_replay_105 : decode cX10_replay 105 = .ok (.bipush 6, 2) := by decide +kernel
theorem dX10_replay_107 : decode cX10_replay 107 = .ok (.if_icmp .ge 59, 3) := by decide +kernel
theorem dX10_replay_110 : decode cX10_replay 110 = .ok (.aload_n 0, 1) := by decide +kernel
theorem dX10_replay_111 : decode cX10_replay 111 = .ok (.getfield 41, 3) := by decide +kernel
theorem dX10_replay_114 : decode cX10_replay 114 = .ok (.iload_n 3, 1) := by decide +kernel
theorem dX10_replay_115 : decode cX10_replay 115 = .ok (.bipush 7, 2) := by decide +kernel
theorem dX10_replay_117 : decode cX10_replay 117 = .ok (.iadd, 1) := by decide +kernel
theorem dX10_replay_118 : decode cX10_replay 118 = .ok (.iaload, 1) := by decide +kernel
theorem dX10_replay_119 : decode cX10_replay 119 = .ok (.iconst 1, 1) := by decide +kernel
theorem dX10_replay_120 : decode cX10_replay 120 = .ok (.if_icmp .le 46, 3) := by decide +kernel
theorem dX10_replay_123 : decode cX10_replay 123 = .ok (.aload_n 0, 1) := by decide +kernel
theorem dX10_replay_124 : decode cX10_replay 124 = .ok (.getfield 50, 3) := by decide +kernel
theorem dX10_replay_127 : decode cX10_replay 127 = .ok (.iload 4, 2) := by decide +kernel
theorem dX10_replay_129 : decode cX10_replay 129 = .ok (.aload_n 0, 1) := by decide +kernel
theorem dX10_replay_130 : decode cX10_replay 130 = .ok (.getfield 50, 3) := by decide +kernel
theorem dX10_replay_133 : decode cX10_replay 133 = .ok (.iload 4, 2) := by decide +kernel
theorem dX10_replay_135 : decode cX10_replay 135 = .ok (.iaload, 1) := by decide +kernel
theorem dX10_replay_136 : decode cX10_replay 136 = .ok (.aload_n 0, 1) := by decide +kernel
theorem dX10_replay_137 : decode cX10_replay 137 = .ok (.getfield 41, 3) := by decide +kernel
theorem dX10_replay_140 : decode cX10_replay 140 = .ok (.iload_n 3, 1) := by decide +kernel
theorem dX10_replay_141 : decode cX10_replay 141 = .ok (.bipush 8, 2) := by decide +kernel
theorem dX10_replay_143 : decode cX10_replay 143 = .ok (.iadd, 1) := by decide +kernel
theorem dX10_replay_144 : decode cX10_replay 144 = .ok (.iaload, 1) := by decide +kernel
theorem dX10_replay_145 : decode cX10_replay 145 = .ok (.if_icmp .ne 7, 3) := by decide +kernel
theorem dX10_replay_148 : decode cX10_replay 148 = .ok (.iconst (-1), 1) := by decide +kernel
theorem dX10_replay_149 : decode cX10_replay 149 = .ok (.goto 10, 3) := by decide +kernel
theorem dX10_replay_152 : decode cX10_replay 152 = .ok (.aload_n 0, 1) := by decide +kernel
theorem dX10_replay_153 : decode cX10_replay 153 = .ok (.getfield 50, 3) := by decide +kernel
theorem dX10_replay_156 : decode cX10_replay 156 = .ok (.iload 4, 2) := by decide +kernel
theorem dX10_replay_158 : decode cX10_replay 158 = .ok (.iaload, 1) := by decide +kernel
theorem dX10_replay_159 : decode cX10_replay 159 = .ok (.iastore, 1) := by decide +kernel
theorem dX10_replay_160 : decode cX10_replay 160 = .ok (.iinc 4 1, 3) := by decide +kernel
theorem dX10_replay_163 : decode cX10_replay 163 = .ok (.goto (-60), 3) := by decide +kernel
theorem dX10_replay_166 : decode cX10_replay 166 = .ok (.aload_n 0, 1) := by decide +kernel
theorem dX10_replay_167 : decode cX10_replay 167 = .ok (.aload_n 0, 1) := by decide +kernel
theorem dX10_replay_168 : decode cX10_replay 168 = .ok (.getfield 41, 3) := by decide +kernel
theorem dX10_replay_171 : decode cX10_replay 171 = .ok (.iload_n 3, 1) := by decide +kernel
theorem dX10_replay_172 : decode cX10_replay 172 = .ok (.bipush 7, 2) := by decide +kernel
theorem dX10_replay_174 : decode cX10_replay 174 = .ok (.iadd, 1) := by decide +kernel
theorem dX10_replay_175 : decode cX10_replay 175 = .ok (.iaload, 1) := by decide +kernel
theorem dX10_replay_176 : decode cX10_replay 176 = .ok (.iconst 2, 1) := by decide +kernel
theorem dX10_replay_177 : decode cX10_replay 177 = .ok (.if_icmp .ne 12, 3) := by decide +kernel
theorem dX10_replay_180 : decode cX10_replay 180 = .ok (.aload_n 0, 1) := by decide +kernel
theorem dX10_replay_181 : decode cX10_replay 181 = .ok (.getfield 129, 3) := by decide +kernel
theorem dX10_replay_184 : decode cX10_replay 184 = .ok (.iconst 1, 1) := by decide +kernel
theorem dX10_replay_185 : decode cX10_replay 185 = .ok (.iadd, 1) := by decide +kernel
theorem dX10_replay_186 : decode cX10_replay 186 = .ok (.goto 7, 3) := by decide +kernel
theorem dX10_replay_189 : decode cX10_replay 189 = .ok (.aload_n 0, 1) := by decide +kernel
theorem dX10_replay_190 : decode cX10_replay 190 = .ok (.getfield 129, 3) := by decide +kernel
theorem dX10_replay_193 : decode cX10_replay 193 = .ok (.putfield 129, 3) := by decide +kernel
theorem dX10_replay_196 : decode cX10_replay 196 = .ok (.iinc 2 1, 3) := by decide +kernel
theorem dX10_replay_199 : decode cX10_replay 199 = .ok (.goto (-171), 3) := by decide +kernel
theorem dX10_replay_202 : decode cX10_replay 202 = .ok (.return_, 1) := by decide +kernel
theorem dX10_known_0 : decode cX10_known 0 = .ok (.iconst (-1), 1) := by decide +kernel
theorem dX10_known_1 : decode cX10_known 1 = .ok (.istore_n 2, 1) := by decide +kernel
theorem dX10_known_2 : decode cX10_known 2 = .ok (.iconst 0, 1) := by decide +kernel
theorem dX10_known_3 : decode cX10_known 3 = .ok (.istore_n 3, 1) := by decide +kernel
theorem dX10_known_4 : decode cX10_known 4 = .ok (.iload_n 3, 1) := by decide +kernel
theorem dX10_known_5 : decode cX10_known 5 = .ok (.aload_n 0, 1) := by decide +kernel
theorem dX10_known_6 : decode cX10_known 6 = .ok (.getfield 44, 3) := by decide +kernel
theorem dX10_known_9 : decode cX10_known 9 = .ok (.iload_n 1, 1) := by decide +kernel
theorem dX10_known_10 : decode cX10_known 10 = .ok (.iaload, 1) := by decide +kernel
theorem dX10_known_11 : decode cX10_known 11 = .ok (.if_icmp .ge 110, 3) := by decide +kernel
theorem dX10_known_14 : decode cX10_known 14 = .ok (.sipush 400, 3) := by decide +kernel
theorem dX10_known_17 : decode cX10_known 17 = .ok (.iload_n 1, 1) := by decide +kernel
theorem dX10_known_18 : decode cX10_known 18 = .ok (.imul, 1) := by decide +kernel
theorem dX10_known_19 : decode cX10_known 19 = .ok (.bipush 10, 2) := by decide +kernel
theorem dX10_known_21 : decode cX10_known 21 = .ok (.iload_n 3, 1) := by decide +kernel
theorem dX10_known_22 : decode cX10_known 22 = .ok (.imul, 1) := by decide +kernel
theorem dX10_known_23 : decode cX10_known 23 = .ok (.iadd, 1) := by decide +kernel
theorem dX10_known_24 : decode cX10_known 24 = .ok (.istore 4, 2) := by decide +kernel
theorem dX10_known_26 : decode cX10_known 26 = .ok (.aload_n 0, 1) := by decide +kernel
theorem dX10_known_27 : decode cX10_known 27 = .ok (.getfield 41, 3) := by decide +kernel
theorem dX10_known_30 : decode cX10_known 30 = .ok (.iload 4, 2) := by decide +kernel
theorem dX10_known_32 : decode cX10_known 32 = .ok (.iaload, 1) := by decide +kernel
theorem dX10_known_33 : decode cX10_known 33 = .ok (.aload_n 0, 1) := by decide +kernel
theorem dX10_known_34 : decode cX10_known 34 = .ok (.getfield 29, 3) := by decide +kernel
theorem dX10_known_37 : decode cX10_known 37 = .ok (.iconst 0, 1) := by decide +kernel
theorem dX10_known_38 : decode cX10_known 38 = .ok (.iaload, 1) := by decide +kernel
theorem dX10_known_39 : decode cX10_known 39 = .ok (.if_icmp .ne 43, 3) := by decide +kernel
theorem dX10_known_42 : decode cX10_known 42 = .ok (.aload_n 0, 1) := by decide +kernel
theorem dX10_known_43 : decode cX10_known 43 = .ok (.getfield 41, 3) := by decide +kernel
theorem dX10_known_46 : decode cX10_known 46 = .ok (.iload 4, 2) := by decide +kernel
theorem dX10_known_48 : decode cX10_known 48 = .ok (.iconst 1, 1) := by decide +kernel
theorem dX10_known_49 : decode cX10_known 49 = .ok (.iadd, 1) := by decide +kernel
theorem dX10_known_50 : decode cX10_known 50 = .ok (.iaload, 1) := by decide +kernel
theorem dX10_known_51 : decode cX10_known 51 = .ok (.aload_n 0, 1) := by decide +kernel
theorem dX10_known_52 : decode cX10_known 52 = .ok (.getfield 29, 3) := by decide +kernel
theorem dX10_known_55 : decode cX10_known 55 = .ok (.iconst 1, 1) := by decide +kernel
theorem dX10_known_56 : decode cX10_known 56 = .ok (.iaload, 1) := by decide +kernel
theorem dX10_known_57 : decode cX10_known 57 = .ok (.if_icmp .ne 25, 3) := by decide +kernel
theorem dX10_known_60 : decode cX10_known 60 = .ok (.aload_n 0, 1) := by decide +kernel
theorem dX10_known_61 : decode cX10_known 61 = .ok (.getfield 41, 3) := by decide +kernel
theorem dX10_known_64 : decode cX10_known 64 = .ok (.iload 4, 2) := by decide +kernel
theorem dX10_known_66 : decode cX10_known 66 = .ok (.iconst 2, 1) := by decide +kernel
theorem dX10_known_67 : decode cX10_known 67 = .ok (.iadd, 1) := by decide +kernel
theorem dX10_known_68 : decode cX10_known 68 = .ok (.iaload, 1) := by decide +kernel
theorem dX10_known_69 : decode cX10_known 69 = .ok (.aload_n 0, 1) := by decide +kernel
theorem dX10_known_70 : decode cX10_known 70 = .ok (.getfield 29, 3) := by decide +kernel
theorem dX10_known_73 : decode cX10_known 73 = .ok (.iconst 2, 1) := by decide +kernel
theorem dX10_known_74 : decode cX10_known 74 = .ok (.iaload, 1) := by decide +kernel
theorem dX10_known_75 : decode cX10_known 75 = .ok (.if_icmp .ne 7, 3) := by decide +kernel
theorem dX10_known_78 : decode cX10_known 78 = .ok (.iconst 1, 1) := by decide +kernel
theorem dX10_known_79 : decode cX10_known 79 = .ok (.goto 4, 3) := by decide +kernel
theorem dX10_known_82 : decode cX10_known 82 = .ok (.iconst 0, 1) := by decide +kernel
theorem dX10_known_83 : decode cX10_known 83 = .ok (.istore 5, 2) := by decide +kernel
theorem dX10_known_85 : decode cX10_known 85 = .ok (.iload 5, 2) := by decide +kernel
theorem dX10_known_87 : decode cX10_known 87 = .ok (.ifCond .eq 26, 3) := by decide +kernel
theorem dX10_known_90 : decode cX10_known 90 = .ok (.aload_n 0, 1) := by decide +kernel
theorem dX10_known_91 : decode cX10_known 91 = .ok (.getfield 106, 3) := by decide +kernel
theorem dX10_known_94 : decode cX10_known 94 = .ok (.aload_n 0, 1) := by decide +kernel
theorem dX10_known_95 : decode cX10_known 95 = .ok (.getfield 41, 3) := by decide +kernel
theorem dX10_known_98 : decode cX10_known 98 = .ok (.iload 4, 2) := by decide +kernel
theorem dX10_known_100 : decode cX10_known 100 = .ok (.iconst 3, 1) := by decide +kernel
theorem dX10_known_101 : decode cX10_known 101 = .ok (.iadd, 1) := by decide +kernel
theorem dX10_known_102 : decode cX10_known 102 = .ok (.iaload, 1) := by decide +kernel
theorem dX10_known_103 : decode cX10_known 103 = .ok (.isub, 1) := by decide +kernel
theorem dX10_known_104 : decode cX10_known 104 = .ok (.bipush 20, 2) := by decide +kernel
theorem dX10_known_106 : decode cX10_known 106 = .ok (.if_icmp .gt 7, 3) := by decide +kernel
theorem dX10_known_109 : decode cX10_known 109 = .ok (.iload_n 3, 1) := by decide +kernel
theorem dX10_known_110 : decode cX10_known 110 = .ok (.goto 4, 3) := by decide +kernel
theorem dX10_known_113 : decode cX10_known 113 = .ok (.iload_n 2, 1) := by decide +kernel
theorem dX10_known_114 : decode cX10_known 114 = .ok (.istore_n 2, 1) := by decide +kernel
theorem dX10_known_115 : decode cX10_known 115 = .ok (.iinc 3 1, 3) := by decide +kernel
theorem dX10_known_118 : decode cX10_known 118 = .ok (.goto (-114), 3) := by decide +kernel
theorem dX10_known_121 : decode cX10_known 121 = .ok (.iload_n 2, 1) := by decide +kernel
theorem dX10_known_122 : decode cX10_known 122 = .ok (.ireturn, 1) := by decide +kernel
theorem dX10_answer_0 : decode cX10_answer 0 = .ok (.sipush 400, 3) := by decide +kernel
theorem dX10_answer_3 : decode cX10_answer 3 = .ok (.iload_n 1, 1) := by decide +kernel
theorem dX10_answer_4 : decode cX10_answer 4 = .ok (.imul, 1) := by decide +kernel
theorem dX10_answer_5 : decode cX10_answer 5 = .ok (.bipush 10, 2) := by decide +kernel
theorem dX10_answer_7 : decode cX10_answer 7 = .ok (.iload_n 2, 1) := by decide +kernel
theorem dX10_answer_8 : decode cX10_answer 8 = .ok (.imul, 1) := by decide +kernel
theorem dX10_answer_9 : decode cX10_answer 9 = .ok (.iadd, 1) := by decide +kernel
theorem dX10_answer_10 : decode cX10_answer 10 = .ok (.istore_n 3, 1) := by decide +kernel
theorem dX10_answer_11 : decode cX10_answer 11 = .ok (.aload_n 0, 1) := by decide +kernel
theorem dX10_answer_12 : decode cX10_answer 12 = .ok (.iload_n 1, 1) := by decide +kernel
theorem dX10_answer_13 : decode cX10_answer 13 = .ok (.iconst 3, 1) := by decide +kernel
theorem dX10_answer_14 : decode cX10_answer 14 = .ok (.iadd, 1) := by decide +kernel
theorem dX10_answer_15 : decode cX10_answer 15 = .ok (.iconst 2, 1) := by decide +kernel
theorem dX10_answer_16 : decode cX10_answer 16 = .ok (.aload_n 0, 1) := by decide +kernel
theorem dX10_answer_17 : decode cX10_answer 17 = .ok (.getfield 41, 3) := by decide +kernel
theorem dX10_answer_20 : decode cX10_answer 20 = .ok (.iload_n 3, 1) := by decide +kernel
theorem dX10_answer_21 : decode cX10_answer 21 = .ok (.iconst 4, 1) := by decide +kernel
theorem dX10_answer_22 : decode cX10_answer 22 = .ok (.iadd, 1) := by decide +kernel
theorem dX10_answer_23 : decode cX10_answer 23 = .ok (.iaload, 1) := by decide +kernel
theorem dX10_answer_24 : decode cX10_answer 24 = .ok (.aload_n 0, 1) := by decide +kernel
theorem dX10_answer_25 : decode cX10_answer 25 = .ok (.getfield 41, 3) := by decide +kernel
theorem dX10_answer_28 : decode cX10_answer 28 = .ok (.iload_n 3, 1) := by decide +kernel
theorem dX10_answer_29 : decode cX10_answer 29 = .ok (.iconst 1, 1) := by decide +kernel
theorem dX10_answer_30 : decode cX10_answer 30 = .ok (.iadd, 1) := by decide +kernel
theorem dX10_answer_31 : decode cX10_answer 31 = .ok (.iaload, 1) := by decide +kernel
theorem dX10_answer_32 : decode cX10_answer 32 = .ok (.aload_n 0, 1) := by decide +kernel
theorem dX10_answer_33 : decode cX10_answer 33 = .ok (.getfield 41, 3) := by decide +kernel
theorem dX10_answer_36 : decode cX10_answer 36 = .ok (.iload_n 3, 1) := by decide +kernel
theorem dX10_answer_37 : decode cX10_answer 37 = .ok (.iconst 2, 1) := by decide +kernel
theorem dX10_answer_38 : decode cX10_answer 38 = .ok (.iadd, 1) := by decide +kernel
theorem dX10_answer_39 : decode cX10_answer 39 = .ok (.iaload, 1) := by decide +kernel
theorem dX10_answer_40 : decode cX10_answer 40 = .ok (.aload_n 0, 1) := by decide +kernel
theorem dX10_answer_41 : decode cX10_answer 41 = .ok (.getfield 41, 3) := by decide +kernel
theorem dX10_answer_44 : decode cX10_answer 44 = .ok (.iload_n 3, 1) := by decide +kernel
theorem dX10_answer_45 : decode cX10_answer 45 = .ok (.iconst 5, 1) := by decide +kernel
theorem dX10_answer_46 : decode cX10_answer 46 = .ok (.iadd, 1) := by decide +kernel
theorem dX10_answer_47 : decode cX10_answer 47 = .ok (.iaload, 1) := by decide +kernel
theorem dX10_answer_48 : decode cX10_answer 48 = .ok (.aload_n 0, 1) := by decide +kernel
theorem dX10_answer_49 : decode cX10_answer 49 = .ok (.getfield 41, 3) := by decide +kernel
theorem dX10_answer_52 : decode cX10_answer 52 = .ok (.iload_n 3, 1) := by decide +kernel
theorem dX10_answer_53 : decode cX10_answer 53 = .ok (.bipush 6, 2) := by decide +kernel
theorem dX10_answer_55 : decode cX10_answer 55 = .ok (.iadd, 1) := by decide +kernel
theorem dX10_answer_56 : decode cX10_answer 56 = .ok (.iaload, 1) := by decide +kernel
theorem dX10_answer_57 : decode cX10_answer 57 = .ok (.invokevirtual 102, 3) := by decide +kernel
theorem dX10_answer_60 : decode cX10_answer 60 = .ok (.return_, 1) := by decide +kernel
theorem dX10_atHome_0 : decode cX10_atHome 0 = .ok (.aload_n 0, 1) := by decide +kernel
theorem dX10_atHome_1 : decode cX10_atHome 1 = .ok (.getfield 29, 3) := by decide +kernel
theorem dX10_atHome_4 : decode cX10_atHome 4 = .ok (.iconst 0, 1) := by decide +kernel
theorem dX10_atHome_5 : decode cX10_atHome 5 = .ok (.iaload, 1) := by decide +kernel
theorem dX10_atHome_6 : decode cX10_atHome 6 = .ok (.invokestatic 68, 3) := by decide +kernel
theorem dX10_atHome_9 : decode cX10_atHome 9 = .ok (.ifCond .eq 16, 3) := by decide +kernel
theorem dX10_atHome_12 : decode cX10_atHome 12 = .ok (.aload_n 0, 1) := by decide +kernel
theorem dX10_atHome_13 : decode cX10_atHome 13 = .ok (.aload_n 0, 1) := by decide +kernel
theorem dX10_atHome_14 : decode cX10_atHome 14 = .ok (.getfield 29, 3) := by decide +kernel
theorem dX10_atHome_17 : decode cX10_atHome 17 = .ok (.iconst 2, 1) := by decide +kernel
theorem dX10_atHome_18 : decode cX10_atHome 18 = .ok (.iaload, 1) := by decide +kernel
theorem dX10_atHome_19 : decode cX10_atHome 19 = .ok (.invokevirtual 117, 3) := by decide +kernel
theorem dX10_atHome_22 : decode cX10_atHome 22 = .ok (.ifCond .ne 5, 3) := by decide +kernel
theorem dX10_atHome_25 : decode cX10_atHome 25 = .ok (.iconst 0, 1) := by decide +kernel
theorem dX10_atHome_26 : decode cX10_atHome 26 = .ok (.ireturn, 1) := by decide +kernel
theorem dX10_atHome_27 : decode cX10_atHome 27 = .ok (.aload_n 0, 1) := by decide +kernel
theorem dX10_atHome_28 : decode cX10_atHome 28 = .ok (.iload_n 1, 1) := by decide +kernel
theorem dX10_atHome_29 : decode cX10_atHome 29 = .ok (.invokevirtual 132, 3) := by decide +kernel
theorem dX10_atHome_32 : decode cX10_atHome 32 = .ok (.istore_n 2, 1) := by decide +kernel
theorem dX10_atHome_33 : decode cX10_atHome 33 = .ok (.iload_n 2, 1) := by decide +kernel
theorem dX10_atHome_34 : decode cX10_atHome 34 = .ok (.ifCond .lt 23, 3) := by decide +kernel
theorem dX10_atHome_37 : decode cX10_atHome 37 = .ok (.iload_n 2, 1) := by decide +kernel
theorem dX10_atHome_38 : decode cX10_atHome 38 = .ok (.aload_n 0, 1) := by decide +kernel
theorem dX10_atHome_39 : decode cX10_atHome 39 = .ok (.getfield 47, 3) := by decide +kernel
theorem dX10_atHome_42 : decode cX10_atHome 42 = .ok (.iload_n 1, 1) := by decide +kernel
theorem dX10_atHome_43 : decode cX10_atHome 43 = .ok (.iaload, 1) := by decide +kernel
theorem dX10_atHome_44 : decode cX10_atHome 44 = .ok (.if_icmp .lt 5, 3) := by decide +kernel
theorem dX10_atHome_47 : decode cX10_atHome 47 = .ok (.iconst 3, 1) := by decide +kernel
theorem dX10_atHome_48 : decode cX10_atHome 48 = .ok (.ireturn, 1) := by decide +kernel
theorem dX10_atHome_49 : decode cX10_atHome 49 = .ok (.aload_n 0, 1) := by decide +kernel
theorem dX10_atHome_50 : decode cX10_atHome 50 = .ok (.iload_n 1, 1) := by decide +kernel
theorem dX10_atHome_51 : decode cX10_atHome 51 = .ok (.iload_n 2, 1) := by decide +kernel
theorem dX10_atHome_52 : decode cX10_atHome 52 = .ok (.invokevirtual 135, 3) := by decide +kernel
theorem dX10_atHome_55 : decode cX10_atHome 55 = .ok (.iconst 2, 1) := by decide +kernel
theorem dX10_atHome_56 : decode cX10_atHome 56 = .ok (.ireturn, 1) := by decide +kernel
theorem dX10_atHome_57 : decode cX10_atHome 57 = .ok (.aload_n 0, 1) := by decide +kernel
theorem dX10_atHome_58 : decode cX10_atHome 58 = .ok (.getfield 44, 3) := by decide +kernel
theorem dX10_atHome_61 : decode cX10_atHome 61 = .ok (.iload_n 1, 1) := by decide +kernel
theorem dX10_atHome_62 : decode cX10_atHome 62 = .ok (.iaload, 1) := by decide +kernel
theorem dX10_atHome_63 : decode cX10_atHome 63 = .ok (.bipush 40, 2) := by decide +kernel
theorem dX10_atHome_65 : decode cX10_atHome 65 = .ok (.if_icmp .ne 5, 3) := by decide +kernel
theorem dX10_atHome_68 : decode cX10_atHome 68 = .ok (.iconst 0, 1) := by decide +kernel
theorem dX10_atHome_69 : decode cX10_atHome 69 = .ok (.ireturn, 1) := by decide +kernel
theorem dX10_atHome_70 : decode cX10_atHome 70 = .ok (.aload_n 0, 1) := by decide +kernel
theorem dX10_atHome_71 : decode cX10_atHome 71 = .ok (.iload_n 1, 1) := by decide +kernel
theorem dX10_atHome_72 : decode cX10_atHome 72 = .ok (.invokevirtual 139, 3) := by decide +kernel
theorem dX10_atHome_75 : decode cX10_atHome 75 = .ok (.sipush 400, 3) := by decide +kernel
theorem dX10_atHome_78 : decode cX10_atHome 78 = .ok (.iload_n 1, 1) := by decide +kernel
theorem dX10_atHome_79 : decode cX10_atHome 79 = .ok (.imul, 1) := by decide +kernel
theorem dX10_atHome_80 : decode cX10_atHome 80 = .ok (.bipush 10, 2) := by decide +kernel
theorem dX10_atHome_82 : decode cX10_atHome 82 = .ok (.aload_n 0, 1) := by decide +kernel
theorem dX10_atHome_83 : decode cX10_atHome 83 = .ok (.getfield 44, 3) := by decide +kernel
theorem dX10_atHome_86 : decode cX10_atHome 86 = .ok (.iload_n 1, 1) := by decide +kernel
theorem dX10_atHome_87 : decode cX10_atHome 87 = .ok (.iaload, 1) := by decide +kernel
theorem dX10_atHome_88 : decode cX10_atHome 88 = .ok (.imul, 1) := by decide +kernel
theorem dX10_atHome_89 : decode cX10_atHome 89 = .ok (.iadd, 1) := by decide +kernel
theorem dX10_atHome_90 : decode cX10_atHome 90 = .ok (.istore_n 3, 1) := by decide +kernel
theorem dX10_atHome_91 : decode cX10_atHome 91 = .ok (.iconst 0, 1) := by decide +kernel
theorem dX10_atHome_92 : decode cX10_atHome 92 = .ok (.istore 4, 2) := by decide +kernel
theorem dX10_atHome_94 : decode cX10_atHome 94 = .ok (.iload 4, 2) := by decide +kernel
theorem dX10_atHome_96 : decode cX10_atHome 96 = .ok (.iconst 3, 1) := by decide +kernel
theorem dX10_atHome_97 : decode cX10_atHome 97 = .ok (.if_icmp .ge 25, 3) := by decide +kernel
theorem dX10_atHome_100 : decode cX10_atHome 100 = .ok (.aload_n 0, 1) := by decide +kernel
theorem dX10_atHome_101 : decode cX10_atHome 101 = .ok (.getfield 41, 3) := by decide +kernel
theorem dX10_atHome_104 : decode cX10_atHome 104 = .ok (.iload_n 3, 1) := by decide +kernel
theorem dX10_atHome_105 : decode cX10_atHome 105 = .ok (.iload 4, 2) := by decide +kernel
theorem dX10_atHome_107 : decode cX10_atHome 107 = .ok (.iadd, 1) := by decide +kernel
theorem dX10_atHome_108 : decode cX10_atHome 108 = .ok (.aload_n 0, 1) := by decide +kernel
theorem dX10_atHome_109 : decode cX10_atHome 109 = .ok (.getfield 29, 3) := by decide +kernel
theorem dX10_atHome_112 : decode cX10_atHome 112 = .ok (.iload 4, 2) := by decide +kernel
theorem dX10_atHome_114 : decode cX10_atHome 114 = .ok (.iaload, 1) := by decide +kernel
theorem dX10_atHome_115 : decode cX10_atHome 115 = .ok (.iastore, 1) := by decide +kernel
theorem dX10_atHome_116 : decode cX10_atHome 116 = .ok (.iinc 4 1, 3) := by decide +kernel
theorem dX10_atHome_119 : decode cX10_atHome 119 = .ok (.goto (-25), 3) := by decide +kernel
theorem dX10_atHome_122 : decode cX10_atHome 122 = .ok (.aload_n 0, 1) := by decide +kernel
theorem dX10_atHome_123 : decode cX10_atHome 123 = .ok (.getfield 41, 3) := by decide +kernel
theorem dX10_atHome_126 : decode cX10_atHome 126 = .ok (.iload_n 3, 1) := by decide +kernel
theorem dX10_atHome_127 : decode cX10_atHome 127 = .ok (.iconst 3, 1) := by decide +kernel
theorem dX10_atHome_128 : decode cX10_atHome 128 = .ok (.iadd, 1) := by decide +kernel
theorem dX10_atHome_129 : decode cX10_atHome 129 = .ok (.aload_n 0, 1) := by decide +kernel
theorem dX10_atHome_130 : decode cX10_atHome 130 = .ok (.getfield 106, 3) := by decide +kernel
theorem dX10_atHome_133 : decode cX10_atHome 133 = .ok (.iastore, 1) := by decide +kernel
theorem dX10_atHome_134 : decode cX10_atHome 134 = .ok (.aload_n 0, 1) := by decide +kernel
theorem dX10_atHome_135 : decode cX10_atHome 135 = .ok (.getfield 41, 3) := by decide +kernel
theorem dX10_atHome_138 : decode cX10_atHome 138 = .ok (.iload_n 3, 1) := by decide +kernel
theorem dX10_atHome_139 : decode cX10_atHome 139 = .ok (.bipush 7, 2) := by decide +kernel
theorem dX10_atHome_141 : decode cX10_atHome 141 = .ok (.iadd, 1) := by decide +kernel
theorem dX10_atHome_142 : decode cX10_atHome 142 = .ok (.iconst 0, 1) := by decide +kernel
theorem dX10_atHome_143 : decode cX10_atHome 143 = .ok (.iastore, 1) := by decide +kernel
theorem dX10_atHome_144 : decode cX10_atHome 144 = .ok (.aload_n 0, 1) := by decide +kernel
theorem dX10_atHome_145 : decode cX10_atHome 145 = .ok (.getfield 29, 3) := by decide +kernel
theorem dX10_atHome_148 : decode cX10_atHome 148 = .ok (.iconst 0, 1) := by decide +kernel
theorem dX10_atHome_149 : decode cX10_atHome 149 = .ok (.iaload, 1) := by decide +kernel
theorem dX10_atHome_150 : decode cX10_atHome 150 = .ok (.ifCond .ne 12, 3) := by decide +kernel
theorem dX10_atHome_153 : decode cX10_atHome 153 = .ok (.aload_n 0, 1) := by decide +kernel
theorem dX10_atHome_154 : decode cX10_atHome 154 = .ok (.iload_n 1, 1) := by decide +kernel
theorem dX10_atHome_155 : decode cX10_atHome 155 = .ok (.iload_n 3, 1) := by decide +kernel
theorem dX10_atHome_156 : decode cX10_atHome 156 = .ok (.invokevirtual 142, 3) := by decide +kernel
theorem dX10_atHome_159 : decode cX10_atHome 159 = .ok (.goto 8, 3) := by decide +kernel
theorem dX10_atHome_162 : decode cX10_atHome 162 = .ok (.aload_n 0, 1) := by decide +kernel
theorem dX10_atHome_163 : decode cX10_atHome 163 = .ok (.iload_n 3, 1) := by decide +kernel
theorem dX10_atHome_164 : decode cX10_atHome 164 = .ok (.invokevirtual 145, 3) := by decide +kernel
theorem dX10_atHome_167 : decode cX10_atHome 167 = .ok (.aload_n 0, 1) := by decide +kernel
theorem dX10_atHome_168 : decode cX10_atHome 168 = .ok (.getfield 44, 3) := by decide +kernel
theorem dX10_atHome_171 : decode cX10_atHome 171 = .ok (.iload_n 1, 1) := by decide +kernel
theorem dX10_atHome_172 : decode cX10_atHome 172 = .ok (.dup2, 1) := by decide +kernel
theorem dX10_atHome_173 : decode cX10_atHome 173 = .ok (.iaload, 1) := by decide +kernel
theorem dX10_atHome_174 : decode cX10_atHome 174 = .ok (.iconst 1, 1) := by decide +kernel
theorem dX10_atHome_175 : decode cX10_atHome 175 = .ok (.iadd, 1) := by decide +kernel
theorem dX10_atHome_176 : decode cX10_atHome 176 = .ok (.iastore, 1) := by decide +kernel
theorem dX10_atHome_177 : decode cX10_atHome 177 = .ok (.iconst 1, 1) := by decide +kernel
theorem dX10_atHome_178 : decode cX10_atHome 178 = .ok (.ireturn, 1) := by decide +kernel
theorem dX10_result_0 : decode cX10_result 0 = .ok (.aload_n 0, 1) := by decide +kernel
theorem dX10_result_1 : decode cX10_result 1 = .ok (.getfield 41, 3) := by decide +kernel
theorem dX10_result_4 : decode cX10_result 4 = .ok (.iload_n 1, 1) := by decide +kernel
theorem dX10_result_5 : decode cX10_result 5 = .ok (.iconst 4, 1) := by decide +kernel
theorem dX10_result_6 : decode cX10_result 6 = .ok (.iadd, 1) := by decide +kernel
theorem dX10_result_7 : decode cX10_result 7 = .ok (.iload_n 2, 1) := by decide +kernel
theorem dX10_result_8 : decode cX10_result 8 = .ok (.iastore, 1) := by decide +kernel
theorem dX10_result_9 : decode cX10_result 9 = .ok (.aload_n 0, 1) := by decide +kernel
theorem dX10_result_10 : decode cX10_result 10 = .ok (.getfield 41, 3) := by decide +kernel
theorem dX10_result_13 : decode cX10_result 13 = .ok (.iload_n 1, 1) := by decide +kernel
theorem dX10_result_14 : decode cX10_result 14 = .ok (.iconst 5, 1) := by decide +kernel
theorem dX10_result_15 : decode cX10_result 15 = .ok (.iadd, 1) := by decide +kernel
theorem dX10_result_16 : decode cX10_result 16 = .ok (.iload_n 3, 1) := by decide +kernel
theorem dX10_result_17 : decode cX10_result 17 = .ok (.iastore, 1) := by decide +kernel
theorem dX10_result_18 : decode cX10_result 18 = .ok (.aload_n 0, 1) := by decide +kernel
theorem dX10_result_19 : decode cX10_result 19 = .ok (.getfield 41, 3) := by decide +kernel
theorem dX10_result_22 : decode cX10_result 22 = .ok (.iload_n 1, 1) := by decide +kernel
theorem dX10_result_23 : decode cX10_result 23 = .ok (.bipush 6, 2) := by decide +kernel
theorem dX10_result_25 : decode cX10_result 25 = .ok (.iadd, 1) := by decide +kernel
theorem dX10_result_26 : decode cX10_result 26 = .ok (.iload 4, 2) := by decide +kernel
theorem dX10_result_28 : decode cX10_result 28 = .ok (.iastore, 1) := by decide +kernel
theorem dX10_result_29 : decode cX10_result 29 = .ok (.return_, 1) := by decide +kernel
theorem dX10_ask_0 : decode cX10_ask 0 = .ok (.aload_n 0, 1) := by decide +kernel
theorem dX10_ask_1 : decode cX10_ask 1 = .ok (.getfield 29, 3) := by decide +kernel
theorem dX10_ask_4 : decode cX10_ask 4 = .ok (.iconst 3, 1) := by decide +kernel
theorem dX10_ask_5 : decode cX10_ask 5 = .ok (.iaload, 1) := by decide +kernel
theorem dX10_ask_6 : decode cX10_ask 6 = .ok (.istore_n 3, 1) := by decide +kernel
theorem dX10_ask_7 : decode cX10_ask 7 = .ok (.aload_n 0, 1) := by decide +kernel
theorem dX10_ask_8 : decode cX10_ask 8 = .ok (.getfield 29, 3) := by decide +kernel
theorem dX10_ask_11 : decode cX10_ask 11 = .ok (.iconst 4, 1) := by decide +kernel
theorem dX10_ask_12 : decode cX10_ask 12 = .ok (.iaload, 1) := by decide +kernel
theorem dX10_ask_13 : decode cX10_ask 13 = .ok (.aload_n 0, 1) := by decide +kernel
theorem dX10_ask_14 : decode cX10_ask 14 = .ok (.iload_n 1, 1) := by decide +kernel
theorem dX10_ask_15 : decode cX10_ask 15 = .ok (.iconst 3, 1) := by decide +kernel
theorem dX10_ask_16 : decode cX10_ask 16 = .ok (.iadd, 1) := by decide +kernel
theorem dX10_ask_17 : decode cX10_ask 17 = .ok (.iconst 2, 1) := by decide +kernel
theorem dX10_ask_18 : decode cX10_ask 18 = .ok (.invokevirtual 65, 3) := by decide +kernel
theorem dX10_ask_21 : decode cX10_ask 21 = .ok (.aload_n 0, 1) := by decide +kernel
theorem dX10_ask_22 : decode cX10_ask 22 = .ok (.getfield 29, 3) := by decide +kernel
theorem dX10_ask_25 : decode cX10_ask 25 = .ok (.iconst 2, 1) := by decide +kernel
theorem dX10_ask_26 : decode cX10_ask 26 = .ok (.iaload, 1) := by decide +kernel
theorem dX10_ask_27 : decode cX10_ask 27 = .ok (.invokestatic 57, 3) := by decide +kernel
theorem dX10_ask_30 : decode cX10_ask 30 = .ok (.ixor, 1) := by decide +kernel
theorem dX10_ask_31 : decode cX10_ask 31 = .ok (.istore 4, 2) := by decide +kernel
theorem dX10_ask_33 : decode cX10_ask 33 = .ok (.iload_n 3, 1) := by decide +kernel
theorem dX10_ask_34 : decode cX10_ask 34 = .ok (.ifCond .lt 36, 3) := by decide +kernel
theorem dX10_ask_37 : decode cX10_ask 37 = .ok (.iload_n 3, 1) := by decide +kernel
theorem dX10_ask_38 : decode cX10_ask 38 = .ok (.bipush 11, 2) := by decide +kernel
theorem dX10_ask_40 : decode cX10_ask 40 = .ok (.if_icmp .gt 30, 3) := by decide +kernel
theorem dX10_ask_43 : decode cX10_ask 43 = .ok (.iload_n 3, 1) := by decide +kernel
theorem dX10_ask_44 : decode cX10_ask 44 = .ok (.iconst 1, 1) := by decide +kernel
theorem dX10_ask_45 : decode cX10_ask 45 = .ok (.iand, 1) := by decide +kernel
theorem dX10_ask_46 : decode cX10_ask 46 = .ok (.iload_n 1, 1) := by decide +kernel
theorem dX10_ask_47 : decode cX10_ask 47 = .ok (.if_icmp .ne 23, 3) := by decide +kernel
theorem dX10_ask_50 : decode cX10_ask 50 = .ok (.aload_n 0, 1) := by decide +kernel
theorem dX10_ask_51 : decode cX10_ask 51 = .ok (.getfield 16, 3) := by decide +kernel
theorem dX10_ask_54 : decode cX10_ask 54 = .ok (.iload_n 3, 1) := by decide +kernel
theorem dX10_ask_55 : decode cX10_ask 55 = .ok (.baload, 1) := by decide +kernel
theorem dX10_ask_56 : decode cX10_ask 56 = .ok (.ifCond .eq 14, 3) := by decide +kernel
theorem dX10_ask_59 : decode cX10_ask 59 = .ok (.aload_n 0, 1) := by decide +kernel
theorem dX10_ask_60 : decode cX10_ask 60 = .ok (.getfield 20, 3) := by decide +kernel
theorem dX10_ask_63 : decode cX10_ask 63 = .ok (.iload_n 3, 1) := by decide +kernel
theorem dX10_ask_64 : decode cX10_ask 64 = .ok (.iaload, 1) := by decide +kernel
theorem dX10_ask_65 : decode cX10_ask 65 = .ok (.iload 4, 2) := by decide +kernel
theorem dX10_ask_67 : decode cX10_ask 67 = .ok (.if_icmp .eq 7, 3) := by decide +kernel
theorem dX10_ask_70 : decode cX10_ask 70 = .ok (.iconst 1, 1) := by decide +kernel
theorem dX10_ask_71 : decode cX10_ask 71 = .ok (.goto 4, 3) := by decide +kernel
theorem dX10_ask_74 : decode cX10_ask 74 = .ok (.iconst 0, 1) := by decide +kernel
theorem dX10_ask_75 : decode cX10_ask 75 = .ok (.istore 5, 2) := by decide +kernel
theorem dX10_ask_77 : decode cX10_ask 77 = .ok (.iconst 0, 1) := by decide +kernel
theorem dX10_ask_78 : decode cX10_ask 78 = .ok (.istore 6, 2) := by decide +kernel
theorem dX10_ask_80 : decode cX10_ask 80 = .ok (.iconst (-1), 1) := by decide +kernel
theorem dX10_ask_81 : decode cX10_ask 81 = .ok (.istore 7, 2) := by decide +kernel
theorem dX10_ask_83 : decode cX10_ask 83 = .ok (.iconst 5, 1) := by decide +kernel
theorem dX10_ask_84 : decode cX10_ask 84 = .ok (.istore 8, 2) := by decide +kernel
theorem dX10_ask_86 : decode cX10_ask 86 = .ok (.iload 8, 2) := by decide +kernel
theorem dX10_ask_88 : decode cX10_ask 88 = .ok (.ifCond .lt 60, 3) := by decide +kernel
theorem dX10_ask_91 : decode cX10_ask 91 = .ok (.aload_n 0, 1) := by decide +kernel
theorem dX10_ask_92 : decode cX10_ask 92 = .ok (.getfield 50, 3) := by decide +kernel
theorem dX10_ask_95 : decode cX10_ask 95 = .ok (.iload 8, 2) := by decide +kernel
theorem dX10_ask_97 : decode cX10_ask 97 = .ok (.iaload, 1) := by decide +kernel
theorem dX10_ask_98 : decode cX10_ask 98 = .ok (.ifCond .lt 21, 3) := by decide +kernel
theorem dX10_ask_101 : decode cX10_ask 101 = .ok (.aload_n 0, 1) := by decide +kernel
theorem dX10_ask_102 : decode cX10_ask 102 = .ok (.getfield 53, 3) := by decide +kernel
theorem dX10_ask_105 : decode cX10_ask 105 = .ok (.iload 8, 2) := by decide +kernel
theorem dX10_ask_107 : decode cX10_ask 107 = .ok (.iaload, 1) := by decide +kernel
theorem dX10_ask_108 : decode cX10_ask 108 = .ok (.iload_n 3, 1) := by decide +kernel
theorem dX10_ask_109 : decode cX10_ask 109 = .ok (.if_icmp .ne 10, 3) := by decide +kernel
theorem dX10_ask_112 : decode cX10_ask 112 = .ok (.iload 6, 2) := by decide +kernel
theorem dX10_ask_114 : decode cX10_ask 114 = .ok (.iconst 1, 1) := by decide +kernel
theorem dX10_ask_115 : decode cX10_ask 115 = .ok (.iadd, 1) := by decide +kernel
theorem dX10_ask_116 : decode cX10_ask 116 = .ok (.goto 5, 3) := by decide +kernel
theorem dX10_ask_119 : decode cX10_ask 119 = .ok (.iload 6, 2) := by decide +kernel
theorem dX10_ask_121 : decode cX10_ask 121 = .ok (.istore 6, 2) := by decide +kernel
theorem dX10_ask_123 : decode cX10_ask 123 = .ok (.aload_n 0, 1) := by decide +kernel
theorem dX10_ask_124 : decode cX10_ask 124 = .ok (.getfield 50, 3) := by decide +kernel
theorem dX10_ask_127 : decode cX10_ask 127 = .ok (.iload 8, 2) := by decide +kernel
theorem dX10_ask_129 : decode cX10_ask 129 = .ok (.iaload, 1) := by decide +kernel
theorem dX10_ask_130 : decode cX10_ask 130 = .ok (.ifCond .ge 8, 3) := by decide +kernel
theorem dX10_ask_133 : decode cX10_ask 133 = .ok (.iload 8, 2) := by decide +kernel
theorem dX10_ask_135 : decode cX10_ask 135 = .ok (.goto 5, 3) := by decide +kernel
theorem dX10_ask_138 : decode cX10_ask 138 = .ok (.iload 7, 2) := by decide +kernel
theorem dX10_ask_140 : decode cX10_ask 140 = .ok (.istore 7, 2) := by decide +kernel
theorem dX10_ask_142 : decode cX10_ask 142 = .ok (.iinc 8 (-1), 3) := by decide +kernel
theorem dX10_ask_145 : decode cX10_ask 145 = .ok (.goto (-59), 3) := by decide +kernel
theorem dX10_ask_148 : decode cX10_ask 148 = .ok (.iload 5, 2) := by decide +kernel
theorem dX10_ask_150 : decode cX10_ask 150 = .ok (.ifCond .eq 14, 3) := by decide +kernel
theorem dX10_ask_153 : decode cX10_ask 153 = .ok (.aload_n 0, 1) := by decide +kernel
theorem dX10_ask_154 : decode cX10_ask 154 = .ok (.iload_n 2, 1) := by decide +kernel
theorem dX10_ask_155 : decode cX10_ask 155 = .ok (.iconst 2, 1) := by decide +kernel
theorem dX10_ask_156 : decode cX10_ask 156 = .ok (.iconst 1, 1) := by decide +kernel
theorem dX10_ask_157 : decode cX10_ask 157 = .ok (.iconst 0, 1) := by decide +kernel
theorem dX10_ask_158 : decode cX10_ask 158 = .ok (.invokevirtual 148, 3) := by decide +kernel
theorem dX10_ask_161 : decode cX10_ask 161 = .ok (.goto 86, 3) := by decide +kernel
theorem dX10_ask_164 : decode cX10_ask 164 = .ok (.iload 6, 2) := by decide +kernel
theorem dX10_ask_166 : decode cX10_ask 166 = .ok (.aload_n 0, 1) := by decide +kernel
theorem dX10_ask_167 : decode cX10_ask 167 = .ok (.getfield 23, 3) := by decide +kernel
theorem dX10_ask_170 : decode cX10_ask 170 = .ok (.iload_n 3, 1) := by decide +kernel
theorem dX10_ask_171 : decode cX10_ask 171 = .ok (.iaload, 1) := by decide +kernel
theorem dX10_ask_172 : decode cX10_ask 172 = .ok (.if_icmp .lt 14, 3) := by decide +kernel
theorem dX10_ask_175 : decode cX10_ask 175 = .ok (.aload_n 0, 1) := by decide +kernel
theorem dX10_ask_176 : decode cX10_ask 176 = .ok (.iload_n 2, 1) := by decide +kernel
theorem dX10_ask_177 : decode cX10_ask 177 = .ok (.iconst 2, 1) := by decide +kernel
theorem dX10_ask_178 : decode cX10_ask 178 = .ok (.iconst 2, 1) := by decide +kernel
theorem dX10_ask_179 : decode cX10_ask 179 = .ok (.iconst 0, 1) := by decide +kernel
theorem dX10_ask_180 : decode cX10_ask 180 = .ok (.invokevirtual 148, 3) := by decide +kernel
theorem dX10_ask_183 : decode cX10_ask 183 = .ok (.goto 64, 3) := by decide +kernel
theorem dX10_ask_186 : decode cX10_ask 186 = .ok (.iload 7, 2) := by decide +kernel
theorem dX10_ask_188 : decode cX10_ask 188 = .ok (.ifCond .ge 14, 3) := by decide +kernel
theorem dX10_ask_191 : decode cX10_ask 191 = .ok (.aload_n 0, 1) := by decide +kernel
theorem dX10_ask_192 : decode cX10_ask 192 = .ok (.iload_n 2, 1) := by decide +kernel
theorem dX10_ask_193 : decode cX10_ask 193 = .ok (.iconst 2, 1) := by decide +kernel
theorem dX10_ask_194 : decode cX10_ask 194 = .ok (.iconst 3, 1) := by decide +kernel
theorem dX10_ask_195 : decode cX10_ask 195 = .ok (.iconst 0, 1) := by decide +kernel
theorem dX10_ask_196 : decode cX10_ask 196 = .ok (.invokevirtual 148, 3) := by decide +kernel
theorem dX10_ask_199 : decode cX10_ask 199 = .ok (.goto 48, 3) := by decide +kernel
theorem dX10_ask_202 : decode cX10_ask 202 = .ok (.aload_n 0, 1) := by decide +kernel
theorem dX10_ask_203 : decode cX10_ask 203 = .ok (.iload_n 2, 1) := by decide +kernel
theorem dX10_ask_204 : decode cX10_ask 204 = .ok (.iconst 1, 1) := by decide +kernel
theorem dX10_ask_205 : decode cX10_ask 205 = .ok (.aload_n 0, 1) := by decide +kernel
theorem dX10_ask_206 : decode cX10_ask 206 = .ok (.getfield 44, 3) := by decide +kernel
theorem dX10_ask_209 : decode cX10_ask 209 = .ok (.iload_n 1, 1) := by decide +kernel
theorem dX10_ask_210 : decode cX10_ask 210 = .ok (.iaload, 1) := by decide +kernel
theorem dX10_ask_211 : decode cX10_ask 211 = .ok (.iload 7, 2) := by decide +kernel
theorem dX10_ask_213 : decode cX10_ask 213 = .ok (.invokevirtual 148, 3) := by decide +kernel
theorem dX10_ask_216 : decode cX10_ask 216 = .ok (.aload_n 0, 1) := by decide +kernel
theorem dX10_ask_217 : decode cX10_ask 217 = .ok (.getfield 41, 3) := by decide +kernel
theorem dX10_ask_220 : decode cX10_ask 220 = .ok (.iload_n 2, 1) := by decide +kernel
theorem dX10_ask_221 : decode cX10_ask 221 = .ok (.bipush 7, 2) := by decide +kernel
theorem dX10_ask_223 : decode cX10_ask 223 = .ok (.iadd, 1) := by decide +kernel
theorem dX10_ask_224 : decode cX10_ask 224 = .ok (.iconst 1, 1) := by decide +kernel
theorem dX10_ask_225 : decode cX10_ask 225 = .ok (.iastore, 1) := by decide +kernel
theorem dX10_ask_226 : decode cX10_ask 226 = .ok (.aload_n 0, 1) := by decide +kernel
theorem dX10_ask_227 : decode cX10_ask 227 = .ok (.getfield 41, 3) := by decide +kernel
theorem dX10_ask_230 : decode cX10_ask 230 = .ok (.iload_n 2, 1) := by decide +kernel
theorem dX10_ask_231 : decode cX10_ask 231 = .ok (.bipush 8, 2) := by decide +kernel
theorem dX10_ask_233 : decode cX10_ask 233 = .ok (.iadd, 1) := by decide +kernel
theorem dX10_ask_234 : decode cX10_ask 234 = .ok (.iload_n 3, 1) := by decide +kernel
theorem dX10_ask_235 : decode cX10_ask 235 = .ok (.iastore, 1) := by decide +kernel
theorem dX10_ask_236 : decode cX10_ask 236 = .ok (.aload_n 0, 1) := by decide +kernel
theorem dX10_ask_237 : decode cX10_ask 237 = .ok (.getfield 41, 3) := by decide +kernel
theorem dX10_ask_240 : decode cX10_ask 240 = .ok (.iload_n 2, 1) := by decide +kernel
theorem dX10_ask_241 : decode cX10_ask 241 = .ok (.bipush 9, 2) := by decide +kernel
theorem dX10_ask_243 : decode cX10_ask 243 = .ok (.iadd, 1) := by decide +kernel
theorem dX10_ask_244 : decode cX10_ask 244 = .ok (.iload 7, 2) := by decide +kernel
theorem dX10_ask_246 : decode cX10_ask 246 = .ok (.iastore, 1) := by decide +kernel
theorem dX10_ask_247 : decode cX10_ask 247 = .ok (.return_, 1) := by decide +kernel
theorem dX10_close_0 : decode cX10_close 0 = .ok (.aload_n 0, 1) := by decide +kernel
theorem dX10_close_1 : decode cX10_close 1 = .ok (.iload_n 1, 1) := by decide +kernel
theorem dX10_close_2 : decode cX10_close 2 = .ok (.iconst 4, 1) := by decide +kernel
theorem dX10_close_3 : decode cX10_close 3 = .ok (.aload_n 0, 1) := by decide +kernel
theorem dX10_close_4 : decode cX10_close 4 = .ok (.getfield 29, 3) := by decide +kernel
theorem dX10_close_7 : decode cX10_close 7 = .ok (.iconst 3, 1) := by decide +kernel
theorem dX10_close_8 : decode cX10_close 8 = .ok (.iaload, 1) := by decide +kernel
theorem dX10_close_9 : decode cX10_close 9 = .ok (.aload_n 0, 1) := by decide +kernel
theorem dX10_close_10 : decode cX10_close 10 = .ok (.getfield 29, 3) := by decide +kernel
theorem dX10_close_13 : decode cX10_close 13 = .ok (.iconst 4, 1) := by decide +kernel
theorem dX10_close_14 : decode cX10_close 14 = .ok (.iaload, 1) := by decide +kernel
theorem dX10_close_15 : decode cX10_close 15 = .ok (.invokevirtual 148, 3) := by decide +kernel
theorem dX10_close_18 : decode cX10_close 18 = .ok (.iconst 0, 1) := by decide +kernel
theorem dX10_close_19 : decode cX10_close 19 = .ok (.istore_n 2, 1) := by decide +kernel
theorem dX10_close_20 : decode cX10_close 20 = .ok (.iload_n 2, 1) := by decide +kernel
theorem dX10_close_21 : decode cX10_close 21 = .ok (.bipush 6, 2) := by decide +kernel
theorem dX10_close_23 : decode cX10_close 23 = .ok (.if_icmp .ge 73, 3) := by decide +kernel
theorem dX10_close_26 : decode cX10_close 26 = .ok (.aload_n 0, 1) := by decide +kernel
theorem dX10_close_27 : decode cX10_close 27 = .ok (.getfield 50, 3) := by decide +kernel
theorem dX10_close_30 : decode cX10_close 30 = .ok (.iload_n 2, 1) := by decide +kernel
theorem dX10_close_31 : decode cX10_close 31 = .ok (.iaload, 1) := by decide +kernel
theorem dX10_close_32 : decode cX10_close 32 = .ok (.ifCond .lt 58, 3) := by decide +kernel
theorem dX10_close_35 : decode cX10_close 35 = .ok (.aload_n 0, 1) := by decide +kernel
theorem dX10_close_36 : decode cX10_close 36 = .ok (.getfield 50, 3) := by decide +kernel
theorem dX10_close_39 : decode cX10_close 39 = .ok (.iload_n 2, 1) := by decide +kernel
theorem dX10_close_40 : decode cX10_close 40 = .ok (.iaload, 1) := by decide +kernel
theorem dX10_close_41 : decode cX10_close 41 = .ok (.aload_n 0, 1) := by decide +kernel
theorem dX10_close_42 : decode cX10_close 42 = .ok (.getfield 29, 3) := by decide +kernel
theorem dX10_close_45 : decode cX10_close 45 = .ok (.iconst 4, 1) := by decide +kernel
theorem dX10_close_46 : decode cX10_close 46 = .ok (.iaload, 1) := by decide +kernel
theorem dX10_close_47 : decode cX10_close 47 = .ok (.if_icmp .ne 43, 3) := by decide +kernel
theorem dX10_close_50 : decode cX10_close 50 = .ok (.aload_n 0, 1) := by decide +kernel
theorem dX10_close_51 : decode cX10_close 51 = .ok (.getfield 53, 3) := by decide +kernel
theorem dX10_close_54 : decode cX10_close 54 = .ok (.iload_n 2, 1) := by decide +kernel
theorem dX10_close_55 : decode cX10_close 55 = .ok (.iaload, 1) := by decide +kernel
theorem dX10_close_56 : decode cX10_close 56 = .ok (.aload_n 0, 1) := by decide +kernel
theorem dX10_close_57 : decode cX10_close 57 = .ok (.getfield 29, 3) := by decide +kernel
theorem dX10_close_60 : decode cX10_close 60 = .ok (.iconst 3, 1) := by decide +kernel
theorem dX10_close_61 : decode cX10_close 61 = .ok (.iaload, 1) := by decide +kernel
theorem dX10_close_62 : decode cX10_close 62 = .ok (.if_icmp .ne 28, 3) := by decide +kernel
theorem dX10_close_65 : decode cX10_close 65 = .ok (.aload_n 0, 1) := by decide +kernel
theorem dX10_close_66 : decode cX10_close 66 = .ok (.getfield 41, 3) := by decide +kernel
theorem dX10_close_69 : decode cX10_close 69 = .ok (.iload_n 1, 1) := by decide +kernel
theorem dX10_close_70 : decode cX10_close 70 = .ok (.bipush 7, 2) := by decide +kernel
theorem dX10_close_72 : decode cX10_close 72 = .ok (.iadd, 1) := by decide +kernel
theorem dX10_close_73 : decode cX10_close 73 = .ok (.iconst 2, 1) := by decide +kernel
theorem dX10_close_74 : decode cX10_close 74 = .ok (.iastore, 1) := by decide +kernel
theorem dX10_close_75 : decode cX10_close 75 = .ok (.aload_n 0, 1) := by decide +kernel
theorem dX10_close_76 : decode cX10_close 76 = .ok (.getfield 41, 3) := by decide +kernel
theorem dX10_close_79 : decode cX10_close 79 = .ok (.iload_n 1, 1) := by decide +kernel
theorem dX10_close_80 : decode cX10_close 80 = .ok (.bipush 8, 2) := by decide +kernel
theorem dX10_close_82 : decode cX10_close 82 = .ok (.iadd, 1) := by decide +kernel
theorem dX10_close_83 : decode cX10_close 83 = .ok (.aload_n 0, 1) := by decide +kernel
theorem dX10_close_84 : decode cX10_close 84 = .ok (.getfield 29, 3) := by decide +kernel
theorem dX10_close_87 : decode cX10_close 87 = .ok (.iconst 4, 1) := by decide +kernel
theorem dX10_close_88 : decode cX10_close 88 = .ok (.iaload, 1) := by decide +kernel
theorem dX10_close_89 : decode cX10_close 89 = .ok (.iastore, 1) := by decide +kernel
theorem dX10_close_90 : decode cX10_close 90 = .ok (.iinc 2 1, 3) := by decide +kernel
theorem dX10_close_93 : decode cX10_close 93 = .ok (.goto (-73), 3) := by decide +kernel
theorem dX10_close_96 : decode cX10_close 96 = .ok (.return_, 1) := by decide +kernel
theorem dX10_sync_0 : decode cX10_sync 0 = .ok (.iload_n 1, 1) := by decide +kernel
theorem dX10_sync_1 : decode cX10_sync 1 = .ok (.iconst 3, 1) := by decide +kernel
theorem dX10_sync_2 : decode cX10_sync 2 = .ok (.if_icmp .lt 8, 3) := by decide +kernel
theorem dX10_sync_5 : decode cX10_sync 5 = .ok (.iload_n 1, 1) := by decide +kernel
theorem dX10_sync_6 : decode cX10_sync 6 = .ok (.iconst 4, 1) := by decide +kernel
theorem dX10_sync_7 : decode cX10_sync 7 = .ok (.if_icmp .le 5, 3) := by decide +kernel
theorem dX10_sync_10 : decode cX10_sync 10 = .ok (.iconst (-1), 1) := by decide +kernel
theorem dX10_sync_11 : decode cX10_sync 11 = .ok (.ireturn, 1) := by decide +kernel
theorem dX10_sync_12 : decode cX10_sync 12 = .ok (.iload_n 1, 1) := by decide +kernel
theorem dX10_sync_13 : decode cX10_sync 13 = .ok (.iconst 3, 1) := by decide +kernel
theorem dX10_sync_14 : decode cX10_sync 14 = .ok (.isub, 1) := by decide +kernel
theorem dX10_sync_15 : decode cX10_sync 15 = .ok (.istore_n 2, 1) := by decide +kernel
theorem dX10_sync_16 : decode cX10_sync 16 = .ok (.aload_n 0, 1) := by decide +kernel
theorem dX10_sync_17 : decode cX10_sync 17 = .ok (.getfield 47, 3) := by decide +kernel
theorem dX10_sync_20 : decode cX10_sync 20 = .ok (.iload_n 2, 1) := by decide +kernel
theorem dX10_sync_21 : decode cX10_sync 21 = .ok (.iaload, 1) := by decide +kernel
theorem dX10_sync_22 : decode cX10_sync 22 = .ok (.istore_n 3, 1) := by decide +kernel
theorem dX10_sync_23 : decode cX10_sync 23 = .ok (.aload_n 0, 1) := by decide +kernel
theorem dX10_sync_24 : decode cX10_sync 24 = .ok (.getfield 47, 3) := by decide +kernel
theorem dX10_sync_27 : decode cX10_sync 27 = .ok (.iload_n 2, 1) := by decide +kernel
theorem dX10_sync_28 : decode cX10_sync 28 = .ok (.aload_n 0, 1) := by decide +kernel
theorem dX10_sync_29 : decode cX10_sync 29 = .ok (.getfield 44, 3) := by decide +kernel
theorem dX10_sync_32 : decode cX10_sync 32 = .ok (.iload_n 2, 1) := by decide +kernel
theorem dX10_sync_33 : decode cX10_sync 33 = .ok (.iaload, 1) := by decide +kernel
theorem dX10_sync_34 : decode cX10_sync 34 = .ok (.iastore, 1) := by decide +kernel
theorem dX10_sync_35 : decode cX10_sync 35 = .ok (.iload_n 3, 1) := by decide +kernel
theorem dX10_sync_36 : decode cX10_sync 36 = .ok (.istore 4, 2) := by decide +kernel
theorem dX10_sync_38 : decode cX10_sync 38 = .ok (.iload 4, 2) := by decide +kernel
theorem dX10_sync_40 : decode cX10_sync 40 = .ok (.aload_n 0, 1) := by decide +kernel
theorem dX10_sync_41 : decode cX10_sync 41 = .ok (.getfield 44, 3) := by decide +kernel
theorem dX10_sync_44 : decode cX10_sync 44 = .ok (.iload_n 2, 1) := by decide +kernel
theorem dX10_sync_45 : decode cX10_sync 45 = .ok (.iaload, 1) := by decide +kernel
theorem dX10_sync_46 : decode cX10_sync 46 = .ok (.if_icmp .ge 35, 3) := by decide +kernel
theorem dX10_sync_49 : decode cX10_sync 49 = .ok (.aload_n 0, 1) := by decide +kernel
theorem dX10_sync_50 : decode cX10_sync 50 = .ok (.getfield 41, 3) := by decide +kernel
theorem dX10_sync_53 : decode cX10_sync 53 = .ok (.sipush 400, 3) := by decide +kernel
theorem dX10_sync_56 : decode cX10_sync 56 = .ok (.iload_n 2, 1) := by decide +kernel
theorem dX10_sync_57 : decode cX10_sync 57 = .ok (.imul, 1) := by decide +kernel
theorem dX10_sync_58 : decode cX10_sync 58 = .ok (.bipush 10, 2) := by decide +kernel
theorem dX10_sync_60 : decode cX10_sync 60 = .ok (.iload 4, 2) := by decide +kernel
theorem dX10_sync_62 : decode cX10_sync 62 = .ok (.imul, 1) := by decide +kernel
theorem dX10_sync_63 : decode cX10_sync 63 = .ok (.iadd, 1) := by decide +kernel
theorem dX10_sync_64 : decode cX10_sync 64 = .ok (.iaload, 1) := by decide +kernel
theorem dX10_sync_65 : decode cX10_sync 65 = .ok (.ifCond .lt 10, 3) := by decide +kernel
theorem dX10_sync_68 : decode cX10_sync 68 = .ok (.aload_n 0, 1) := by decide +kernel
theorem dX10_sync_69 : decode cX10_sync 69 = .ok (.iload_n 2, 1) := by decide +kernel
theorem dX10_sync_70 : decode cX10_sync 70 = .ok (.iload 4, 2) := by decide +kernel
theorem dX10_sync_72 : decode cX10_sync 72 = .ok (.invokevirtual 135, 3) := by decide +kernel
theorem dX10_sync_75 : decode cX10_sync 75 = .ok (.iinc 4 1, 3) := by decide +kernel
theorem dX10_sync_78 : decode cX10_sync 78 = .ok (.goto (-40), 3) := by decide +kernel
theorem dX10_sync_81 : decode cX10_sync 81 = .ok (.aload_n 0, 1) := by decide +kernel
theorem dX10_sync_82 : decode cX10_sync 82 = .ok (.getfield 44, 3) := by decide +kernel
theorem dX10_sync_85 : decode cX10_sync 85 = .ok (.iload_n 2, 1) := by decide +kernel
theorem dX10_sync_86 : decode cX10_sync 86 = .ok (.iaload, 1) := by decide +kernel
theorem dX10_sync_87 : decode cX10_sync 87 = .ok (.iload_n 3, 1) := by decide +kernel
theorem dX10_sync_88 : decode cX10_sync 88 = .ok (.isub, 1) := by decide +kernel
theorem dX10_sync_89 : decode cX10_sync 89 = .ok (.ireturn, 1) := by decide +kernel
theorem dX10_crash_0 : decode cX10_crash 0 = .ok (.iload_n 1, 1) := by decide +kernel
theorem dX10_crash_1 : decode cX10_crash 1 = .ok (.ifCond .lt 8, 3) := by decide +kernel
theorem dX10_crash_4 : decode cX10_crash 4 = .ok (.iload_n 1, 1) := by decide +kernel
theorem dX10_crash_5 : decode cX10_crash 5 = .ok (.iconst 4, 1) := by decide +kernel
theorem dX10_crash_6 : decode cX10_crash 6 = .ok (.if_icmp .le 5, 3) := by decide +kernel
theorem dX10_crash_9 : decode cX10_crash 9 = .ok (.iconst 0, 1) := by decide +kernel
theorem dX10_crash_10 : decode cX10_crash 10 = .ok (.ireturn, 1) := by decide +kernel
theorem dX10_crash_11 : decode cX10_crash 11 = .ok (.iload_n 1, 1) := by decide +kernel
theorem dX10_crash_12 : decode cX10_crash 12 = .ok (.iconst 2, 1) := by decide +kernel
theorem dX10_crash_13 : decode cX10_crash 13 = .ok (.if_icmp .le 22, 3) := by decide +kernel
theorem dX10_crash_16 : decode cX10_crash 16 = .ok (.aload_n 0, 1) := by decide +kernel
theorem dX10_crash_17 : decode cX10_crash 17 = .ok (.getfield 44, 3) := by decide +kernel
theorem dX10_crash_20 : decode cX10_crash 20 = .ok (.iload_n 1, 1) := by decide +kernel
theorem dX10_crash_21 : decode cX10_crash 21 = .ok (.iconst 3, 1) := by decide +kernel
theorem dX10_crash_22 : decode cX10_crash 22 = .ok (.isub, 1) := by decide +kernel
theorem dX10_crash_23 : decode cX10_crash 23 = .ok (.aload_n 0, 1) := by decide +kernel
theorem dX10_crash_24 : decode cX10_crash 24 = .ok (.getfield 47, 3) := by decide +kernel
theorem dX10_crash_27 : decode cX10_crash 27 = .ok (.iload_n 1, 1) := by decide +kernel
theorem dX10_crash_28 : decode cX10_crash 28 = .ok (.iconst 3, 1) := by decide +kernel
theorem dX10_crash_29 : decode cX10_crash 29 = .ok (.isub, 1) := by decide +kernel
theorem dX10_crash_30 : decode cX10_crash 30 = .ok (.iaload, 1) := by decide +kernel
theorem dX10_crash_31 : decode cX10_crash 31 = .ok (.iastore, 1) := by decide +kernel
theorem dX10_crash_32 : decode cX10_crash 32 = .ok (.goto 68, 3) := by decide +kernel
theorem dX10_crash_35 : decode cX10_crash 35 = .ok (.iload_n 1, 1) := by decide +kernel
theorem dX10_crash_36 : decode cX10_crash 36 = .ok (.iconst 2, 1) := by decide +kernel
theorem dX10_crash_37 : decode cX10_crash 37 = .ok (.if_icmp .ne 14, 3) := by decide +kernel
theorem dX10_crash_40 : decode cX10_crash 40 = .ok (.aload_n 0, 1) := by decide +kernel
theorem dX10_crash_41 : decode cX10_crash 41 = .ok (.aload_n 0, 1) := by decide +kernel
theorem dX10_crash_42 : decode cX10_crash 42 = .ok (.getfield 123, 3) := by decide +kernel
theorem dX10_crash_45 : decode cX10_crash 45 = .ok (.putfield 120, 3) := by decide +kernel
theorem dX10_crash_48 : decode cX10_crash 48 = .ok (.goto 52, 3) := by decide +kernel
theorem dX10_crash_51 : decode cX10_crash 51 = .ok (.aload_n 0, 1) := by decide +kernel
theorem dX10_crash_52 : decode cX10_crash 52 = .ok (.getfield 35, 3) := by decide +kernel
theorem dX10_crash_55 : decode cX10_crash 55 = .ok (.iload_n 1, 1) := by decide +kernel
theorem dX10_crash_56 : decode cX10_crash 56 = .ok (.bipush 7, 2) := by decide +kernel
theorem dX10_crash_58 : decode cX10_crash 58 = .ok (.iastore, 1) := by decide +kernel
theorem dX10_crash_59 : decode cX10_crash 59 = .ok (.iconst 4, 1) := by decide +kernel
theorem dX10_crash_60 : decode cX10_crash 60 = .ok (.iload_n 1, 1) := by decide +kernel
theorem dX10_crash_61 : decode cX10_crash 61 = .ok (.imul, 1) := by decide +kernel
theorem dX10_crash_62 : decode cX10_crash 62 = .ok (.istore_n 2, 1) := by decide +kernel
theorem dX10_crash_63 : decode cX10_crash 63 = .ok (.iload_n 2, 1) := by decide +kernel
theorem dX10_crash_64 : decode cX10_crash 64 = .ok (.iconst 4, 1) := by decide +kernel
theorem dX10_crash_65 : decode cX10_crash 65 = .ok (.iload_n 1, 1) := by decide +kernel
theorem dX10_crash_66 : decode cX10_crash 66 = .ok (.imul, 1) := by decide +kernel
theorem dX10_crash_67 : decode cX10_crash 67 = .ok (.iconst 4, 1) := by decide +kernel
theorem dX10_crash_68 : decode cX10_crash 68 = .ok (.iadd, 1) := by decide +kernel
theorem dX10_crash_69 : decode cX10_crash 69 = .ok (.if_icmp .ge 31, 3) := by decide +kernel
theorem dX10_crash_72 : decode cX10_crash 72 = .ok (.aload_n 0, 1) := by decide +kernel
theorem dX10_crash_73 : decode cX10_crash 73 = .ok (.getfield 32, 3) := by decide +kernel
theorem dX10_crash_76 : decode cX10_crash 76 = .ok (.bipush 10, 2) := by decide +kernel
theorem dX10_crash_78 : decode cX10_crash 78 = .ok (.iload_n 2, 1) := by decide +kernel
theorem dX10_crash_79 : decode cX10_crash 79 = .ok (.imul, 1) := by decide +kernel
theorem dX10_crash_80 : decode cX10_crash 80 = .ok (.iconst 0, 1) := by decide +kernel
theorem dX10_crash_81 : decode cX10_crash 81 = .ok (.iastore, 1) := by decide +kernel
theorem dX10_crash_82 : decode cX10_crash 82 = .ok (.aload_n 0, 1) := by decide +kernel
theorem dX10_crash_83 : decode cX10_crash 83 = .ok (.getfield 32, 3) := by decide +kernel
theorem dX10_crash_86 : decode cX10_crash 86 = .ok (.bipush 10, 2) := by decide +kernel
theorem dX10_crash_88 : decode cX10_crash 88 = .ok (.iload_n 2, 1) := by decide +kernel
theorem dX10_crash_89 : decode cX10_crash 89 = .ok (.imul, 1) := by decide +kernel
theorem dX10_crash_90 : decode cX10_crash 90 = .ok (.iconst 1, 1) := by decide +kernel
theorem dX10_crash_91 : decode cX10_crash 91 = .ok (.iadd, 1) := by decide +kernel
theorem dX10_crash_92 : decode cX10_crash 92 = .ok (.iconst 0, 1) := by decide +kernel
theorem dX10_crash_93 : decode cX10_crash 93 = .ok (.iastore, 1) := by decide +kernel
theorem dX10_crash_94 : decode cX10_crash 94 = .ok (.iinc 2 1, 3) := by decide +kernel
theorem dX10_crash_97 : decode cX10_crash 97 = .ok (.goto (-34), 3) := by decide +kernel
theorem dX10_crash_100 : decode cX10_crash 100 = .ok (.iconst 1, 1) := by decide +kernel
theorem dX10_crash_101 : decode cX10_crash 101 = .ok (.ireturn, 1) := by decide +kernel
theorem dX10_evict_0 : decode cX10_evict 0 = .ok (.iload_n 1, 1) := by decide +kernel
theorem dX10_evict_1 : decode cX10_evict 1 = .ok (.iconst 3, 1) := by decide +kernel
theorem dX10_evict_2 : decode cX10_evict 2 = .ok (.if_icmp .lt 30, 3) := by decide +kernel
theorem dX10_evict_5 : decode cX10_evict 5 = .ok (.iload_n 1, 1) := by decide +kernel
theorem dX10_evict_6 : decode cX10_evict 6 = .ok (.iconst 4, 1) := by decide +kernel
theorem dX10_evict_7 : decode cX10_evict 7 = .ok (.if_icmp .gt 25, 3) := by decide +kernel
theorem dX10_evict_10 : decode cX10_evict 10 = .ok (.iload_n 2, 1) := by decide +kernel
theorem dX10_evict_11 : decode cX10_evict 11 = .ok (.ifCond .lt 21, 3) := by decide +kernel
theorem dX10_evict_14 : decode cX10_evict 14 = .ok (.iload_n 2, 1) := by decide +kernel
theorem dX10_evict_15 : decode cX10_evict 15 = .ok (.iconst 5, 1) := by decide +kernel
theorem dX10_evict_16 : decode cX10_evict 16 = .ok (.if_icmp .gt 16, 3) := by decide +kernel
theorem dX10_evict_19 : decode cX10_evict 19 = .ok (.aload_n 0, 1) := by decide +kernel
theorem dX10_evict_20 : decode cX10_evict 20 = .ok (.getfield 44, 3) := by decide +kernel
theorem dX10_evict_23 : decode cX10_evict 23 = .ok (.iload_n 1, 1) := by decide +kernel
theorem dX10_evict_24 : decode cX10_evict 24 = .ok (.iconst 3, 1) := by decide +kernel
theorem dX10_evict_25 : decode cX10_evict 25 = .ok (.isub, 1) := by decide +kernel
theorem dX10_evict_26 : decode cX10_evict 26 = .ok (.iaload, 1) := by decide +kernel
theorem dX10_evict_27 : decode cX10_evict 27 = .ok (.bipush 40, 2) := by decide +kernel
theorem dX10_evict_29 : decode cX10_evict 29 = .ok (.if_icmp .ne 5, 3) := by decide +kernel
theorem dX10_evict_32 : decode cX10_evict 32 = .ok (.iconst 0, 1) := by decide +kernel
theorem dX10_evict_33 : decode cX10_evict 33 = .ok (.ireturn, 1) := by decide +kernel
theorem dX10_evict_34 : decode cX10_evict 34 = .ok (.iload_n 1, 1) := by decide +kernel
theorem dX10_evict_35 : decode cX10_evict 35 = .ok (.iconst 3, 1) := by decide +kernel
theorem dX10_evict_36 : decode cX10_evict 36 = .ok (.isub, 1) := by decide +kernel
theorem dX10_evict_37 : decode cX10_evict 37 = .ok (.istore_n 3, 1) := by decide +kernel
theorem dX10_evict_38 : decode cX10_evict 38 = .ok (.aload_n 0, 1) := by decide +kernel
theorem dX10_evict_39 : decode cX10_evict 39 = .ok (.iload_n 3, 1) := by decide +kernel
theorem dX10_evict_40 : decode cX10_evict 40 = .ok (.invokevirtual 139, 3) := by decide +kernel
theorem dX10_evict_43 : decode cX10_evict 43 = .ok (.aload_n 0, 1) := by decide +kernel
theorem dX10_evict_44 : decode cX10_evict 44 = .ok (.getfield 50, 3) := by decide +kernel
theorem dX10_evict_47 : decode cX10_evict 47 = .ok (.iload_n 2, 1) := by decide +kernel
theorem dX10_evict_48 : decode cX10_evict 48 = .ok (.iaload, 1) := by decide +kernel
theorem dX10_evict_49 : decode cX10_evict 49 = .ok (.ifCond .ge 5, 3) := by decide +kernel
theorem dX10_evict_52 : decode cX10_evict 52 = .ok (.iconst 0, 1) := by decide +kernel
theorem dX10_evict_53 : decode cX10_evict 53 = .ok (.ireturn, 1) := by decide +kernel
theorem dX10_evict_54 : decode cX10_evict 54 = .ok (.sipush 400, 3) := by decide +kernel
theorem dX10_evict_57 : decode cX10_evict 57 = .ok (.iload_n 3, 1) := by decide +kernel
theorem dX10_evict_58 : decode cX10_evict 58 = .ok (.imul, 1) := by decide +kernel
theorem dX10_evict_59 : decode cX10_evict 59 = .ok (.bipush 10, 2) := by decide +kernel
theorem dX10_evict_61 : decode cX10_evict 61 = .ok (.aload_n 0, 1) := by decide +kernel
theorem dX10_evict_62 : decode cX10_evict 62 = .ok (.getfield 44, 3) := by decide +kernel
theorem dX10_evict_65 : decode cX10_evict 65 = .ok (.iload_n 3, 1) := by decide +kernel
theorem dX10_evict_66 : decode cX10_evict 66 = .ok (.iaload, 1) := by decide +kernel
theorem dX10_evict_67 : decode cX10_evict 67 = .ok (.imul, 1) := by decide +kernel
theorem dX10_evict_68 : decode cX10_evict 68 = .ok (.iadd, 1) := by decide +kernel
theorem dX10_evict_69 : decode cX10_evict 69 = .ok (.istore 4, 2) := by decide +kernel
theorem dX10_evict_71 : decode cX10_evict 71 = .ok (.aload_n 0, 1) := by decide +kernel
theorem dX10_evict_72 : decode cX10_evict 72 = .ok (.getfield 41, 3) := by decide +kernel
theorem dX10_evict_75 : decode cX10_evict 75 = .ok (.iload 4, 2) := by decide +kernel
theorem dX10_evict_77 : decode cX10_evict 77 = .ok (.iconst (-1), 1) := by decide +kernel
theorem dX10_evict_78 : decode cX10_evict 78 = .ok (.iastore, 1) := by decide +kernel
theorem dX10_evict_79 : decode cX10_evict 79 = .ok (.aload_n 0, 1) := by decide +kernel
theorem dX10_evict_80 : decode cX10_evict 80 = .ok (.getfield 41, 3) := by decide +kernel
theorem dX10_evict_83 : decode cX10_evict 83 = .ok (.iload 4, 2) := by decide +kernel
theorem dX10_evict_85 : decode cX10_evict 85 = .ok (.bipush 7, 2) := by decide +kernel
theorem dX10_evict_87 : decode cX10_evict 87 = .ok (.iadd, 1) := by decide +kernel
theorem dX10_evict_88 : decode cX10_evict 88 = .ok (.iconst 3, 1) := by decide +kernel
theorem dX10_evict_89 : decode cX10_evict 89 = .ok (.iastore, 1) := by decide +kernel
theorem dX10_evict_90 : decode cX10_evict 90 = .ok (.aload_n 0, 1) := by decide +kernel
theorem dX10_evict_91 : decode cX10_evict 91 = .ok (.getfield 41, 3) := by decide +kernel
theorem dX10_evict_94 : decode cX10_evict 94 = .ok (.iload 4, 2) := by decide +kernel
theorem dX10_evict_96 : decode cX10_evict 96 = .ok (.bipush 8, 2) := by decide +kernel
theorem dX10_evict_98 : decode cX10_evict 98 = .ok (.iadd, 1) := by decide +kernel
theorem dX10_evict_99 : decode cX10_evict 99 = .ok (.aload_n 0, 1) := by decide +kernel
theorem dX10_evict_100 : decode cX10_evict 100 = .ok (.getfield 50, 3) := by decide +kernel
theorem dX10_evict_103 : decode cX10_evict 103 = .ok (.iload_n 2, 1) := by decide +kernel
theorem dX10_evict_104 : decode cX10_evict 104 = .ok (.iaload, 1) := by decide +kernel
theorem dX10_evict_105 : decode cX10_evict 105 = .ok (.iastore, 1) := by decide +kernel
theorem dX10_evict_106 : decode cX10_evict 106 = .ok (.aload_n 0, 1) := by decide +kernel
theorem dX10_evict_107 : decode cX10_evict 107 = .ok (.getfield 44, 3) := by decide +kernel
theorem dX10_evict_110 : decode cX10_evict 110 = .ok (.iload_n 3, 1) := by decide +kernel
theorem dX10_evict_111 : decode cX10_evict 111 = .ok (.dup2, 1) := by decide +kernel
theorem dX10_evict_112 : decode cX10_evict 112 = .ok (.iaload, 1) := by decide +kernel
theorem dX10_evict_113 : decode cX10_evict 113 = .ok (.iconst 1, 1) := by decide +kernel
theorem dX10_evict_114 : decode cX10_evict 114 = .ok (.iadd, 1) := by decide +kernel
theorem dX10_evict_115 : decode cX10_evict 115 = .ok (.iastore, 1) := by decide +kernel
theorem dX10_evict_116 : decode cX10_evict 116 = .ok (.iconst 1, 1) := by decide +kernel
theorem dX10_evict_117 : decode cX10_evict 117 = .ok (.ireturn, 1) := by decide +kernel
theorem dX10_holder_0 : decode cX10_holder 0 = .ok (.iload_n 1, 1) := by decide +kernel
theorem dX10_holder_1 : decode cX10_holder 1 = .ok (.iconst 3, 1) := by decide +kernel
theorem dX10_holder_2 : decode cX10_holder 2 = .ok (.if_icmp .lt 17, 3) := by decide +kernel
theorem dX10_holder_5 : decode cX10_holder 5 = .ok (.iload_n 1, 1) := by decide +kernel
theorem dX10_holder_6 : decode cX10_holder 6 = .ok (.iconst 4, 1) := by decide +kernel
theorem dX10_holder_7 : decode cX10_holder 7 = .ok (.if_icmp .gt 12, 3) := by decide +kernel
theorem dX10_holder_10 : decode cX10_holder 10 = .ok (.iload_n 2, 1) := by decide +kernel
theorem dX10_holder_11 : decode cX10_holder 11 = .ok (.ifCond .lt 8, 3) := by decide +kernel
theorem dX10_holder_14 : decode cX10_holder 14 = .ok (.iload_n 2, 1) := by decide +kernel
theorem dX10_holder_15 : decode cX10_holder 15 = .ok (.iconst 5, 1) := by decide +kernel
theorem dX10_holder_16 : decode cX10_holder 16 = .ok (.if_icmp .le 5, 3) := by decide +kernel
theorem dX10_holder_19 : decode cX10_holder 19 = .ok (.iconst (-1), 1) := by decide +kernel
theorem dX10_holder_20 : decode cX10_holder 20 = .ok (.ireturn, 1) := by decide +kernel
theorem dX10_holder_21 : decode cX10_holder 21 = .ok (.aload_n 0, 1) := by decide +kernel
theorem dX10_holder_22 : decode cX10_holder 22 = .ok (.iload_n 1, 1) := by decide +kernel
theorem dX10_holder_23 : decode cX10_holder 23 = .ok (.iconst 3, 1) := by decide +kernel
theorem dX10_holder_24 : decode cX10_holder 24 = .ok (.isub, 1) := by decide +kernel
theorem dX10_holder_25 : decode cX10_holder 25 = .ok (.invokevirtual 139, 3) := by decide +kernel
theorem dX10_holder_28 : decode cX10_holder 28 = .ok (.aload_n 0, 1) := by decide +kernel
theorem dX10_holder_29 : decode cX10_holder 29 = .ok (.getfield 50, 3) := by decide +kernel
theorem dX10_holder_32 : decode cX10_holder 32 = .ok (.iload_n 2, 1) := by decide +kernel
theorem dX10_holder_33 : decode cX10_holder 33 = .ok (.iaload, 1) := by decide +kernel
theorem dX10_holder_34 : decode cX10_holder 34 = .ok (.ifCond .ge 7, 3) := by decide +kernel
theorem dX10_holder_37 : decode cX10_holder 37 = .ok (.iconst (-1), 1) := by decide +kernel
theorem dX10_holder_38 : decode cX10_holder 38 = .ok (.goto 9, 3) := by decide +kernel
theorem dX10_holder_41 : decode cX10_holder 41 = .ok (.aload_n 0, 1) := by decide +kernel
theorem dX10_holder_42 : decode cX10_holder 42 = .ok (.getfield 53, 3) := by decide +kernel
theorem dX10_holder_45 : decode cX10_holder 45 = .ok (.iload_n 2, 1) := by decide +kernel
theorem dX10_holder_46 : decode cX10_holder 46 = .ok (.iaload, 1) := by decide +kernel
theorem dX10_holder_47 : decode cX10_holder 47 = .ok (.ireturn, 1) := by decide +kernel
theorem dX10_journal_0 : decode cX10_journal 0 = .ok (.iload_n 1, 1) := by decide +kernel
theorem dX10_journal_1 : decode cX10_journal 1 = .ok (.iconst 3, 1) := by decide +kernel
theorem dX10_journal_2 : decode cX10_journal 2 = .ok (.if_icmp .lt 17, 3) := by decide +kernel
theorem dX10_journal_5 : decode cX10_journal 5 = .ok (.iload_n 1, 1) := by decide +kernel
theorem dX10_journal_6 : decode cX10_journal 6 = .ok (.iconst 4, 1) := by decide +kernel
theorem dX10_journal_7 : decode cX10_journal 7 = .ok (.if_icmp .gt 12, 3) := by decide +kernel
theorem dX10_journal_10 : decode cX10_journal 10 = .ok (.iload_n 2, 1) := by decide +kernel
theorem dX10_journal_11 : decode cX10_journal 11 = .ok (.ifCond .lt 8, 3) := by decide +kernel
theorem dX10_journal_14 : decode cX10_journal 14 = .ok (.iload_n 2, 1) := by decide +kernel
theorem dX10_journal_15 : decode cX10_journal 15 = .ok (.iconst 2, 1) := by decide +kernel
theorem dX10_journal_16 : decode cX10_journal 16 = .ok (.if_icmp .le 5, 3) := by decide +kernel
theorem dX10_journal_19 : decode cX10_journal 19 = .ok (.iconst (-1), 1) := by decide +kernel
theorem dX10_journal_20 : decode cX10_journal 20 = .ok (.ireturn, 1) := by decide +kernel
theorem dX10_journal_21 : decode cX10_journal 21 = .ok (.iload_n 1, 1) := by decide +kernel
theorem dX10_journal_22 : decode cX10_journal 22 = .ok (.iconst 3, 1) := by decide +kernel
theorem dX10_journal_23 : decode cX10_journal 23 = .ok (.isub, 1) := by decide +kernel
theorem dX10_journal_24 : decode cX10_journal 24 = .ok (.istore_n 3, 1) := by decide +kernel
theorem dX10_journal_25 : decode cX10_journal 25 = .ok (.aload_n 0, 1) := by decide +kernel
theorem dX10_journal_26 : decode cX10_journal 26 = .ok (.iload_n 3, 1) := by decide +kernel
theorem dX10_journal_27 : decode cX10_journal 27 = .ok (.invokevirtual 139, 3) := by decide +kernel
theorem dX10_journal_30 : decode cX10_journal 30 = .ok (.iload_n 2, 1) := by decide +kernel
theorem dX10_journal_31 : decode cX10_journal 31 = .ok (.ifCond .ne 12, 3) := by decide +kernel
theorem dX10_journal_34 : decode cX10_journal 34 = .ok (.aload_n 0, 1) := by decide +kernel
theorem dX10_journal_35 : decode cX10_journal 35 = .ok (.getfield 44, 3) := by decide +kernel
theorem dX10_journal_38 : decode cX10_journal 38 = .ok (.iload_n 3, 1) := by decide +kernel
theorem dX10_journal_39 : decode cX10_journal 39 = .ok (.iaload, 1) := by decide +kernel
theorem dX10_journal_40 : decode cX10_journal 40 = .ok (.goto 21, 3) := by decide +kernel
theorem dX10_journal_43 : decode cX10_journal 43 = .ok (.iload_n 2, 1) := by decide +kernel
theorem dX10_journal_44 : decode cX10_journal 44 = .ok (.iconst 1, 1) := by decide +kernel
theorem dX10_journal_45 : decode cX10_journal 45 = .ok (.if_icmp .ne 12, 3) := by decide +kernel
theorem dX10_journal_48 : decode cX10_journal 48 = .ok (.aload_n 0, 1) := by decide +kernel
theorem dX10_journal_49 : decode cX10_journal 49 = .ok (.getfield 47, 3) := by decide +kernel
theorem dX10_journal_52 : decode cX10_journal 52 = .ok (.iload_n 3, 1) := by decide +kernel
theorem dX10_journal_53 : decode cX10_journal 53 = .ok (.iaload, 1) := by decide +kernel
theorem dX10_journal_54 : decode cX10_journal 54 = .ok (.goto 7, 3) := by decide +kernel
theorem dX10_journal_57 : decode cX10_journal 57 = .ok (.aload_n 0, 1) := by decide +kernel
theorem dX10_journal_58 : decode cX10_journal 58 = .ok (.getfield 129, 3) := by decide +kernel
theorem dX10_journal_61 : decode cX10_journal 61 = .ok (.ireturn, 1) := by decide +kernel
