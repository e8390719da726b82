theorem dX0_init_0 : decode cX0_init 0 = .ok (.aload_n 0, 1) := by decide +kernel
theorem dX0_init_1 : decode cX0_init 1 = .ok (.invokespecial 1, 3) := by decide +kernel
theorem dX0_init_4 : decode cX0_init 4 = .ok (.aload_n 0, 1) := by decide +kernel
theorem dX0_init_5 : decode cX0_init 5 = .ok (.new 7, 3) := by decide +kernel
theorem dX0_init_8 : decode cX0_init 8 = .ok (.dup, 1) := by decide +kernel
theorem dX0_init_9 : decode cX0_init 9 = .ok (.invokespecial 9, 3) := by decide +kernel
theorem dX0_init_12 : decode cX0_init 12 = .ok (.putfield 10, 3) := by decide +kernel
theorem dX0_init_15 : decode cX0_init 15 = .ok (.aload_n 0, 1) := by decide +kernel
theorem dX0_init_16 : decode cX0_init 16 = .ok (.iconst 2, 1) := by decide +kernel
theorem dX0_init_17 : decode cX0_init 17 = .ok (.anewarray 16, 3) := by decide +kernel
theorem dX0_init_20 : decode cX0_init 20 = .ok (.putfield 18, 3) := by decide +kernel
theorem dX0_init_23 : decode cX0_init 23 = .ok (.iconst 0, 1) := by decide +kernel
theorem dX0_init_24 : decode cX0_init 24 = .ok (.istore_n 1, 1) := by decide +kernel
theorem dX0_init_25 : decode cX0_init 25 = .ok (.iload_n 1, 1) := by decide +kernel
theorem dX0_init_26 : decode cX0_init 26 = .ok (.iconst 2, 1) := by decide +kernel
theorem dX0_init_27 : decode cX0_init 27 = .ok (.if_icmp .ge 23, 3) := by decide +kernel
theorem dX0_init_30 : decode cX0_init 30 = .ok (.aload_n 0, 1) := by decide +kernel
theorem dX0_init_31 : decode cX0_init 31 = .ok (.getfield 18, 3) := by decide +kernel
theorem dX0_init_34 : decode cX0_init 34 = .ok (.iload_n 1, 1) := by decide +kernel
theorem dX0_init_35 : decode cX0_init 35 = .ok (.new 16, 3) := by decide +kernel
theorem dX0_init_38 : decode cX0_init 38 = .ok (.dup, 1) := by decide +kernel
theorem dX0_init_39 : decode cX0_init 39 = .ok (.iload_n 1, 1) := by decide +kernel
theorem dX0_init_40 : decode cX0_init 40 = .ok (.invokespecial 22, 3) := by decide +kernel
theorem dX0_init_43 : decode cX0_init 43 = .ok (.aastore, 1) := by decide +kernel
theorem dX0_init_44 : decode cX0_init 44 = .ok (.iinc 1 1, 3) := by decide +kernel
theorem dX0_init_47 : decode cX0_init 47 = .ok (.goto (-22), 3) := by decide +kernel
theorem dX0_init_50 : decode cX0_init 50 = .ok (.aload_n 0, 1) := by decide +kernel
theorem dX0_init_51 : decode cX0_init 51 = .ok (.new 25, 3) := by decide +kernel
theorem dX0_init_54 : decode cX0_init 54 = .ok (.dup, 1) := by decide +kernel
theorem dX0_init_55 : decode cX0_init 55 = .ok (.invokespecial 27, 3) := by decide +kernel
theorem dX0_init_58 : decode cX0_init 58 = .ok (.putfield 28, 3) := by decide +kernel
theorem dX0_init_61 : decode cX0_init 61 = .ok (.aload_n 0, 1) := by decide +kernel
theorem dX0_init_62 : decode cX0_init 62 = .ok (.iconst 2, 1) := by decide +kernel
theorem dX0_init_63 : decode cX0_init 63 = .ok (.anewarray 32, 3) := by decide +kernel
theorem dX0_init_66 : decode cX0_init 66 = .ok (.putfield 34, 3) := by decide +kernel
theorem dX0_init_69 : decode cX0_init 69 = .ok (.iconst 0, 1) := by decide +kernel
theorem dX0_init_70 : decode cX0_init 70 = .ok (.istore_n 1, 1) := by decide +kernel
theorem dX0_init_71 : decode cX0_init 71 = .ok (.iload_n 1, 1) := by decide +kernel
theorem dX0_init_72 : decode cX0_init 72 = .ok (.iconst 2, 1) := by decide +kernel
theorem dX0_init_73 : decode cX0_init 73 = .ok (.if_icmp .ge 25, 3) := by decide +kernel
theorem dX0_init_76 : decode cX0_init 76 = .ok (.aload_n 0, 1) := by decide +kernel
theorem dX0_init_77 : decode cX0_init 77 = .ok (.getfield 34, 3) := by decide +kernel
theorem dX0_init_80 : decode cX0_init 80 = .ok (.iload_n 1, 1) := by decide +kernel
theorem dX0_init_81 : decode cX0_init 81 = .ok (.new 32, 3) := by decide +kernel
theorem dX0_init_84 : decode cX0_init 84 = .ok (.dup, 1) := by decide +kernel
theorem dX0_init_85 : decode cX0_init 85 = .ok (.iconst 3, 1) := by decide +kernel
theorem dX0_init_86 : decode cX0_init 86 = .ok (.iload_n 1, 1) := by decide +kernel
theorem dX0_init_87 : decode cX0_init 87 = .ok (.iadd, 1) := by decide +kernel
theorem dX0_init_88 : decode cX0_init 88 = .ok (.invokespecial 38, 3) := by decide +kernel
theorem dX0_init_91 : decode cX0_init 91 = .ok (.aastore, 1) := by decide +kernel
theorem dX0_init_92 : decode cX0_init 92 = .ok (.iinc 1 1, 3) := by decide +kernel
theorem dX0_init_95 : decode cX0_init 95 = .ok (.goto (-24), 3) := by decide +kernel
theorem dX0_init_98 : decode cX0_init 98 = .ok (.return_, 1) := by decide +kernel
theorem dX0_key_0 : decode cX0_key 0 = .ok (.iload_n 1, 1) := by decide +kernel
theorem dX0_key_1 : decode cX0_key 1 = .ok (.ifCond .lt 8, 3) := by decide +kernel
theorem dX0_key_4 : decode cX0_key 4 = .ok (.iload_n 1, 1) := by decide +kernel
theorem dX0_key_5 : decode cX0_key 5 = .ok (.iconst 4, 1) := by decide +kernel
theorem dX0_key_6 : decode cX0_key 6 = .ok (.if_icmp .lt 5, 3) := by decide +kernel
theorem dX0_key_9 : decode cX0_key 9 = .ok (.iconst 0, 1) := by decide +kernel
theorem dX0_key_10 : decode cX0_key 10 = .ok (.ireturn, 1) := by decide +kernel
theorem dX0_key_11 : decode cX0_key 11 = .ok (.aload_n 0, 1) := by decide +kernel
theorem dX0_key_12 : decode cX0_key 12 = .ok (.getfield 10, 3) := by decide +kernel
theorem dX0_key_15 : decode cX0_key 15 = .ok (.getfield 39, 3) := by decide +kernel
theorem dX0_key_18 : decode cX0_key 18 = .ok (.iload_n 1, 1) := by decide +kernel
theorem dX0_key_19 : decode cX0_key 19 = .ok (.iload_n 2, 1) := by decide +kernel
theorem dX0_key_20 : decode cX0_key 20 = .ok (.iastore, 1) := by decide +kernel
theorem dX0_key_21 : decode cX0_key 21 = .ok (.aload_n 0, 1) := by decide +kernel
theorem dX0_key_22 : decode cX0_key 22 = .ok (.getfield 10, 3) := by decide +kernel
theorem dX0_key_25 : decode cX0_key 25 = .ok (.getfield 43, 3) := by decide +kernel
theorem dX0_key_28 : decode cX0_key 28 = .ok (.iload_n 1, 1) := by decide +kernel
theorem dX0_key_29 : decode cX0_key 29 = .ok (.iload_n 3, 1) := by decide +kernel
theorem dX0_key_30 : decode cX0_key 30 = .ok (.iastore, 1) := by decide +kernel
theorem dX0_key_31 : decode cX0_key 31 = .ok (.iconst 1, 1) := by decide +kernel
theorem dX0_key_32 : decode cX0_key 32 = .ok (.ireturn, 1) := by decide +kernel
theorem dX0_enrol_0 : decode cX0_enrol 0 = .ok (.iload_n 1, 1) := by decide +kernel
theorem dX0_enrol_1 : decode cX0_enrol 1 = .ok (.invokestatic 46, 3) := by decide +kernel
theorem dX0_enrol_4 : decode cX0_enrol 4 = .ok (.ifCond .eq 13, 3) := by decide +kernel
theorem dX0_enrol_7 : decode cX0_enrol 7 = .ok (.iload_n 3, 1) := by decide +kernel
theorem dX0_enrol_8 : decode cX0_enrol 8 = .ok (.ifCond .lt 9, 3) := by decide +kernel
theorem dX0_enrol_11 : decode cX0_enrol 11 = .ok (.iload_n 3, 1) := by decide +kernel
theorem dX0_enrol_12 : decode cX0_enrol 12 = .ok (.bipush 6, 2) := by decide +kernel
theorem dX0_enrol_14 : decode cX0_enrol 14 = .ok (.if_icmp .le 5, 3) := by decide +kernel
theorem dX0_enrol_17 : decode cX0_enrol 17 = .ok (.iconst 0, 1) := by decide +kernel
theorem dX0_enrol_18 : decode cX0_enrol 18 = .ok (.ireturn, 1) := by decide +kernel
theorem dX0_enrol_19 : decode cX0_enrol 19 = .ok (.aload_n 0, 1) := by decide +kernel
theorem dX0_enrol_20 : decode cX0_enrol 20 = .ok (.iload_n 1, 1) := by decide +kernel
theorem dX0_enrol_21 : decode cX0_enrol 21 = .ok (.invokestatic 50, 3) := by decide +kernel
theorem dX0_enrol_24 : decode cX0_enrol 24 = .ok (.invokevirtual 54, 3) := by decide +kernel
theorem dX0_enrol_27 : decode cX0_enrol 27 = .ok (.astore 4, 2) := by decide +kernel
theorem dX0_enrol_29 : decode cX0_enrol 29 = .ok (.aload 4, 2) := by decide +kernel
theorem dX0_enrol_31 : decode cX0_enrol 31 = .ok (.ifnonnull 5, 3) := by decide +kernel
theorem dX0_enrol_34 : decode cX0_enrol 34 = .ok (.iconst 0, 1) := by decide +kernel
theorem dX0_enrol_35 : decode cX0_enrol 35 = .ok (.ireturn, 1) := by decide +kernel
theorem dX0_enrol_36 : decode cX0_enrol 36 = .ok (.aload 4, 2) := by decide +kernel
theorem dX0_enrol_38 : decode cX0_enrol 38 = .ok (.getfield 58, 3) := by decide +kernel
theorem dX0_enrol_41 : decode cX0_enrol 41 = .ok (.iload_n 1, 1) := by decide +kernel
theorem dX0_enrol_42 : decode cX0_enrol 42 = .ok (.iload_n 2, 1) := by decide +kernel
theorem dX0_enrol_43 : decode cX0_enrol 43 = .ok (.iastore, 1) := by decide +kernel
theorem dX0_enrol_44 : decode cX0_enrol 44 = .ok (.aload 4, 2) := by decide +kernel
theorem dX0_enrol_46 : decode cX0_enrol 46 = .ok (.getfield 61, 3) := by decide +kernel
theorem dX0_enrol_49 : decode cX0_enrol 49 = .ok (.iload_n 1, 1) := by decide +kernel
theorem dX0_enrol_50 : decode cX0_enrol 50 = .ok (.iload_n 3, 1) := by decide +kernel
theorem dX0_enrol_51 : decode cX0_enrol 51 = .ok (.iastore, 1) := by decide +kernel
theorem dX0_enrol_52 : decode cX0_enrol 52 = .ok (.iconst 1, 1) := by decide +kernel
theorem dX0_enrol_53 : decode cX0_enrol 53 = .ok (.ireturn, 1) := by decide +kernel
theorem dX0_login_0 : decode cX0_login 0 = .ok (.aload_n 0, 1) := by decide +kernel
theorem dX0_login_1 : decode cX0_login 1 = .ok (.iload_n 1, 1) := by decide +kernel
theorem dX0_login_2 : decode cX0_login 2 = .ok (.invokevirtual 64, 3) := by decide +kernel
theorem dX0_login_5 : decode cX0_login 5 = .ok (.astore 6, 2) := by decide +kernel
theorem dX0_login_7 : decode cX0_login 7 = .ok (.aload_n 0, 1) := by decide +kernel
theorem dX0_login_8 : decode cX0_login 8 = .ok (.iload_n 1, 1) := by decide +kernel
theorem dX0_login_9 : decode cX0_login 9 = .ok (.iload_n 2, 1) := by decide +kernel
theorem dX0_login_10 : decode cX0_login 10 = .ok (.invokevirtual 68, 3) := by decide +kernel
theorem dX0_login_13 : decode cX0_login 13 = .ok (.astore 7, 2) := by decide +kernel
theorem dX0_login_15 : decode cX0_login 15 = .ok (.aload 6, 2) := by decide +kernel
theorem dX0_login_17 : decode cX0_login 17 = .ok (.ifnull 23, 3) := by decide +kernel
theorem dX0_login_20 : decode cX0_login 20 = .ok (.aload 7, 2) := by decide +kernel
theorem dX0_login_22 : decode cX0_login 22 = .ok (.ifnull 18, 3) := by decide +kernel
theorem dX0_login_25 : decode cX0_login 25 = .ok (.iload_n 3, 1) := by decide +kernel
theorem dX0_login_26 : decode cX0_login 26 = .ok (.invokestatic 46, 3) := by decide +kernel
theorem dX0_login_29 : decode cX0_login 29 = .ok (.ifCond .eq 11, 3) := by decide +kernel
theorem dX0_login_32 : decode cX0_login 32 = .ok (.aload 7, 2) := by decide +kernel
theorem dX0_login_34 : decode cX0_login 34 = .ok (.getfield 72, 3) := by decide +kernel
theorem dX0_login_37 : decode cX0_login 37 = .ok (.ifCond .eq 5, 3) := by decide +kernel
theorem dX0_login_40 : decode cX0_login 40 = .ok (.iconst (-1), 1) := by decide +kernel
theorem dX0_login_41 : decode cX0_login 41 = .ok (.ireturn, 1) := by decide +kernel
theorem dX0_login_42 : decode cX0_login 42 = .ok (.aload 7, 2) := by decide +kernel
theorem dX0_login_44 : decode cX0_login 44 = .ok (.iload_n 3, 1) := by decide +kernel
theorem dX0_login_45 : decode cX0_login 45 = .ok (.putfield 78, 3) := by decide +kernel
theorem dX0_login_48 : decode cX0_login 48 = .ok (.aload 7, 2) := by decide +kernel
theorem dX0_login_50 : decode cX0_login 50 = .ok (.iload 4, 2) := by decide +kernel
theorem dX0_login_52 : decode cX0_login 52 = .ok (.putfield 81, 3) := by decide +kernel
theorem dX0_login_55 : decode cX0_login 55 = .ok (.aload 7, 2) := by decide +kernel
theorem dX0_login_57 : decode cX0_login 57 = .ok (.iconst 0, 1) := by decide +kernel
theorem dX0_login_58 : decode cX0_login 58 = .ok (.putfield 84, 3) := by decide +kernel
theorem dX0_login_61 : decode cX0_login 61 = .ok (.aload 6, 2) := by decide +kernel
theorem dX0_login_63 : decode cX0_login 63 = .ok (.aload 7, 2) := by decide +kernel
theorem dX0_login_65 : decode cX0_login 65 = .ok (.iconst 1, 1) := by decide +kernel
theorem dX0_login_66 : decode cX0_login 66 = .ok (.iload 5, 2) := by decide +kernel
theorem dX0_login_68 : decode cX0_login 68 = .ok (.aload_n 0, 1) := by decide +kernel
theorem dX0_login_69 : decode cX0_login 69 = .ok (.getfield 10, 3) := by decide +kernel
theorem dX0_login_72 : decode cX0_login 72 = .ok (.invokevirtual 87, 3) := by decide +kernel
theorem dX0_login_75 : decode cX0_login 75 = .ok (.ireturn, 1) := by decide +kernel
theorem dX0_logout_0 : decode cX0_logout 0 = .ok (.aload_n 0, 1) := by decide +kernel
theorem dX0_logout_1 : decode cX0_logout 1 = .ok (.iload_n 1, 1) := by decide +kernel
theorem dX0_logout_2 : decode cX0_logout 2 = .ok (.invokevirtual 64, 3) := by decide +kernel
theorem dX0_logout_5 : decode cX0_logout 5 = .ok (.astore 4, 2) := by decide +kernel
theorem dX0_logout_7 : decode cX0_logout 7 = .ok (.aload_n 0, 1) := by decide +kernel
theorem dX0_logout_8 : decode cX0_logout 8 = .ok (.iload_n 1, 1) := by decide +kernel
theorem dX0_logout_9 : decode cX0_logout 9 = .ok (.iload_n 2, 1) := by decide +kernel
theorem dX0_logout_10 : decode cX0_logout 10 = .ok (.invokevirtual 68, 3) := by decide +kernel
theorem dX0_logout_13 : decode cX0_logout 13 = .ok (.astore 5, 2) := by decide +kernel
theorem dX0_logout_15 : decode cX0_logout 15 = .ok (.aload 4, 2) := by decide +kernel
theorem dX0_logout_17 : decode cX0_logout 17 = .ok (.ifnull 17, 3) := by decide +kernel
theorem dX0_logout_20 : decode cX0_logout 20 = .ok (.aload 5, 2) := by decide +kernel
theorem dX0_logout_22 : decode cX0_logout 22 = .ok (.ifnull 12, 3) := by decide +kernel
theorem dX0_logout_25 : decode cX0_logout 25 = .ok (.aload 5, 2) := by decide +kernel
theorem dX0_logout_27 : decode cX0_logout 27 = .ok (.getfield 72, 3) := by decide +kernel
theorem dX0_logout_30 : decode cX0_logout 30 = .ok (.iconst 2, 1) := by decide +kernel
theorem dX0_logout_31 : decode cX0_logout 31 = .ok (.if_icmp .eq 5, 3) := by decide +kernel
theorem dX0_logout_34 : decode cX0_logout 34 = .ok (.iconst (-1), 1) := by decide +kernel
theorem dX0_logout_35 : decode cX0_logout 35 = .ok (.ireturn, 1) := by decide +kernel
theorem dX0_logout_36 : decode cX0_logout 36 = .ok (.aload 4, 2) := by decide +kernel
theorem dX0_logout_38 : decode cX0_logout 38 = .ok (.aload 5, 2) := by decide +kernel
theorem dX0_logout_40 : decode cX0_logout 40 = .ok (.iconst 3, 1) := by decide +kernel
theorem dX0_logout_41 : decode cX0_logout 41 = .ok (.iload_n 3, 1) := by decide +kernel
theorem dX0_logout_42 : decode cX0_logout 42 = .ok (.aload_n 0, 1) := by decide +kernel
theorem dX0_logout_43 : decode cX0_logout 43 = .ok (.getfield 10, 3) := by decide +kernel
theorem dX0_logout_46 : decode cX0_logout 46 = .ok (.invokevirtual 87, 3) := by decide +kernel
theorem dX0_logout_49 : decode cX0_logout 49 = .ok (.ireturn, 1) := by decide +kernel
theorem dX0_deliver_0 : decode cX0_deliver 0 = .ok (.aload_n 0, 1) := by decide +kernel
theorem dX0_deliver_1 : decode cX0_deliver 1 = .ok (.getfield 10, 3) := by decide +kernel
theorem dX0_deliver_4 : decode cX0_deliver 4 = .ok (.iload_n 1, 1) := by decide +kernel
theorem dX0_deliver_5 : decode cX0_deliver 5 = .ok (.invokevirtual 91, 3) := by decide +kernel
theorem dX0_deliver_8 : decode cX0_deliver 8 = .ok (.ifCond .ne 5, 3) := by decide +kernel
theorem dX0_deliver_11 : decode cX0_deliver 11 = .ok (.iconst (-1), 1) := by decide +kernel
theorem dX0_deliver_12 : decode cX0_deliver 12 = .ok (.ireturn, 1) := by decide +kernel
theorem dX0_deliver_13 : decode cX0_deliver 13 = .ok (.aload_n 0, 1) := by decide +kernel
theorem dX0_deliver_14 : decode cX0_deliver 14 = .ok (.getfield 10, 3) := by decide +kernel
theorem dX0_deliver_17 : decode cX0_deliver 17 = .ok (.iload_n 1, 1) := by decide +kernel
theorem dX0_deliver_18 : decode cX0_deliver 18 = .ok (.invokevirtual 94, 3) := by decide +kernel
theorem dX0_deliver_21 : decode cX0_deliver 21 = .ok (.astore_n 2, 1) := by decide +kernel
theorem dX0_deliver_22 : decode cX0_deliver 22 = .ok (.aload_n 2, 1) := by decide +kernel
theorem dX0_deliver_23 : decode cX0_deliver 23 = .ok (.getfield 98, 3) := by decide +kernel
theorem dX0_deliver_26 : decode cX0_deliver 26 = .ok (.bipush 7, 2) := by decide +kernel
theorem dX0_deliver_28 : decode cX0_deliver 28 = .ok (.iaload, 1) := by decide +kernel
theorem dX0_deliver_29 : decode cX0_deliver 29 = .ok (.istore_n 3, 1) := by decide +kernel
theorem dX0_deliver_30 : decode cX0_deliver 30 = .ok (.aload_n 0, 1) := by decide +kernel
theorem dX0_deliver_31 : decode cX0_deliver 31 = .ok (.iload_n 3, 1) := by decide +kernel
theorem dX0_deliver_32 : decode cX0_deliver 32 = .ok (.invokevirtual 64, 3) := by decide +kernel
theorem dX0_deliver_35 : decode cX0_deliver 35 = .ok (.astore 4, 2) := by decide +kernel
theorem dX0_deliver_37 : decode cX0_deliver 37 = .ok (.aload 4, 2) := by decide +kernel
theorem dX0_deliver_39 : decode cX0_deliver 39 = .ok (.ifnull 14, 3) := by decide +kernel
theorem dX0_deliver_42 : decode cX0_deliver 42 = .ok (.aload 4, 2) := by decide +kernel
theorem dX0_deliver_44 : decode cX0_deliver 44 = .ok (.aload_n 2, 1) := by decide +kernel
theorem dX0_deliver_45 : decode cX0_deliver 45 = .ok (.aload_n 0, 1) := by decide +kernel
theorem dX0_deliver_46 : decode cX0_deliver 46 = .ok (.getfield 10, 3) := by decide +kernel
theorem dX0_deliver_49 : decode cX0_deliver 49 = .ok (.invokevirtual 103, 3) := by decide +kernel
theorem dX0_deliver_52 : decode cX0_deliver 52 = .ok (.ireturn, 1) := by decide +kernel
theorem dX0_deliver_53 : decode cX0_deliver 53 = .ok (.aload_n 0, 1) := by decide +kernel
theorem dX0_deliver_54 : decode cX0_deliver 54 = .ok (.iload_n 3, 1) := by decide +kernel
theorem dX0_deliver_55 : decode cX0_deliver 55 = .ok (.invokevirtual 54, 3) := by decide +kernel
theorem dX0_deliver_58 : decode cX0_deliver 58 = .ok (.astore 5, 2) := by decide +kernel
theorem dX0_deliver_60 : decode cX0_deliver 60 = .ok (.aload 5, 2) := by decide +kernel
theorem dX0_deliver_62 : decode cX0_deliver 62 = .ok (.ifnull 14, 3) := by decide +kernel
theorem dX0_deliver_65 : decode cX0_deliver 65 = .ok (.aload 5, 2) := by decide +kernel
theorem dX0_deliver_67 : decode cX0_deliver 67 = .ok (.aload_n 2, 1) := by decide +kernel
theorem dX0_deliver_68 : decode cX0_deliver 68 = .ok (.aload_n 0, 1) := by decide +kernel
theorem dX0_deliver_69 : decode cX0_deliver 69 = .ok (.getfield 10, 3) := by decide +kernel
theorem dX0_deliver_72 : decode cX0_deliver 72 = .ok (.invokevirtual 107, 3) := by decide +kernel
theorem dX0_deliver_75 : decode cX0_deliver 75 = .ok (.ireturn, 1) := by decide +kernel
theorem dX0_deliver_76 : decode cX0_deliver 76 = .ok (.aload_n 0, 1) := by decide +kernel
theorem dX0_deliver_77 : decode cX0_deliver 77 = .ok (.getfield 28, 3) := by decide +kernel
theorem dX0_deliver_80 : decode cX0_deliver 80 = .ok (.aload_n 2, 1) := by decide +kernel
theorem dX0_deliver_81 : decode cX0_deliver 81 = .ok (.aload_n 0, 1) := by decide +kernel
theorem dX0_deliver_82 : decode cX0_deliver 82 = .ok (.getfield 10, 3) := by decide +kernel
theorem dX0_deliver_85 : decode cX0_deliver 85 = .ok (.invokevirtual 108, 3) := by decide +kernel
theorem dX0_deliver_88 : decode cX0_deliver 88 = .ok (.ireturn, 1) := by decide +kernel
theorem dX0_lose_0 : decode cX0_lose 0 = .ok (.aload_n 0, 1) := by decide +kernel
theorem dX0_lose_1 : decode cX0_lose 1 = .ok (.getfield 10, 3) := by decide +kernel
theorem dX0_lose_4 : decode cX0_lose 4 = .ok (.iload_n 1, 1) := by decide +kernel
theorem dX0_lose_5 : decode cX0_lose 5 = .ok (.invokevirtual 91, 3) := by decide +kernel
theorem dX0_lose_8 : decode cX0_lose 8 = .ok (.ifCond .ne 5, 3) := by decide +kernel
theorem dX0_lose_11 : decode cX0_lose 11 = .ok (.iconst 0, 1) := by decide +kernel
theorem dX0_lose_12 : decode cX0_lose 12 = .ok (.ireturn, 1) := by decide +kernel
theorem dX0_lose_13 : decode cX0_lose 13 = .ok (.aload_n 0, 1) := by decide +kernel
theorem dX0_lose_14 : decode cX0_lose 14 = .ok (.getfield 10, 3) := by decide +kernel
theorem dX0_lose_17 : decode cX0_lose 17 = .ok (.iload_n 1, 1) := by decide +kernel
theorem dX0_lose_18 : decode cX0_lose 18 = .ok (.invokevirtual 94, 3) := by decide +kernel
theorem dX0_lose_21 : decode cX0_lose 21 = .ok (.pop, 1) := by decide +kernel
theorem dX0_lose_22 : decode cX0_lose 22 = .ok (.iconst 1, 1) := by decide +kernel
theorem dX0_lose_23 : decode cX0_lose 23 = .ok (.ireturn, 1) := by decide +kernel
theorem dX0_copy_0 : decode cX0_copy 0 = .ok (.aload_n 0, 1) := by decide +kernel
theorem dX0_copy_1 : decode cX0_copy 1 = .ok (.getfield 10, 3) := by decide +kernel
theorem dX0_copy_4 : decode cX0_copy 4 = .ok (.iload_n 1, 1) := by decide +kernel
theorem dX0_copy_5 : decode cX0_copy 5 = .ok (.invokevirtual 91, 3) := by decide +kernel
theorem dX0_copy_8 : decode cX0_copy 8 = .ok (.ifCond .eq 13, 3) := by decide +kernel
theorem dX0_copy_11 : decode cX0_copy 11 = .ok (.aload_n 0, 1) := by decide +kernel
theorem dX0_copy_12 : decode cX0_copy 12 = .ok (.getfield 10, 3) := by decide +kernel
theorem dX0_copy_15 : decode cX0_copy 15 = .ok (.invokevirtual 109, 3) := by decide +kernel
theorem dX0_copy_18 : decode cX0_copy 18 = .ok (.ifCond .eq 5, 3) := by decide +kernel
theorem dX0_copy_21 : decode cX0_copy 21 = .ok (.iconst 0, 1) := by decide +kernel
theorem dX0_copy_22 : decode cX0_copy 22 = .ok (.ireturn, 1) := by decide +kernel
theorem dX0_copy_23 : decode cX0_copy 23 = .ok (.aload_n 0, 1) := by decide +kernel
theorem dX0_copy_24 : decode cX0_copy 24 = .ok (.getfield 10, 3) := by decide +kernel
theorem dX0_copy_27 : decode cX0_copy 27 = .ok (.iload_n 1, 1) := by decide +kernel
theorem dX0_copy_28 : decode cX0_copy 28 = .ok (.invokevirtual 113, 3) := by decide +kernel
theorem dX0_copy_31 : decode cX0_copy 31 = .ok (.iconst 1, 1) := by decide +kernel
theorem dX0_copy_32 : decode cX0_copy 32 = .ok (.ireturn, 1) := by decide +kernel
theorem dX0_forge_0 : decode cX0_forge 0 = .ok (.aload_n 0, 1) := by decide +kernel
theorem dX0_forge_1 : decode cX0_forge 1 = .ok (.getfield 10, 3) := by decide +kernel
theorem dX0_forge_4 : decode cX0_forge 4 = .ok (.iload_n 1, 1) := by decide +kernel
theorem dX0_forge_5 : decode cX0_forge 5 = .ok (.invokevirtual 91, 3) := by decide +kernel
theorem dX0_forge_8 : decode cX0_forge 8 = .ok (.ifCond .eq 13, 3) := by decide +kernel
theorem dX0_forge_11 : decode cX0_forge 11 = .ok (.iload_n 2, 1) := by decide +kernel
theorem dX0_forge_12 : decode cX0_forge 12 = .ok (.ifCond .lt 9, 3) := by decide +kernel
theorem dX0_forge_15 : decode cX0_forge 15 = .ok (.iload_n 2, 1) := by decide +kernel
theorem dX0_forge_16 : decode cX0_forge 16 = .ok (.bipush 6, 2) := by decide +kernel
theorem dX0_forge_18 : decode cX0_forge 18 = .ok (.if_icmp .lt 5, 3) := by decide +kernel
theorem dX0_forge_21 : decode cX0_forge 21 = .ok (.iconst 0, 1) := by decide +kernel
theorem dX0_forge_22 : decode cX0_forge 22 = .ok (.ireturn, 1) := by decide +kernel
theorem dX0_forge_23 : decode cX0_forge 23 = .ok (.aload_n 0, 1) := by decide +kernel
theorem dX0_forge_24 : decode cX0_forge 24 = .ok (.getfield 10, 3) := by decide +kernel
theorem dX0_forge_27 : decode cX0_forge 27 = .ok (.getfield 116, 3) := by decide +kernel
theorem dX0_forge_30 : decode cX0_forge 30 = .ok (.iload_n 1, 1) := by decide +kernel
theorem dX0_forge_31 : decode cX0_forge 31 = .ok (.aaload, 1) := by decide +kernel
theorem dX0_forge_32 : decode cX0_forge 32 = .ok (.getfield 98, 3) := by decide +kernel
theorem dX0_forge_35 : decode cX0_forge 35 = .ok (.iload_n 2, 1) := by decide +kernel
theorem dX0_forge_36 : decode cX0_forge 36 = .ok (.dup2, 1) := by decide +kernel
theorem dX0_forge_37 : decode cX0_forge 37 = .ok (.iaload, 1) := by decide +kernel
theorem dX0_forge_38 : decode cX0_forge 38 = .ok (.iload_n 3, 1) := by decide +kernel
theorem dX0_forge_39 : decode cX0_forge 39 = .ok (.iadd, 1) := by decide +kernel
theorem dX0_forge_40 : decode cX0_forge 40 = .ok (.iastore, 1) := by decide +kernel
theorem dX0_forge_41 : decode cX0_forge 41 = .ok (.iconst 1, 1) := by decide +kernel
theorem dX0_forge_42 : decode cX0_forge 42 = .ok (.ireturn, 1) := by decide +kernel
theorem dX0_tick_0 : decode cX0_tick 0 = .ok (.iload_n 1, 1) := by decide +kernel
theorem dX0_tick_1 : decode cX0_tick 1 = .ok (.iconst 1, 1) := by decide +kernel
theorem dX0_tick_2 : decode cX0_tick 2 = .ok (.if_icmp .lt 9, 3) := by decide +kernel
theorem dX0_tick_5 : decode cX0_tick 5 = .ok (.iload_n 1, 1) := by decide +kernel
theorem dX0_tick_6 : decode cX0_tick 6 = .ok (.bipush 10, 2) := by decide +kernel
theorem dX0_tick_8 : decode cX0_tick 8 = .ok (.if_icmp .le 5, 3) := by decide +kernel
theorem dX0_tick_11 : decode cX0_tick 11 = .ok (.iconst (-1), 1) := by decide +kernel
theorem dX0_tick_12 : decode cX0_tick 12 = .ok (.ireturn, 1) := by decide +kernel
theorem dX0_tick_13 : decode cX0_tick 13 = .ok (.iconst 0, 1) := by decide +kernel
theorem dX0_tick_14 : decode cX0_tick 14 = .ok (.istore_n 2, 1) := by decide +kernel
theorem dX0_tick_15 : decode cX0_tick 15 = .ok (.iconst 0, 1) := by decide +kernel
theorem dX0_tick_16 : decode cX0_tick 16 = .ok (.istore_n 3, 1) := by decide +kernel
theorem dX0_tick_17 : decode cX0_tick 17 = .ok (.iload_n 3, 1) := by decide +kernel
theorem dX0_tick_18 : decode cX0_tick 18 = .ok (.iload_n 1, 1) := by decide +kernel
theorem dX0_tick_19 : decode cX0_tick 19 = .ok (.if_icmp .ge 54, 3) := by decide +kernel
theorem dX0_tick_22 : decode cX0_tick 22 = .ok (.aload_n 0, 1) := by decide +kernel
theorem dX0_tick_23 : decode cX0_tick 23 = .ok (.getfield 10, 3) := by decide +kernel
theorem dX0_tick_26 : decode cX0_tick 26 = .ok (.dup, 1) := by decide +kernel
theorem dX0_tick_27 : decode cX0_tick 27 = .ok (.getfield 120, 3) := by decide +kernel
theorem dX0_tick_30 : decode cX0_tick 30 = .ok (.iconst 1, 1) := by decide +kernel
theorem dX0_tick_31 : decode cX0_tick 31 = .ok (.iadd, 1) := by decide +kernel
theorem dX0_tick_32 : decode cX0_tick 32 = .ok (.putfield 120, 3) := by decide +kernel
theorem dX0_tick_35 : decode cX0_tick 35 = .ok (.iconst 0, 1) := by decide +kernel
theorem dX0_tick_36 : decode cX0_tick 36 = .ok (.istore 4, 2) := by decide +kernel
theorem dX0_tick_38 : decode cX0_tick 38 = .ok (.iload 4, 2) := by decide +kernel
theorem dX0_tick_40 : decode cX0_tick 40 = .ok (.iconst 2, 1) := by decide +kernel
theorem dX0_tick_41 : decode cX0_tick 41 = .ok (.if_icmp .ge 26, 3) := by decide +kernel
theorem dX0_tick_44 : decode cX0_tick 44 = .ok (.iload_n 2, 1) := by decide +kernel
theorem dX0_tick_45 : decode cX0_tick 45 = .ok (.aload_n 0, 1) := by decide +kernel
theorem dX0_tick_46 : decode cX0_tick 46 = .ok (.getfield 18, 3) := by decide +kernel
theorem dX0_tick_49 : decode cX0_tick 49 = .ok (.iload 4, 2) := by decide +kernel
theorem dX0_tick_51 : decode cX0_tick 51 = .ok (.aaload, 1) := by decide +kernel
theorem dX0_tick_52 : decode cX0_tick 52 = .ok (.aload_n 0, 1) := by decide +kernel
theorem dX0_tick_53 : decode cX0_tick 53 = .ok (.getfield 10, 3) := by decide +kernel
theorem dX0_tick_56 : decode cX0_tick 56 = .ok (.invokevirtual 123, 3) := by decide +kernel
theorem dX0_tick_59 : decode cX0_tick 59 = .ok (.iadd, 1) := by decide +kernel
theorem dX0_tick_60 : decode cX0_tick 60 = .ok (.istore_n 2, 1) := by decide +kernel
theorem dX0_tick_61 : decode cX0_tick 61 = .ok (.iinc 4 1, 3) := by decide +kernel
theorem dX0_tick_64 : decode cX0_tick 64 = .ok (.goto (-26), 3) := by decide +kernel
theorem dX0_tick_67 : decode cX0_tick 67 = .ok (.iinc 3 1, 3) := by decide +kernel
theorem dX0_tick_70 : decode cX0_tick 70 = .ok (.goto (-53), 3) := by decide +kernel
theorem dX0_tick_73 : decode cX0_tick 73 = .ok (.iload_n 2, 1) := by decide +kernel
theorem dX0_tick_74 : decode cX0_tick 74 = .ok (.ireturn, 1) := by decide +kernel
theorem dX0_sync_0 : decode cX0_sync 0 = .ok (.aload_n 0, 1) := by decide +kernel
theorem dX0_sync_1 : decode cX0_sync 1 = .ok (.iload_n 1, 1) := by decide +kernel
theorem dX0_sync_2 : decode cX0_sync 2 = .ok (.invokevirtual 54, 3) := by decide +kernel
theorem dX0_sync_5 : decode cX0_sync 5 = .ok (.astore_n 2, 1) := by decide +kernel
theorem dX0_sync_6 : decode cX0_sync 6 = .ok (.aload_n 2, 1) := by decide +kernel
theorem dX0_sync_7 : decode cX0_sync 7 = .ok (.ifnonnull 7, 3) := by decide +kernel
theorem dX0_sync_10 : decode cX0_sync 10 = .ok (.iconst (-1), 1) := by decide +kernel
theorem dX0_sync_11 : decode cX0_sync 11 = .ok (.goto 11, 3) := by decide +kernel
theorem dX0_sync_14 : decode cX0_sync 14 = .ok (.aload_n 2, 1) := by decide +kernel
theorem dX0_sync_15 : decode cX0_sync 15 = .ok (.aload_n 0, 1) := by decide +kernel
theorem dX0_sync_16 : decode cX0_sync 16 = .ok (.getfield 10, 3) := by decide +kernel
theorem dX0_sync_19 : decode cX0_sync 19 = .ok (.invokevirtual 127, 3) := by decide +kernel
theorem dX0_sync_22 : decode cX0_sync 22 = .ok (.ireturn, 1) := by decide +kernel
theorem dX0_crash_0 : decode cX0_crash 0 = .ok (.aload_n 0, 1) := by decide +kernel
theorem dX0_crash_1 : decode cX0_crash 1 = .ok (.iload_n 1, 1) := by decide +kernel
theorem dX0_crash_2 : decode cX0_crash 2 = .ok (.invokevirtual 64, 3) := by decide +kernel
theorem dX0_crash_5 : decode cX0_crash 5 = .ok (.astore_n 2, 1) := by decide +kernel
theorem dX0_crash_6 : decode cX0_crash 6 = .ok (.aload_n 0, 1) := by decide +kernel
theorem dX0_crash_7 : decode cX0_crash 7 = .ok (.iload_n 1, 1) := by decide +kernel
theorem dX0_crash_8 : decode cX0_crash 8 = .ok (.invokevirtual 54, 3) := by decide +kernel
theorem dX0_crash_11 : decode cX0_crash 11 = .ok (.astore_n 3, 1) := by decide +kernel
theorem dX0_crash_12 : decode cX0_crash 12 = .ok (.aload_n 2, 1) := by decide +kernel
theorem dX0_crash_13 : decode cX0_crash 13 = .ok (.ifnull 10, 3) := by decide +kernel
theorem dX0_crash_16 : decode cX0_crash 16 = .ok (.aload_n 2, 1) := by decide +kernel
theorem dX0_crash_17 : decode cX0_crash 17 = .ok (.invokevirtual 130, 3) := by decide +kernel
theorem dX0_crash_20 : decode cX0_crash 20 = .ok (.goto 31, 3) := by decide +kernel
theorem dX0_crash_23 : decode cX0_crash 23 = .ok (.aload_n 3, 1) := by decide +kernel
theorem dX0_crash_24 : decode cX0_crash 24 = .ok (.ifnull 10, 3) := by decide +kernel
theorem dX0_crash_27 : decode cX0_crash 27 = .ok (.aload_n 3, 1) := by decide +kernel
theorem dX0_crash_28 : decode cX0_crash 28 = .ok (.invokevirtual 133, 3) := by decide +kernel
theorem dX0_crash_31 : decode cX0_crash 31 = .ok (.goto 20, 3) := by decide +kernel
theorem dX0_crash_34 : decode cX0_crash 34 = .ok (.iload_n 1, 1) := by decide +kernel
theorem dX0_crash_35 : decode cX0_crash 35 = .ok (.iconst 2, 1) := by decide +kernel
theorem dX0_crash_36 : decode cX0_crash 36 = .ok (.if_icmp .ne 13, 3) := by decide +kernel
theorem dX0_crash_39 : decode cX0_crash 39 = .ok (.aload_n 0, 1) := by decide +kernel
theorem dX0_crash_40 : decode cX0_crash 40 = .ok (.getfield 28, 3) := by decide +kernel
theorem dX0_crash_43 : decode cX0_crash 43 = .ok (.invokevirtual 136, 3) := by decide +kernel
theorem dX0_crash_46 : decode cX0_crash 46 = .ok (.goto 5, 3) := by decide +kernel
theorem dX0_crash_49 : decode cX0_crash 49 = .ok (.iconst 0, 1) := by decide +kernel
theorem dX0_crash_50 : decode cX0_crash 50 = .ok (.ireturn, 1) := by decide +kernel
theorem dX0_crash_51 : decode cX0_crash 51 = .ok (.iconst 1, 1) := by decide +kernel
theorem dX0_crash_52 : decode cX0_crash 52 = .ok (.ireturn, 1) := by decide +kernel
theorem dX0_evict_0 : decode cX0_evict 0 = .ok (.aload_n 0, 1) := by decide +kernel
theorem dX0_evict_1 : decode cX0_evict 1 = .ok (.iload_n 1, 1) := by decide +kernel
theorem dX0_evict_2 : decode cX0_evict 2 = .ok (.invokevirtual 54, 3) := by decide +kernel
theorem dX0_evict_5 : decode cX0_evict 5 = .ok (.astore_n 3, 1) := by decide +kernel
theorem dX0_evict_6 : decode cX0_evict 6 = .ok (.aload_n 3, 1) := by decide +kernel
theorem dX0_evict_7 : decode cX0_evict 7 = .ok (.ifnull 15, 3) := by decide +kernel
theorem dX0_evict_10 : decode cX0_evict 10 = .ok (.aload_n 3, 1) := by decide +kernel
theorem dX0_evict_11 : decode cX0_evict 11 = .ok (.iload_n 2, 1) := by decide +kernel
theorem dX0_evict_12 : decode cX0_evict 12 = .ok (.invokevirtual 139, 3) := by decide +kernel
theorem dX0_evict_15 : decode cX0_evict 15 = .ok (.ifCond .eq 7, 3) := by decide +kernel
theorem dX0_evict_18 : decode cX0_evict 18 = .ok (.iconst 1, 1) := by decide +kernel
theorem dX0_evict_19 : decode cX0_evict 19 = .ok (.goto 4, 3) := by decide +kernel
theorem dX0_evict_22 : decode cX0_evict 22 = .ok (.iconst 0, 1) := by decide +kernel
theorem dX0_evict_23 : decode cX0_evict 23 = .ok (.ireturn, 1) := by decide +kernel
theorem dX0_flight_0 : decode cX0_flight 0 = .ok (.aload_n 0, 1) := by decide +kernel
theorem dX0_flight_1 : decode cX0_flight 1 = .ok (.getfield 10, 3) := by decide +kernel
theorem dX0_flight_4 : decode cX0_flight 4 = .ok (.getfield 142, 3) := by decide +kernel
theorem dX0_flight_7 : decode cX0_flight 7 = .ok (.ireturn, 1) := by decide +kernel
theorem dX0_field_0 : decode cX0_field 0 = .ok (.aload_n 0, 1) := by decide +kernel
theorem dX0_field_1 : decode cX0_field 1 = .ok (.getfield 10, 3) := by decide +kernel
theorem dX0_field_4 : decode cX0_field 4 = .ok (.iload_n 1, 1) := by decide +kernel
theorem dX0_field_5 : decode cX0_field 5 = .ok (.invokevirtual 91, 3) := by decide +kernel
theorem dX0_field_8 : decode cX0_field 8 = .ok (.ifCond .eq 13, 3) := by decide +kernel
theorem dX0_field_11 : decode cX0_field 11 = .ok (.iload_n 2, 1) := by decide +kernel
theorem dX0_field_12 : decode cX0_field 12 = .ok (.ifCond .lt 9, 3) := by decide +kernel
theorem dX0_field_15 : decode cX0_field 15 = .ok (.iload_n 2, 1) := by decide +kernel
theorem dX0_field_16 : decode cX0_field 16 = .ok (.bipush 8, 2) := by decide +kernel
theorem dX0_field_18 : decode cX0_field 18 = .ok (.if_icmp .lt 5, 3) := by decide +kernel
theorem dX0_field_21 : decode cX0_field 21 = .ok (.iconst (-1), 1) := by decide +kernel
theorem dX0_field_22 : decode cX0_field 22 = .ok (.ireturn, 1) := by decide +kernel
theorem dX0_field_23 : decode cX0_field 23 = .ok (.aload_n 0, 1) := by decide +kernel
theorem dX0_field_24 : decode cX0_field 24 = .ok (.getfield 10, 3) := by decide +kernel
theorem dX0_field_27 : decode cX0_field 27 = .ok (.getfield 116, 3) := by decide +kernel
theorem dX0_field_30 : decode cX0_field 30 = .ok (.iload_n 1, 1) := by decide +kernel
theorem dX0_field_31 : decode cX0_field 31 = .ok (.aaload, 1) := by decide +kernel
theorem dX0_field_32 : decode cX0_field 32 = .ok (.getfield 98, 3) := by decide +kernel
theorem dX0_field_35 : decode cX0_field 35 = .ok (.iload_n 2, 1) := by decide +kernel
theorem dX0_field_36 : decode cX0_field 36 = .ok (.iaload, 1) := by decide +kernel
theorem dX0_field_37 : decode cX0_field 37 = .ok (.ireturn, 1) := by decide +kernel
theorem dX0_line_0 : decode cX0_line 0 = .ok (.aload_n 0, 1) := by decide +kernel
theorem dX0_line_1 : decode cX0_line 1 = .ok (.iload_n 1, 1) := by decide +kernel
theorem dX0_line_2 : decode cX0_line 2 = .ok (.iload_n 2, 1) := by decide +kernel
theorem dX0_line_3 : decode cX0_line 3 = .ok (.invokevirtual 68, 3) := by decide +kernel
theorem dX0_line_6 : decode cX0_line 6 = .ok (.astore 4, 2) := by decide +kernel
theorem dX0_line_8 : decode cX0_line 8 = .ok (.aload 4, 2) := by decide +kernel
theorem dX0_line_10 : decode cX0_line 10 = .ok (.ifnonnull 7, 3) := by decide +kernel
theorem dX0_line_13 : decode cX0_line 13 = .ok (.iconst (-1), 1) := by decide +kernel
theorem dX0_line_14 : decode cX0_line 14 = .ok (.goto 9, 3) := by decide +kernel
theorem dX0_line_17 : decode cX0_line 17 = .ok (.aload 4, 2) := by decide +kernel
theorem dX0_line_19 : decode cX0_line 19 = .ok (.iload_n 3, 1) := by decide +kernel
theorem dX0_line_20 : decode cX0_line 20 = .ok (.invokevirtual 145, 3) := by decide +kernel
theorem dX0_line_23 : decode cX0_line 23 = .ok (.ireturn, 1) := by decide +kernel
theorem dX0_holder_0 : decode cX0_holder 0 = .ok (.aload_n 0, 1) := by decide +kernel
theorem dX0_holder_1 : decode cX0_holder 1 = .ok (.iload_n 1, 1) := by decide +kernel
theorem dX0_holder_2 : decode cX0_holder 2 = .ok (.invokevirtual 54, 3) := by decide +kernel
theorem dX0_holder_5 : decode cX0_holder 5 = .ok (.astore_n 3, 1) := by decide +kernel
theorem dX0_holder_6 : decode cX0_holder 6 = .ok (.aload_n 3, 1) := by decide +kernel
theorem dX0_holder_7 : decode cX0_holder 7 = .ok (.ifnonnull 7, 3) := by decide +kernel
theorem dX0_holder_10 : decode cX0_holder 10 = .ok (.iconst (-1), 1) := by decide +kernel
theorem dX0_holder_11 : decode cX0_holder 11 = .ok (.goto 11, 3) := by decide +kernel
theorem dX0_holder_14 : decode cX0_holder 14 = .ok (.aload_n 3, 1) := by decide +kernel
theorem dX0_holder_15 : decode cX0_holder 15 = .ok (.getfield 148, 3) := by decide +kernel
theorem dX0_holder_18 : decode cX0_holder 18 = .ok (.iload_n 2, 1) := by decide +kernel
theorem dX0_holder_19 : decode cX0_holder 19 = .ok (.invokevirtual 152, 3) := by decide +kernel
theorem dX0_holder_22 : decode cX0_holder 22 = .ok (.ireturn, 1) := by decide +kernel
theorem dX0_journal_0 : decode cX0_journal 0 = .ok (.aload_n 0, 1) := by decide +kernel
theorem dX0_journal_1 : decode cX0_journal 1 = .ok (.iload_n 1, 1) := by decide +kernel
theorem dX0_journal_2 : decode cX0_journal 2 = .ok (.invokevirtual 54, 3) := by decide +kernel
theorem dX0_journal_5 : decode cX0_journal 5 = .ok (.astore_n 3, 1) := by decide +kernel
theorem dX0_journal_6 : decode cX0_journal 6 = .ok (.aload_n 3, 1) := by decide +kernel
theorem dX0_journal_7 : decode cX0_journal 7 = .ok (.ifnonnull 7, 3) := by decide +kernel
theorem dX0_journal_10 : decode cX0_journal 10 = .ok (.iconst (-1), 1) := by decide +kernel
theorem dX0_journal_11 : decode cX0_journal 11 = .ok (.goto 8, 3) := by decide +kernel
theorem dX0_journal_14 : decode cX0_journal 14 = .ok (.aload_n 3, 1) := by decide +kernel
theorem dX0_journal_15 : decode cX0_journal 15 = .ok (.iload_n 2, 1) := by decide +kernel
theorem dX0_journal_16 : decode cX0_journal 16 = .ok (.invokevirtual 157, 3) := by decide +kernel
theorem dX0_journal_19 : decode cX0_journal 19 = .ok (.ireturn, 1) := by decide +kernel
theorem dX0_pointAt_0 : decode cX0_pointAt 0 = .ok (.iload_n 1, 1) := by decide +kernel
theorem dX0_pointAt_1 : decode cX0_pointAt 1 = .ok (.ifCond .lt 17, 3) := by decide +kernel
theorem dX0_pointAt_4 : decode cX0_pointAt 4 = .ok (.iload_n 1, 1) := by decide +kernel
theorem dX0_pointAt_5 : decode cX0_pointAt 5 = .ok (.iconst 2, 1) := by decide +kernel
theorem dX0_pointAt_6 : decode cX0_pointAt 6 = .ok (.if_icmp .ge 12, 3) := by decide +kernel
theorem dX0_pointAt_9 : decode cX0_pointAt 9 = .ok (.aload_n 0, 1) := by decide +kernel
theorem dX0_pointAt_10 : decode cX0_pointAt 10 = .ok (.getfield 18, 3) := by decide +kernel
theorem dX0_pointAt_13 : decode cX0_pointAt 13 = .ok (.iload_n 1, 1) := by decide +kernel
theorem dX0_pointAt_14 : decode cX0_pointAt 14 = .ok (.aaload, 1) := by decide +kernel
theorem dX0_pointAt_15 : decode cX0_pointAt 15 = .ok (.goto 4, 3) := by decide +kernel
theorem dX0_pointAt_18 : decode cX0_pointAt 18 = .ok (.aconst_null, 1) := by decide +kernel
theorem dX0_pointAt_19 : decode cX0_pointAt 19 = .ok (.areturn, 1) := by decide +kernel
theorem dX0_homeAt_0 : decode cX0_homeAt 0 = .ok (.iload_n 1, 1) := by decide +kernel
theorem dX0_homeAt_1 : decode cX0_homeAt 1 = .ok (.iconst 3, 1) := by decide +kernel
theorem dX0_homeAt_2 : decode cX0_homeAt 2 = .ok (.if_icmp .lt 12, 3) := by decide +kernel
theorem dX0_homeAt_5 : decode cX0_homeAt 5 = .ok (.iload_n 1, 1) := by decide +kernel
theorem dX0_homeAt_6 : decode cX0_homeAt 6 = .ok (.iconst 5, 1) := by decide +kernel
theorem dX0_homeAt_7 : decode cX0_homeAt 7 = .ok (.if_icmp .ge 7, 3) := by decide +kernel
theorem dX0_homeAt_10 : decode cX0_homeAt 10 = .ok (.iconst 1, 1) := by decide +kernel
theorem dX0_homeAt_11 : decode cX0_homeAt 11 = .ok (.goto 4, 3) := by decide +kernel
theorem dX0_homeAt_14 : decode cX0_homeAt 14 = .ok (.iconst 0, 1) := by decide +kernel
theorem dX0_homeAt_15 : decode cX0_homeAt 15 = .ok (.istore_n 2, 1) := by decide +kernel
theorem dX0_homeAt_16 : decode cX0_homeAt 16 = .ok (.iload_n 2, 1) := by decide +kernel
theorem dX0_homeAt_17 : decode cX0_homeAt 17 = .ok (.ifCond .eq 14, 3) := by decide +kernel
theorem dX0_homeAt_20 : decode cX0_homeAt 20 = .ok (.aload_n 0, 1) := by decide +kernel
theorem dX0_homeAt_21 : decode cX0_homeAt 21 = .ok (.getfield 34, 3) := by decide +kernel
theorem dX0_homeAt_24 : decode cX0_homeAt 24 = .ok (.iload_n 1, 1) := by decide +kernel
theorem dX0_homeAt_25 : decode cX0_homeAt 25 = .ok (.iconst 3, 1) := by decide +kernel
theorem dX0_homeAt_26 : decode cX0_homeAt 26 = .ok (.isub, 1) := by decide +kernel
theorem dX0_homeAt_27 : decode cX0_homeAt 27 = .ok (.aaload, 1) := by decide +kernel
theorem dX0_homeAt_28 : decode cX0_homeAt 28 = .ok (.goto 4, 3) := by decide +kernel
theorem dX0_homeAt_31 : decode cX0_homeAt 31 = .ok (.aconst_null, 1) := by decide +kernel
theorem dX0_homeAt_32 : decode cX0_homeAt 32 = .ok (.areturn, 1) := by decide +kernel
theorem dX0_lineAt_0 : decode cX0_lineAt 0 = .ok (.aload_n 0, 1) := by decide +kernel
theorem dX0_lineAt_1 : decode cX0_lineAt 1 = .ok (.iload_n 1, 1) := by decide +kernel
theorem dX0_lineAt_2 : decode cX0_lineAt 2 = .ok (.invokevirtual 64, 3) := by decide +kernel
theorem dX0_lineAt_5 : decode cX0_lineAt 5 = .ok (.astore_n 3, 1) := by decide +kernel
theorem dX0_lineAt_6 : decode cX0_lineAt 6 = .ok (.aload_n 3, 1) := by decide +kernel
theorem dX0_lineAt_7 : decode cX0_lineAt 7 = .ok (.ifnull 12, 3) := by decide +kernel
theorem dX0_lineAt_10 : decode cX0_lineAt 10 = .ok (.iload_n 2, 1) := by decide +kernel
theorem dX0_lineAt_11 : decode cX0_lineAt 11 = .ok (.ifCond .lt 8, 3) := by decide +kernel
theorem dX0_lineAt_14 : decode cX0_lineAt 14 = .ok (.iload_n 2, 1) := by decide +kernel
theorem dX0_lineAt_15 : decode cX0_lineAt 15 = .ok (.iconst 4, 1) := by decide +kernel
theorem dX0_lineAt_16 : decode cX0_lineAt 16 = .ok (.if_icmp .lt 7, 3) := by decide +kernel
theorem dX0_lineAt_19 : decode cX0_lineAt 19 = .ok (.aconst_null, 1) := by decide +kernel
theorem dX0_lineAt_20 : decode cX0_lineAt 20 = .ok (.goto 9, 3) := by decide +kernel
theorem dX0_lineAt_23 : decode cX0_lineAt 23 = .ok (.aload_n 3, 1) := by decide +kernel
theorem dX0_lineAt_24 : decode cX0_lineAt 24 = .ok (.getfield 158, 3) := by decide +kernel
theorem dX0_lineAt_27 : decode cX0_lineAt 27 = .ok (.iload_n 2, 1) := by decide +kernel
theorem dX0_lineAt_28 : decode cX0_lineAt 28 = .ok (.aaload, 1) := by decide +kernel
theorem dX0_lineAt_29 : decode cX0_lineAt 29 = .ok (.areturn, 1) := by decide +kernel
theorem dX0_isUser_0 : decode cX0_isUser 0 = .ok (.iload_n 0, 1) := by decide +kernel
theorem dX0_isUser_1 : decode cX0_isUser 1 = .ok (.ifCond .lt 13, 3) := by decide +kernel
theorem dX0_isUser_4 : decode cX0_isUser 4 = .ok (.iload_n 0, 1) := by decide +kernel
theorem dX0_isUser_5 : decode cX0_isUser 5 = .ok (.bipush 12, 2) := by decide +kernel
theorem dX0_isUser_7 : decode cX0_isUser 7 = .ok (.if_icmp .ge 7, 3) := by decide +kernel
theorem dX0_isUser_10 : decode cX0_isUser 10 = .ok (.iconst 1, 1) := by decide +kernel
theorem dX0_isUser_11 : decode cX0_isUser 11 = .ok (.goto 4, 3) := by decide +kernel
theorem dX0_isUser_14 : decode cX0_isUser 14 = .ok (.iconst 0, 1) := by decide +kernel
theorem dX0_isUser_15 : decode cX0_isUser 15 = .ok (.ireturn, 1) := by decide +kernel
theorem dX0_homeOf_0 : decode cX0_homeOf 0 = .ok (.iconst 3, 1) := by decide +kernel
theorem dX0_homeOf_1 : decode cX0_homeOf 1 = .ok (.iload_n 0, 1) := by decide +kernel
theorem dX0_homeOf_2 : decode cX0_homeOf 2 = .ok (.iconst 1, 1) := by decide +kernel
theorem dX0_homeOf_3 : decode cX0_homeOf 3 = .ok (.iand, 1) := by decide +kernel
theorem dX0_homeOf_4 : decode cX0_homeOf 4 = .ok (.iadd, 1) := by decide +kernel
theorem dX0_homeOf_5 : decode cX0_homeOf 5 = .ok (.ireturn, 1) := by decide +kernel
theorem dX0_isRequest_0 : decode cX0_isRequest 0 = .ok (.iload_n 0, 1) := by decide +kernel
theorem dX0_isRequest_1 : decode cX0_isRequest 1 = .ok (.ifCond .eq 8, 3) := by decide +kernel
theorem dX0_isRequest_4 : decode cX0_isRequest 4 = .ok (.iload_n 0, 1) := by decide +kernel
theorem dX0_isRequest_5 : decode cX0_isRequest 5 = .ok (.iconst 3, 1) := by decide +kernel
theorem dX0_isRequest_6 : decode cX0_isRequest 6 = .ok (.if_icmp .ne 7, 3) := by decide +kernel
theorem dX0_isRequest_9 : decode cX0_isRequest 9 = .ok (.iconst 1, 1) := by decide +kernel
theorem dX0_isRequest_10 : decode cX0_isRequest 10 = .ok (.goto 4, 3) := by decide +kernel
theorem dX0_isRequest_13 : decode cX0_isRequest 13 = .ok (.iconst 0, 1) := by decide +kernel
theorem dX0_isRequest_14 : decode cX0_isRequest 14 = .ok (.ireturn, 1) := by decide +kernel
theorem dX0_isAnswer_0 : decode cX0_isAnswer 0 = .ok (.iload_n 0, 1) := by decide +kernel
theorem dX0_isAnswer_1 : decode cX0_isAnswer 1 = .ok (.iconst 1, 1) := by decide +kernel
theorem dX0_isAnswer_2 : decode cX0_isAnswer 2 = .ok (.if_icmp .eq 13, 3) := by decide +kernel
theorem dX0_isAnswer_5 : decode cX0_isAnswer 5 = .ok (.iload_n 0, 1) := by decide +kernel
theorem dX0_isAnswer_6 : decode cX0_isAnswer 6 = .ok (.iconst 2, 1) := by decide +kernel
theorem dX0_isAnswer_7 : decode cX0_isAnswer 7 = .ok (.if_icmp .eq 8, 3) := by decide +kernel
theorem dX0_isAnswer_10 : decode cX0_isAnswer 10 = .ok (.iload_n 0, 1) := by decide +kernel
theorem dX0_isAnswer_11 : decode cX0_isAnswer 11 = .ok (.iconst 4, 1) := by decide +kernel
theorem dX0_isAnswer_12 : decode cX0_isAnswer 12 = .ok (.if_icmp .ne 7, 3) := by decide +kernel
theorem dX0_isAnswer_15 : decode cX0_isAnswer 15 = .ok (.iconst 1, 1) := by decide +kernel
theorem dX0_isAnswer_16 : decode cX0_isAnswer 16 = .ok (.goto 4, 3) := by decide +kernel
theorem dX0_isAnswer_19 : decode cX0_isAnswer 19 = .ok (.iconst 0, 1) := by decide +kernel
theorem dX0_isAnswer_20 : decode cX0_isAnswer 20 = .ok (.ireturn, 1) := by decide +kernel
theorem dX0_mix_0 : decode cX0_mix 0 = .ok (.bipush 31, 2) := by decide +kernel
theorem dX0_mix_2 : decode cX0_mix 2 = .ok (.iload_n 0, 1) := by decide +kernel
theorem dX0_mix_3 : decode cX0_mix 3 = .ok (.imul, 1) := by decide +kernel
theorem dX0_mix_4 : decode cX0_mix 4 = .ok (.iload_n 1, 1) := by decide +kernel
theorem dX0_mix_5 : decode cX0_mix 5 = .ok (.iadd, 1) := by decide +kernel
theorem dX0_mix_6 : decode cX0_mix 6 = .ok (.iconst 5, 1) := by decide +kernel
theorem dX0_mix_7 : decode cX0_mix 7 = .ok (.iadd, 1) := by decide +kernel
theorem dX0_mix_8 : decode cX0_mix 8 = .ok (.istore_n 2, 1) := by decide +kernel
theorem dX0_mix_9 : decode cX0_mix 9 = .ok (.iload_n 2, 1) := by decide +kernel
theorem dX0_mix_10 : decode cX0_mix 10 = .ok (.iload_n 2, 1) := by decide +kernel
theorem dX0_mix_11 : decode cX0_mix 11 = .ok (.bipush 13, 2) := by decide +kernel
theorem dX0_mix_13 : decode cX0_mix 13 = .ok (.iushr, 1) := by decide +kernel
theorem dX0_mix_14 : decode cX0_mix 14 = .ok (.ixor, 1) := by decide +kernel
theorem dX0_mix_15 : decode cX0_mix 15 = .ok (.istore_n 3, 1) := by decide +kernel
theorem dX0_mix_16 : decode cX0_mix 16 = .ok (.iload_n 3, 1) := by decide +kernel
theorem dX0_mix_17 : decode cX0_mix 17 = .ok (.ldc 162, 2) := by decide +kernel
theorem dX0_mix_19 : decode cX0_mix 19 = .ok (.imul, 1) := by decide +kernel
theorem dX0_mix_20 : decode cX0_mix 20 = .ok (.ireturn, 1) := by decide +kernel
theorem dX1_init_0 : decode cX1_init 0 = .ok (.aload_n 0, 1) := by decide +kernel
theorem dX1_init_1 : decode cX1_init 1 = .ok (.invokespecial 1, 3) := by decide +kernel
theorem dX1_init_4 : decode cX1_init 4 = .ok (.aload_n 0, 1) := by decide +kernel
theorem dX1_init_5 : decode cX1_init 5 = .ok (.bipush 8, 2) := by decide +kernel
theorem dX1_init_7 : decode cX1_init 7 = .ok (.newarray .int, 2) := by decide +kernel
theorem dX1_init_9 : decode cX1_init 9 = .ok (.putfield 9, 3) := by decide +kernel
theorem dX1_init_12 : decode cX1_init 12 = .ok (.return_, 1) := by decide +kernel
theorem dX1_sealFor_0 : decode cX1_sealFor 0 = .ok (.iload_n 1, 1) := by decide +kernel
theorem dX1_sealFor_1 : decode cX1_sealFor 1 = .ok (.aload_n 0, 1) := by decide +kernel
theorem dX1_sealFor_2 : decode cX1_sealFor 2 = .ok (.getfield 9, 3) := by decide +kernel
theorem dX1_sealFor_5 : decode cX1_sealFor 5 = .ok (.iconst 0, 1) := by decide +kernel
theorem dX1_sealFor_6 : decode cX1_sealFor 6 = .ok (.iaload, 1) := by decide +kernel
theorem dX1_sealFor_7 : decode cX1_sealFor 7 = .ok (.invokestatic 13, 3) := by decide +kernel
theorem dX1_sealFor_10 : decode cX1_sealFor 10 = .ok (.istore_n 3, 1) := by decide +kernel
theorem dX1_sealFor_11 : decode cX1_sealFor 11 = .ok (.iload_n 3, 1) := by decide +kernel
theorem dX1_sealFor_12 : decode cX1_sealFor 12 = .ok (.aload_n 0, 1) := by decide +kernel
theorem dX1_sealFor_13 : decode cX1_sealFor 13 = .ok (.getfield 9, 3) := by decide +kernel
theorem dX1_sealFor_16 : decode cX1_sealFor 16 = .ok (.iconst 1, 1) := by decide +kernel
theorem dX1_sealFor_17 : decode cX1_sealFor 17 = .ok (.iaload, 1) := by decide +kernel
theorem dX1_sealFor_18 : decode cX1_sealFor 18 = .ok (.invokestatic 13, 3) := by decide +kernel
theorem dX1_sealFor_21 : decode cX1_sealFor 21 = .ok (.istore_n 3, 1) := by decide +kernel
theorem dX1_sealFor_22 : decode cX1_sealFor 22 = .ok (.iload_n 3, 1) := by decide +kernel
theorem dX1_sealFor_23 : decode cX1_sealFor 23 = .ok (.iload_n 2, 1) := by decide +kernel
theorem dX1_sealFor_24 : decode cX1_sealFor 24 = .ok (.invokestatic 13, 3) := by decide +kernel
theorem dX1_sealFor_27 : decode cX1_sealFor 27 = .ok (.istore_n 3, 1) := by decide +kernel
theorem dX1_sealFor_28 : decode cX1_sealFor 28 = .ok (.iload_n 3, 1) := by decide +kernel
theorem dX1_sealFor_29 : decode cX1_sealFor 29 = .ok (.aload_n 0, 1) := by decide +kernel
theorem dX1_sealFor_30 : decode cX1_sealFor 30 = .ok (.getfield 9, 3) := by decide +kernel
theorem dX1_sealFor_33 : decode cX1_sealFor 33 = .ok (.iconst 3, 1) := by decide +kernel
theorem dX1_sealFor_34 : decode cX1_sealFor 34 = .ok (.iaload, 1) := by decide +kernel
theorem dX1_sealFor_35 : decode cX1_sealFor 35 = .ok (.invokestatic 13, 3) := by decide +kernel
theorem dX1_sealFor_38 : decode cX1_sealFor 38 = .ok (.istore_n 3, 1) := by decide +kernel
theorem dX1_sealFor_39 : decode cX1_sealFor 39 = .ok (.iload_n 3, 1) := by decide +kernel
theorem dX1_sealFor_40 : decode cX1_sealFor 40 = .ok (.aload_n 0, 1) := by decide +kernel
theorem dX1_sealFor_41 : decode cX1_sealFor 41 = .ok (.getfield 9, 3) := by decide +kernel
theorem dX1_sealFor_44 : decode cX1_sealFor 44 = .ok (.iconst 4, 1) := by decide +kernel
theorem dX1_sealFor_45 : decode cX1_sealFor 45 = .ok (.iaload, 1) := by decide +kernel
theorem dX1_sealFor_46 : decode cX1_sealFor 46 = .ok (.invokestatic 13, 3) := by decide +kernel
theorem dX1_sealFor_49 : decode cX1_sealFor 49 = .ok (.ireturn, 1) := by decide +kernel
theorem dX2_init_0 : decode cX2_init 0 = .ok (.aload_n 0, 1) := by decide +kernel
theorem dX2_init_1 : decode cX2_init 1 = .ok (.invokespecial 1, 3) := by decide +kernel
theorem dX2_init_4 : decode cX2_init 4 = .ok (.return_, 1) := by decide +kernel
theorem dX3_init_0 : decode cX3_init 0 = .ok (.aload_n 0, 1) := by decide +kernel
theorem dX3_init_1 : decode cX3_init 1 = .ok (.invokespecial 3, 3) := by decide +kernel
theorem dX3_init_4 : decode cX3_init 4 = .ok (.aload_n 0, 1) := by decide +kernel
theorem dX3_init_5 : decode cX3_init 5 = .ok (.bipush 12, 2) := by decide +kernel
theorem dX3_init_7 : decode cX3_init 7 = .ok (.newarray .int, 2) := by decide +kernel
theorem dX3_init_9 : decode cX3_init 9 = .ok (.putfield 9, 3) := by decide +kernel
theorem dX3_init_12 : decode cX3_init 12 = .ok (.aload_n 0, 1) := by decide +kernel
theorem dX3_init_13 : decode cX3_init 13 = .ok (.bipush 12, 2) := by decide +kernel
theorem dX3_init_15 : decode cX3_init 15 = .ok (.newarray .int, 2) := by decide +kernel
theorem dX3_init_17 : decode cX3_init 17 = .ok (.putfield 15, 3) := by decide +kernel
theorem dX3_init_20 : decode cX3_init 20 = .ok (.aload_n 0, 1) := by decide +kernel
theorem dX3_init_21 : decode cX3_init 21 = .ok (.new 18, 3) := by decide +kernel
theorem dX3_init_24 : decode cX3_init 24 = .ok (.dup, 1) := by decide +kernel
theorem dX3_init_25 : decode cX3_init 25 = .ok (.invokespecial 20, 3) := by decide +kernel
theorem dX3_init_28 : decode cX3_init 28 = .ok (.putfield 21, 3) := by decide +kernel
theorem dX3_init_31 : decode cX3_init 31 = .ok (.aload_n 0, 1) := by decide +kernel
theorem dX3_init_32 : decode cX3_init 32 = .ok (.bipush 40, 2) := by decide +kernel
theorem dX3_init_34 : decode cX3_init 34 = .ok (.anewarray 25, 3) := by decide +kernel
theorem dX3_init_37 : decode cX3_init 37 = .ok (.putfield 27, 3) := by decide +kernel
theorem dX3_init_40 : decode cX3_init 40 = .ok (.aload_n 0, 1) := by decide +kernel
theorem dX3_init_41 : decode cX3_init 41 = .ok (.iload_n 1, 1) := by decide +kernel
theorem dX3_init_42 : decode cX3_init 42 = .ok (.putfield 31, 3) := by decide +kernel
theorem dX3_init_45 : decode cX3_init 45 = .ok (.iconst 0, 1) := by decide +kernel
theorem dX3_init_46 : decode cX3_init 46 = .ok (.istore_n 2, 1) := by decide +kernel
theorem dX3_init_47 : decode cX3_init 47 = .ok (.iload_n 2, 1) := by decide +kernel
theorem dX3_init_48 : decode cX3_init 48 = .ok (.bipush 12, 2) := by decide +kernel
theorem dX3_init_50 : decode cX3_init 50 = .ok (.if_icmp .ge 16, 3) := by decide +kernel
theorem dX3_init_53 : decode cX3_init 53 = .ok (.aload_n 0, 1) := by decide +kernel
theorem dX3_init_54 : decode cX3_init 54 = .ok (.getfield 15, 3) := by decide +kernel
theorem dX3_init_57 : decode cX3_init 57 = .ok (.iload_n 2, 1) := by decide +kernel
theorem dX3_init_58 : decode cX3_init 58 = .ok (.iconst (-1), 1) := by decide +kernel
theorem dX3_init_59 : decode cX3_init 59 = .ok (.iastore, 1) := by decide +kernel
theorem dX3_init_60 : decode cX3_init 60 = .ok (.iinc 2 1, 3) := by decide +kernel
theorem dX3_init_63 : decode cX3_init 63 = .ok (.goto (-16), 3) := by decide +kernel
theorem dX3_init_66 : decode cX3_init 66 = .ok (.iconst 0, 1) := by decide +kernel
theorem dX3_init_67 : decode cX3_init 67 = .ok (.istore_n 2, 1) := by decide +kernel
theorem dX3_init_68 : decode cX3_init 68 = .ok (.iload_n 2, 1) := by decide +kernel
theorem dX3_init_69 : decode cX3_init 69 = .ok (.bipush 40, 2) := by decide +kernel
theorem dX3_init_71 : decode cX3_init 71 = .ok (.if_icmp .ge 22, 3) := by decide +kernel
theorem dX3_init_74 : decode cX3_init 74 = .ok (.aload_n 0, 1) := by decide +kernel
theorem dX3_init_75 : decode cX3_init 75 = .ok (.getfield 27, 3) := by decide +kernel
theorem dX3_init_78 : decode cX3_init 78 = .ok (.iload_n 2, 1) := by decide +kernel
theorem dX3_init_79 : decode cX3_init 79 = .ok (.new 25, 3) := by decide +kernel
theorem dX3_init_82 : decode cX3_init 82 = .ok (.dup, 1) := by decide +kernel
theorem dX3_init_83 : decode cX3_init 83 = .ok (.invokespecial 35, 3) := by decide +kernel
theorem dX3_init_86 : decode cX3_init 86 = .ok (.aastore, 1) := by decide +kernel
theorem dX3_init_87 : decode cX3_init 87 = .ok (.iinc 2 1, 3) := by decide +kernel
theorem dX3_init_90 : decode cX3_init 90 = .ok (.goto (-22), 3) := by decide +kernel
theorem dX3_init_93 : decode cX3_init 93 = .ok (.return_, 1) := by decide +kernel
theorem dX3_hear_0 : decode cX3_hear 0 = .ok (.aload_n 1, 1) := by decide +kernel
theorem dX3_hear_1 : decode cX3_hear 1 = .ok (.getfield 36, 3) := by decide +kernel
theorem dX3_hear_4 : decode cX3_hear 4 = .ok (.astore_n 3, 1) := by decide +kernel
theorem dX3_hear_5 : decode cX3_hear 5 = .ok (.aload_n 3, 1) := by decide +kernel
theorem dX3_hear_6 : decode cX3_hear 6 = .ok (.iconst 0, 1) := by decide +kernel
theorem dX3_hear_7 : decode cX3_hear 7 = .ok (.iaload, 1) := by decide +kernel
theorem dX3_hear_8 : decode cX3_hear 8 = .ok (.invokestatic 41, 3) := by decide +kernel
theorem dX3_hear_11 : decode cX3_hear 11 = .ok (.ifCond .eq 14, 3) := by decide +kernel
theorem dX3_hear_14 : decode cX3_hear 14 = .ok (.aload_n 2, 1) := by decide +kernel
theorem dX3_hear_15 : decode cX3_hear 15 = .ok (.aload_n 1, 1) := by decide +kernel
theorem dX3_hear_16 : decode cX3_hear 16 = .ok (.aload_n 3, 1) := by decide +kernel
theorem dX3_hear_17 : decode cX3_hear 17 = .ok (.iconst 2, 1) := by decide +kernel
theorem dX3_hear_18 : decode cX3_hear 18 = .ok (.iaload, 1) := by decide +kernel
theorem dX3_hear_19 : decode cX3_hear 19 = .ok (.invokevirtual 45, 3) := by decide +kernel
theorem dX3_hear_22 : decode cX3_hear 22 = .ok (.ifCond .ne 5, 3) := by decide +kernel
theorem dX3_hear_25 : decode cX3_hear 25 = .ok (.iconst 0, 1) := by decide +kernel
theorem dX3_hear_26 : decode cX3_hear 26 = .ok (.ireturn, 1) := by decide +kernel
theorem dX3_hear_27 : decode cX3_hear 27 = .ok (.aload_n 0, 1) := by decide +kernel
theorem dX3_hear_28 : decode cX3_hear 28 = .ok (.aload_n 3, 1) := by decide +kernel
theorem dX3_hear_29 : decode cX3_hear 29 = .ok (.aload_n 2, 1) := by decide +kernel
theorem dX3_hear_30 : decode cX3_hear 30 = .ok (.getfield 51, 3) := by decide +kernel
theorem dX3_hear_33 : decode cX3_hear 33 = .ok (.invokevirtual 54, 3) := by decide +kernel
theorem dX3_hear_36 : decode cX3_hear 36 = .ok (.istore 4, 2) := by decide +kernel
theorem dX3_hear_38 : decode cX3_hear 38 = .ok (.iload 4, 2) := by decide +kernel
theorem dX3_hear_40 : decode cX3_hear 40 = .ok (.iconst (-1), 1) := by decide +kernel
theorem dX3_hear_41 : decode cX3_hear 41 = .ok (.if_icmp .eq 11, 3) := by decide +kernel
theorem dX3_hear_44 : decode cX3_hear 44 = .ok (.aload_n 0, 1) := by decide +kernel
theorem dX3_hear_45 : decode cX3_hear 45 = .ok (.iload 4, 2) := by decide +kernel
theorem dX3_hear_47 : decode cX3_hear 47 = .ok (.aload_n 2, 1) := by decide +kernel
theorem dX3_hear_48 : decode cX3_hear 48 = .ok (.invokevirtual 58, 3) := by decide +kernel
theorem dX3_hear_51 : decode cX3_hear 51 = .ok (.ireturn, 1) := by decide +kernel
theorem dX3_hear_52 : decode cX3_hear 52 = .ok (.aload_n 0, 1) := by decide +kernel
theorem dX3_hear_53 : decode cX3_hear 53 = .ok (.getfield 62, 3) := by decide +kernel
theorem dX3_hear_56 : decode cX3_hear 56 = .ok (.bipush 40, 2) := by decide +kernel
theorem dX3_hear_58 : decode cX3_hear 58 = .ok (.if_icmp .lt 5, 3) := by decide +kernel
theorem dX3_hear_61 : decode cX3_hear 61 = .ok (.iconst 0, 1) := by decide +kernel
theorem dX3_hear_62 : decode cX3_hear 62 = .ok (.ireturn, 1) := by decide +kernel
theorem dX3_hear_63 : decode cX3_hear 63 = .ok (.aload_n 0, 1) := by decide +kernel
theorem dX3_hear_64 : decode cX3_hear 64 = .ok (.getfield 27, 3) := by decide +kernel
theorem dX3_hear_67 : decode cX3_hear 67 = .ok (.aload_n 0, 1) := by decide +kernel
theorem dX3_hear_68 : decode cX3_hear 68 = .ok (.getfield 62, 3) := by decide +kernel
theorem dX3_hear_71 : decode cX3_hear 71 = .ok (.aaload, 1) := by decide +kernel
theorem dX3_hear_72 : decode cX3_hear 72 = .ok (.astore 5, 2) := by decide +kernel
theorem dX3_hear_74 : decode cX3_hear 74 = .ok (.aload 5, 2) := by decide +kernel
theorem dX3_hear_76 : decode cX3_hear 76 = .ok (.aload_n 3, 1) := by decide +kernel
theorem dX3_hear_77 : decode cX3_hear 77 = .ok (.aload_n 2, 1) := by decide +kernel
theorem dX3_hear_78 : decode cX3_hear 78 = .ok (.getfield 51, 3) := by decide +kernel
theorem dX3_hear_81 : decode cX3_hear 81 = .ok (.invokevirtual 65, 3) := by decide +kernel
theorem dX3_hear_84 : decode cX3_hear 84 = .ok (.aload 5, 2) := by decide +kernel
theorem dX3_hear_86 : decode cX3_hear 86 = .ok (.getfield 69, 3) := by decide +kernel
theorem dX3_hear_89 : decode cX3_hear 89 = .ok (.ifCond .ne 16, 3) := by decide +kernel
theorem dX3_hear_92 : decode cX3_hear 92 = .ok (.aload_n 0, 1) := by decide +kernel
theorem dX3_hear_93 : decode cX3_hear 93 = .ok (.aload 5, 2) := by decide +kernel
theorem dX3_hear_95 : decode cX3_hear 95 = .ok (.aload_n 3, 1) := by decide +kernel
theorem dX3_hear_96 : decode cX3_hear 96 = .ok (.iconst 4, 1) := by decide +kernel
theorem dX3_hear_97 : decode cX3_hear 97 = .ok (.iaload, 1) := by decide +kernel
theorem dX3_hear_98 : decode cX3_hear 98 = .ok (.aload_n 2, 1) := by decide +kernel
theorem dX3_hear_99 : decode cX3_hear 99 = .ok (.invokevirtual 72, 3) := by decide +kernel
theorem dX3_hear_102 : decode cX3_hear 102 = .ok (.goto 15, 3) := by decide +kernel
theorem dX3_hear_105 : decode cX3_hear 105 = .ok (.aload 5, 2) := by decide +kernel
theorem dX3_hear_107 : decode cX3_hear 107 = .ok (.iconst 4, 1) := by decide +kernel
theorem dX3_hear_108 : decode cX3_hear 108 = .ok (.aload_n 3, 1) := by decide +kernel
theorem dX3_hear_109 : decode cX3_hear 109 = .ok (.iconst 3, 1) := by decide +kernel
theorem dX3_hear_110 : decode cX3_hear 110 = .ok (.iaload, 1) := by decide +kernel
theorem dX3_hear_111 : decode cX3_hear 111 = .ok (.aload_n 3, 1) := by decide +kernel
theorem dX3_hear_112 : decode cX3_hear 112 = .ok (.iconst 4, 1) := by decide +kernel
theorem dX3_hear_113 : decode cX3_hear 113 = .ok (.iaload, 1) := by decide +kernel
theorem dX3_hear_114 : decode cX3_hear 114 = .ok (.invokevirtual 76, 3) := by decide +kernel
theorem dX3_hear_117 : decode cX3_hear 117 = .ok (.aload_n 0, 1) := by decide +kernel
theorem dX3_hear_118 : decode cX3_hear 118 = .ok (.invokevirtual 80, 3) := by decide +kernel
theorem dX3_hear_121 : decode cX3_hear 121 = .ok (.iconst 1, 1) := by decide +kernel
theorem dX3_hear_122 : decode cX3_hear 122 = .ok (.ireturn, 1) := by decide +kernel
theorem dX3_latestRecordOf_0 : decode cX3_latestRecordOf 0 = .ok (.aload_n 0, 1) := by decide +kernel
theorem dX3_latestRecordOf_1 : decode cX3_latestRecordOf 1 = .ok (.getfield 62, 3) := by decide +kernel
theorem dX3_latestRecordOf_4 : decode cX3_latestRecordOf 4 = .ok (.iconst 1, 1) := by decide +kernel
theorem dX3_latestRecordOf_5 : decode cX3_latestRecordOf 5 = .ok (.isub, 1) := by decide +kernel
theorem dX3_latestRecordOf_6 : decode cX3_latestRecordOf 6 = .ok (.istore_n 3, 1) := by decide +kernel
theorem dX3_latestRecordOf_7 : decode cX3_latestRecordOf 7 = .ok (.iload_n 3, 1) := by decide +kernel
theorem dX3_latestRecordOf_8 : decode cX3_latestRecordOf 8 = .ok (.ifCond .lt 64, 3) := by decide +kernel
theorem dX3_latestRecordOf_11 : decode cX3_latestRecordOf 11 = .ok (.aload_n 0, 1) := by decide +kernel
theorem dX3_latestRecordOf_12 : decode cX3_latestRecordOf 12 = .ok (.getfield 27, 3) := by decide +kernel
theorem dX3_latestRecordOf_15 : decode cX3_latestRecordOf 15 = .ok (.iload_n 3, 1) := by decide +kernel
theorem dX3_latestRecordOf_16 : decode cX3_latestRecordOf 16 = .ok (.aaload, 1) := by decide +kernel
theorem dX3_latestRecordOf_17 : decode cX3_latestRecordOf 17 = .ok (.astore 4, 2) := by decide +kernel
theorem dX3_latestRecordOf_19 : decode cX3_latestRecordOf 19 = .ok (.aload 4, 2) := by decide +kernel
theorem dX3_latestRecordOf_21 : decode cX3_latestRecordOf 21 = .ok (.getfield 69, 3) := by decide +kernel
theorem dX3_latestRecordOf_24 : decode cX3_latestRecordOf 24 = .ok (.aload_n 1, 1) := by decide +kernel
theorem dX3_latestRecordOf_25 : decode cX3_latestRecordOf 25 = .ok (.iconst 0, 1) := by decide +kernel
theorem dX3_latestRecordOf_26 : decode cX3_latestRecordOf 26 = .ok (.iaload, 1) := by decide +kernel
theorem dX3_latestRecordOf_27 : decode cX3_latestRecordOf 27 = .ok (.if_icmp .ne 39, 3) := by decide +kernel
theorem dX3_latestRecordOf_30 : decode cX3_latestRecordOf 30 = .ok (.aload 4, 2) := by decide +kernel
theorem dX3_latestRecordOf_32 : decode cX3_latestRecordOf 32 = .ok (.getfield 83, 3) := by decide +kernel
theorem dX3_latestRecordOf_35 : decode cX3_latestRecordOf 35 = .ok (.aload_n 1, 1) := by decide +kernel
theorem dX3_latestRecordOf_36 : decode cX3_latestRecordOf 36 = .ok (.iconst 1, 1) := by decide +kernel
theorem dX3_latestRecordOf_37 : decode cX3_latestRecordOf 37 = .ok (.iaload, 1) := by decide +kernel
theorem dX3_latestRecordOf_38 : decode cX3_latestRecordOf 38 = .ok (.if_icmp .ne 28, 3) := by decide +kernel
theorem dX3_latestRecordOf_41 : decode cX3_latestRecordOf 41 = .ok (.aload 4, 2) := by decide +kernel
theorem dX3_latestRecordOf_43 : decode cX3_latestRecordOf 43 = .ok (.getfield 86, 3) := by decide +kernel
theorem dX3_latestRecordOf_46 : decode cX3_latestRecordOf 46 = .ok (.aload_n 1, 1) := by decide +kernel
theorem dX3_latestRecordOf_47 : decode cX3_latestRecordOf 47 = .ok (.iconst 2, 1) := by decide +kernel
theorem dX3_latestRecordOf_48 : decode cX3_latestRecordOf 48 = .ok (.iaload, 1) := by decide +kernel
theorem dX3_latestRecordOf_49 : decode cX3_latestRecordOf 49 = .ok (.if_icmp .ne 17, 3) := by decide +kernel
theorem dX3_latestRecordOf_52 : decode cX3_latestRecordOf 52 = .ok (.iload_n 2, 1) := by decide +kernel
theorem dX3_latestRecordOf_53 : decode cX3_latestRecordOf 53 = .ok (.aload 4, 2) := by decide +kernel
theorem dX3_latestRecordOf_55 : decode cX3_latestRecordOf 55 = .ok (.getfield 89, 3) := by decide +kernel
theorem dX3_latestRecordOf_58 : decode cX3_latestRecordOf 58 = .ok (.isub, 1) := by decide +kernel
theorem dX3_latestRecordOf_59 : decode cX3_latestRecordOf 59 = .ok (.bipush 20, 2) := by decide +kernel
theorem dX3_latestRecordOf_61 : decode cX3_latestRecordOf 61 = .ok (.if_icmp .gt 5, 3) := by decide +kernel
theorem dX3_latestRecordOf_64 : decode cX3_latestRecordOf 64 = .ok (.iload_n 3, 1) := by decide +kernel
theorem dX3_latestRecordOf_65 : decode cX3_latestRecordOf 65 = .ok (.ireturn, 1) := by decide +kernel
theorem dX3_latestRecordOf_66 : decode cX3_latestRecordOf 66 = .ok (.iinc 3 (-1), 3) := by decide +kernel
theorem dX3_latestRecordOf_69 : decode cX3_latestRecordOf 69 = .ok (.goto (-62), 3) := by decide +kernel
theorem dX3_latestRecordOf_72 : decode cX3_latestRecordOf 72 = .ok (.iconst (-1), 1) := by decide +kernel
theorem dX3_latestRecordOf_73 : decode cX3_latestRecordOf 73 = .ok (.ireturn, 1) := by decide +kernel
theorem dX3_hearAgain_0 : decode cX3_hearAgain 0 = .ok (.iload_n 1, 1) := by decide +kernel
theorem dX3_hearAgain_1 : decode cX3_hearAgain 1 = .ok (.aload_n 0, 1) := by decide +kernel
theorem dX3_hearAgain_2 : decode cX3_hearAgain 2 = .ok (.getfield 90, 3) := by decide +kernel
theorem dX3_hearAgain_5 : decode cX3_hearAgain 5 = .ok (.if_icmp .lt 5, 3) := by decide +kernel
theorem dX3_hearAgain_8 : decode cX3_hearAgain 8 = .ok (.iconst 3, 1) := by decide +kernel
theorem dX3_hearAgain_9 : decode cX3_hearAgain 9 = .ok (.ireturn, 1) := by decide +kernel
theorem dX3_hearAgain_10 : decode cX3_hearAgain 10 = .ok (.aload_n 0, 1) := by decide +kernel
theorem dX3_hearAgain_11 : decode cX3_hearAgain 11 = .ok (.aload_n 0, 1) := by decide +kernel
theorem dX3_hearAgain_12 : decode cX3_hearAgain 12 = .ok (.getfield 27, 3) := by decide +kernel
theorem dX3_hearAgain_15 : decode cX3_hearAgain 15 = .ok (.iload_n 1, 1) := by decide +kernel
theorem dX3_hearAgain_16 : decode cX3_hearAgain 16 = .ok (.aaload, 1) := by decide +kernel
theorem dX3_hearAgain_17 : decode cX3_hearAgain 17 = .ok (.aload_n 2, 1) := by decide +kernel
theorem dX3_hearAgain_18 : decode cX3_hearAgain 18 = .ok (.invokevirtual 93, 3) := by decide +kernel
theorem dX3_hearAgain_21 : decode cX3_hearAgain 21 = .ok (.iconst 2, 1) := by decide +kernel
theorem dX3_hearAgain_22 : decode cX3_hearAgain 22 = .ok (.ireturn, 1) := by decide +kernel
theorem dX3_answerAsk_0 : decode cX3_answerAsk 0 = .ok (.iload_n 2, 1) := by decide +kernel
theorem dX3_answerAsk_1 : decode cX3_answerAsk 1 = .ok (.aload_n 3, 1) := by decide +kernel
theorem dX3_answerAsk_2 : decode cX3_answerAsk 2 = .ok (.aload_n 0, 1) := by decide +kernel
theorem dX3_answerAsk_3 : decode cX3_answerAsk 3 = .ok (.getfield 31, 3) := by decide +kernel
theorem dX3_answerAsk_6 : decode cX3_answerAsk 6 = .ok (.iconst 2, 1) := by decide +kernel
theorem dX3_answerAsk_7 : decode cX3_answerAsk 7 = .ok (.invokevirtual 97, 3) := by decide +kernel
theorem dX3_answerAsk_10 : decode cX3_answerAsk 10 = .ok (.aload_n 1, 1) := by decide +kernel
theorem dX3_answerAsk_11 : decode cX3_answerAsk 11 = .ok (.getfield 86, 3) := by decide +kernel
theorem dX3_answerAsk_14 : decode cX3_answerAsk 14 = .ok (.invokestatic 101, 3) := by decide +kernel
theorem dX3_answerAsk_17 : decode cX3_answerAsk 17 = .ok (.ixor, 1) := by decide +kernel
theorem dX3_answerAsk_18 : decode cX3_answerAsk 18 = .ok (.istore 4, 2) := by decide +kernel
theorem dX3_answerAsk_20 : decode cX3_answerAsk 20 = .ok (.aload_n 0, 1) := by decide +kernel
theorem dX3_answerAsk_21 : decode cX3_answerAsk 21 = .ok (.getfield 21, 3) := by decide +kernel
theorem dX3_answerAsk_24 : decode cX3_answerAsk 24 = .ok (.invokevirtual 104, 3) := by decide +kernel
theorem dX3_answerAsk_27 : decode cX3_answerAsk 27 = .ok (.istore 5, 2) := by decide +kernel
theorem dX3_answerAsk_29 : decode cX3_answerAsk 29 = .ok (.aload_n 0, 1) := by decide +kernel
theorem dX3_answerAsk_30 : decode cX3_answerAsk 30 = .ok (.aload_n 1, 1) := by decide +kernel
theorem dX3_answerAsk_31 : decode cX3_answerAsk 31 = .ok (.getfield 108, 3) := by decide +kernel
theorem dX3_answerAsk_34 : decode cX3_answerAsk 34 = .ok (.iload 4, 2) := by decide +kernel
theorem dX3_answerAsk_36 : decode cX3_answerAsk 36 = .ok (.invokevirtual 111, 3) := by decide +kernel
theorem dX3_answerAsk_39 : decode cX3_answerAsk 39 = .ok (.ifCond .ne 13, 3) := by decide +kernel
theorem dX3_answerAsk_42 : decode cX3_answerAsk 42 = .ok (.aload_n 1, 1) := by decide +kernel
theorem dX3_answerAsk_43 : decode cX3_answerAsk 43 = .ok (.iconst 2, 1) := by decide +kernel
theorem dX3_answerAsk_44 : decode cX3_answerAsk 44 = .ok (.iconst 1, 1) := by decide +kernel
theorem dX3_answerAsk_45 : decode cX3_answerAsk 45 = .ok (.iconst 0, 1) := by decide +kernel
theorem dX3_answerAsk_46 : decode cX3_answerAsk 46 = .ok (.invokevirtual 76, 3) := by decide +kernel
theorem dX3_answerAsk_49 : decode cX3_answerAsk 49 = .ok (.goto 63, 3) := by decide +kernel
theorem dX3_answerAsk_52 : decode cX3_answerAsk 52 = .ok (.aload_n 0, 1) := by decide +kernel
theorem dX3_answerAsk_53 : decode cX3_answerAsk 53 = .ok (.getfield 21, 3) := by decide +kernel
theorem dX3_answerAsk_56 : decode cX3_answerAsk 56 = .ok (.aload_n 1, 1) := by decide +kernel
theorem dX3_answerAsk_57 : decode cX3_answerAsk 57 = .ok (.getfield 108, 3) := by decide +kernel
theorem dX3_answerAsk_60 : decode cX3_answerAsk 60 = .ok (.invokevirtual 115, 3) := by decide +kernel
theorem dX3_answerAsk_63 : decode cX3_answerAsk 63 = .ok (.aload_n 0, 1) := by decide +kernel
theorem dX3_answerAsk_64 : decode cX3_answerAsk 64 = .ok (.getfield 15, 3) := by decide +kernel
theorem dX3_answerAsk_67 : decode cX3_answerAsk 67 = .ok (.aload_n 1, 1) := by decide +kernel
theorem dX3_answerAsk_68 : decode cX3_answerAsk 68 = .ok (.getfield 108, 3) := by decide +kernel
theorem dX3_answerAsk_71 : decode cX3_answerAsk 71 = .ok (.iaload, 1) := by decide +kernel
theorem dX3_answerAsk_72 : decode cX3_answerAsk 72 = .ok (.if_icmp .lt 13, 3) := by decide +kernel
theorem dX3_answerAsk_75 : decode cX3_answerAsk 75 = .ok (.aload_n 1, 1) := by decide +kernel
theorem dX3_answerAsk_76 : decode cX3_answerAsk 76 = .ok (.iconst 2, 1) := by decide +kernel
theorem dX3_answerAsk_77 : decode cX3_answerAsk 77 = .ok (.iconst 2, 1) := by decide +kernel
theorem dX3_answerAsk_78 : decode cX3_answerAsk 78 = .ok (.iconst 0, 1) := by decide +kernel
theorem dX3_answerAsk_79 : decode cX3_answerAsk 79 = .ok (.invokevirtual 76, 3) := by decide +kernel
theorem dX3_answerAsk_82 : decode cX3_answerAsk 82 = .ok (.goto 30, 3) := by decide +kernel
theorem dX3_answerAsk_85 : decode cX3_answerAsk 85 = .ok (.iload 5, 2) := by decide +kernel
theorem dX3_answerAsk_87 : decode cX3_answerAsk 87 = .ok (.iconst (-1), 1) := by decide +kernel
theorem dX3_answerAsk_88 : decode cX3_answerAsk 88 = .ok (.if_icmp .ne 13, 3) := by decide +kernel
theorem dX3_answerAsk_91 : decode cX3_answerAsk 91 = .ok (.aload_n 1, 1) := by decide +kernel
theorem dX3_answerAsk_92 : decode cX3_answerAsk 92 = .ok (.iconst 2, 1) := by decide +kernel
theorem dX3_answerAsk_93 : decode cX3_answerAsk 93 = .ok (.iconst 3, 1) := by decide +kernel
theorem dX3_answerAsk_94 : decode cX3_answerAsk 94 = .ok (.iconst 0, 1) := by decide +kernel
theorem dX3_answerAsk_95 : decode cX3_answerAsk 95 = .ok (.invokevirtual 76, 3) := by decide +kernel
theorem dX3_answerAsk_98 : decode cX3_answerAsk 98 = .ok (.goto 14, 3) := by decide +kernel
theorem dX3_answerAsk_101 : decode cX3_answerAsk 101 = .ok (.aload_n 1, 1) := by decide +kernel
theorem dX3_answerAsk_102 : decode cX3_answerAsk 102 = .ok (.iconst 1, 1) := by decide +kernel
theorem dX3_answerAsk_103 : decode cX3_answerAsk 103 = .ok (.aload_n 0, 1) := by decide +kernel
theorem dX3_answerAsk_104 : decode cX3_answerAsk 104 = .ok (.getfield 62, 3) := by decide +kernel
theorem dX3_answerAsk_107 : decode cX3_answerAsk 107 = .ok (.iload 5, 2) := by decide +kernel
theorem dX3_answerAsk_109 : decode cX3_answerAsk 109 = .ok (.invokevirtual 76, 3) := by decide +kernel
theorem dX3_answerAsk_112 : decode cX3_answerAsk 112 = .ok (.return_, 1) := by decide +kernel
theorem dX3_admits_0 : decode cX3_admits 0 = .ok (.iload_n 1, 1) := by decide +kernel
theorem dX3_admits_1 : decode cX3_admits 1 = .ok (.invokestatic 119, 3) := by decide +kernel
theorem dX3_admits_4 : decode cX3_admits 4 = .ok (.ifCond .eq 27, 3) := by decide +kernel
theorem dX3_admits_7 : decode cX3_admits 7 = .ok (.aload_n 0, 1) := by decide +kernel
theorem dX3_admits_8 : decode cX3_admits 8 = .ok (.getfield 15, 3) := by decide +kernel
theorem dX3_admits_11 : decode cX3_admits 11 = .ok (.iload_n 1, 1) := by decide +kernel
theorem dX3_admits_12 : decode cX3_admits 12 = .ok (.iaload, 1) := by decide +kernel
theorem dX3_admits_13 : decode cX3_admits 13 = .ok (.iconst (-1), 1) := by decide +kernel
theorem dX3_admits_14 : decode cX3_admits 14 = .ok (.if_icmp .eq 17, 3) := by decide +kernel
theorem dX3_admits_17 : decode cX3_admits 17 = .ok (.aload_n 0, 1) := by decide +kernel
theorem dX3_admits_18 : decode cX3_admits 18 = .ok (.getfield 9, 3) := by decide +kernel
theorem dX3_admits_21 : decode cX3_admits 21 = .ok (.iload_n 1, 1) := by decide +kernel
theorem dX3_admits_22 : decode cX3_admits 22 = .ok (.iaload, 1) := by decide +kernel
theorem dX3_admits_23 : decode cX3_admits 23 = .ok (.iload_n 2, 1) := by decide +kernel
theorem dX3_admits_24 : decode cX3_admits 24 = .ok (.if_icmp .ne 7, 3) := by decide +kernel
theorem dX3_admits_27 : decode cX3_admits 27 = .ok (.iconst 1, 1) := by decide +kernel
theorem dX3_admits_28 : decode cX3_admits 28 = .ok (.goto 4, 3) := by decide +kernel
theorem dX3_admits_31 : decode cX3_admits 31 = .ok (.iconst 0, 1) := by decide +kernel
theorem dX3_admits_32 : decode cX3_admits 32 = .ok (.ireturn, 1) := by decide +kernel
theorem dX3_addRecord_0 : decode cX3_addRecord 0 = .ok (.aload_n 0, 1) := by decide +kernel
theorem dX3_addRecord_1 : decode cX3_addRecord 1 = .ok (.aload_n 0, 1) := by decide +kernel
theorem dX3_addRecord_2 : decode cX3_addRecord 2 = .ok (.getfield 27, 3) := by decide +kernel
theorem dX3_addRecord_5 : decode cX3_addRecord 5 = .ok (.aload_n 0, 1) := by decide +kernel
theorem dX3_addRecord_6 : decode cX3_addRecord 6 = .ok (.getfield 62, 3) := by decide +kernel
theorem dX3_addRecord_9 : decode cX3_addRecord 9 = .ok (.aaload, 1) := by decide +kernel
theorem dX3_addRecord_10 : decode cX3_addRecord 10 = .ok (.invokevirtual 122, 3) := by decide +kernel
theorem dX3_addRecord_13 : decode cX3_addRecord 13 = .ok (.aload_n 0, 1) := by decide +kernel
theorem dX3_addRecord_14 : decode cX3_addRecord 14 = .ok (.dup, 1) := by decide +kernel
theorem dX3_addRecord_15 : decode cX3_addRecord 15 = .ok (.getfield 62, 3) := by decide +kernel
theorem dX3_addRecord_18 : decode cX3_addRecord 18 = .ok (.iconst 1, 1) := by decide +kernel
theorem dX3_addRecord_19 : decode cX3_addRecord 19 = .ok (.iadd, 1) := by decide +kernel
theorem dX3_addRecord_20 : decode cX3_addRecord 20 = .ok (.putfield 62, 3) := by decide +kernel
theorem dX3_addRecord_23 : decode cX3_addRecord 23 = .ok (.return_, 1) := by decide +kernel
theorem dX3_carryOut_0 : decode cX3_carryOut 0 = .ok (.aload_n 1, 1) := by decide +kernel
theorem dX3_carryOut_1 : decode cX3_carryOut 1 = .ok (.getfield 69, 3) := by decide +kernel
theorem dX3_carryOut_4 : decode cX3_carryOut 4 = .ok (.iconst 5, 1) := by decide +kernel
theorem dX3_carryOut_5 : decode cX3_carryOut 5 = .ok (.if_icmp .ne 17, 3) := by decide +kernel
theorem dX3_carryOut_8 : decode cX3_carryOut 8 = .ok (.aload_n 0, 1) := by decide +kernel
theorem dX3_carryOut_9 : decode cX3_carryOut 9 = .ok (.getfield 21, 3) := by decide +kernel
theorem dX3_carryOut_12 : decode cX3_carryOut 12 = .ok (.aload_n 1, 1) := by decide +kernel
theorem dX3_carryOut_13 : decode cX3_carryOut 13 = .ok (.getfield 126, 3) := by decide +kernel
theorem dX3_carryOut_16 : decode cX3_carryOut 16 = .ok (.invokevirtual 129, 3) := by decide +kernel
theorem dX3_carryOut_19 : decode cX3_carryOut 19 = .ok (.goto 56, 3) := by decide +kernel
theorem dX3_carryOut_22 : decode cX3_carryOut 22 = .ok (.aload_n 1, 1) := by decide +kernel
theorem dX3_carryOut_23 : decode cX3_carryOut 23 = .ok (.getfield 133, 3) := by decide +kernel
theorem dX3_carryOut_26 : decode cX3_carryOut 26 = .ok (.iconst 1, 1) := by decide +kernel
theorem dX3_carryOut_27 : decode cX3_carryOut 27 = .ok (.if_icmp .ne 25, 3) := by decide +kernel
theorem dX3_carryOut_30 : decode cX3_carryOut 30 = .ok (.aload_n 0, 1) := by decide +kernel
theorem dX3_carryOut_31 : decode cX3_carryOut 31 = .ok (.getfield 21, 3) := by decide +kernel
theorem dX3_carryOut_34 : decode cX3_carryOut 34 = .ok (.aload_n 1, 1) := by decide +kernel
theorem dX3_carryOut_35 : decode cX3_carryOut 35 = .ok (.getfield 126, 3) := by decide +kernel
theorem dX3_carryOut_38 : decode cX3_carryOut 38 = .ok (.aload_n 1, 1) := by decide +kernel
theorem dX3_carryOut_39 : decode cX3_carryOut 39 = .ok (.getfield 136, 3) := by decide +kernel
theorem dX3_carryOut_42 : decode cX3_carryOut 42 = .ok (.aload_n 1, 1) := by decide +kernel
theorem dX3_carryOut_43 : decode cX3_carryOut 43 = .ok (.getfield 108, 3) := by decide +kernel
theorem dX3_carryOut_46 : decode cX3_carryOut 46 = .ok (.invokevirtual 139, 3) := by decide +kernel
theorem dX3_carryOut_49 : decode cX3_carryOut 49 = .ok (.goto 26, 3) := by decide +kernel
theorem dX3_carryOut_52 : decode cX3_carryOut 52 = .ok (.aload_n 1, 1) := by decide +kernel
theorem dX3_carryOut_53 : decode cX3_carryOut 53 = .ok (.getfield 133, 3) := by decide +kernel
theorem dX3_carryOut_56 : decode cX3_carryOut 56 = .ok (.iconst 4, 1) := by decide +kernel
theorem dX3_carryOut_57 : decode cX3_carryOut 57 = .ok (.if_icmp .ne 18, 3) := by decide +kernel
theorem dX3_carryOut_60 : decode cX3_carryOut 60 = .ok (.aload_n 0, 1) := by decide +kernel
theorem dX3_carryOut_61 : decode cX3_carryOut 61 = .ok (.getfield 21, 3) := by decide +kernel
theorem dX3_carryOut_64 : decode cX3_carryOut 64 = .ok (.aload_n 1, 1) := by decide +kernel
theorem dX3_carryOut_65 : decode cX3_carryOut 65 = .ok (.getfield 126, 3) := by decide +kernel
theorem dX3_carryOut_68 : decode cX3_carryOut 68 = .ok (.aload_n 1, 1) := by decide +kernel
theorem dX3_carryOut_69 : decode cX3_carryOut 69 = .ok (.getfield 136, 3) := by decide +kernel
theorem dX3_carryOut_72 : decode cX3_carryOut 72 = .ok (.invokevirtual 142, 3) := by decide +kernel
theorem dX3_carryOut_75 : decode cX3_carryOut 75 = .ok (.return_, 1) := by decide +kernel
theorem dX3_sendAnswerOf_0 : decode cX3_sendAnswerOf 0 = .ok (.aload_n 2, 1) := by decide +kernel
theorem dX3_sendAnswerOf_1 : decode cX3_sendAnswerOf 1 = .ok (.aload_n 0, 1) := by decide +kernel
theorem dX3_sendAnswerOf_2 : decode cX3_sendAnswerOf 2 = .ok (.getfield 31, 3) := by decide +kernel
theorem dX3_sendAnswerOf_5 : decode cX3_sendAnswerOf 5 = .ok (.iconst 2, 1) := by decide +kernel
theorem dX3_sendAnswerOf_6 : decode cX3_sendAnswerOf 6 = .ok (.aload_n 1, 1) := by decide +kernel
theorem dX3_sendAnswerOf_7 : decode cX3_sendAnswerOf 7 = .ok (.getfield 133, 3) := by decide +kernel
theorem dX3_sendAnswerOf_10 : decode cX3_sendAnswerOf 10 = .ok (.aload_n 1, 1) := by decide +kernel
theorem dX3_sendAnswerOf_11 : decode cX3_sendAnswerOf 11 = .ok (.getfield 83, 3) := by decide +kernel
theorem dX3_sendAnswerOf_14 : decode cX3_sendAnswerOf 14 = .ok (.aload_n 1, 1) := by decide +kernel
theorem dX3_sendAnswerOf_15 : decode cX3_sendAnswerOf 15 = .ok (.getfield 86, 3) := by decide +kernel
theorem dX3_sendAnswerOf_18 : decode cX3_sendAnswerOf 18 = .ok (.aload_n 1, 1) := by decide +kernel
theorem dX3_sendAnswerOf_19 : decode cX3_sendAnswerOf 19 = .ok (.getfield 136, 3) := by decide +kernel
theorem dX3_sendAnswerOf_22 : decode cX3_sendAnswerOf 22 = .ok (.aload_n 1, 1) := by decide +kernel
theorem dX3_sendAnswerOf_23 : decode cX3_sendAnswerOf 23 = .ok (.getfield 126, 3) := by decide +kernel
theorem dX3_sendAnswerOf_26 : decode cX3_sendAnswerOf 26 = .ok (.invokevirtual 146, 3) := by decide +kernel
theorem dX3_sendAnswerOf_29 : decode cX3_sendAnswerOf 29 = .ok (.return_, 1) := by decide +kernel
theorem dX3_makeEviction_0 : decode cX3_makeEviction 0 = .ok (.aload_n 0, 1) := by decide +kernel
theorem dX3_makeEviction_1 : decode cX3_makeEviction 1 = .ok (.getfield 21, 3) := by decide +kernel
theorem dX3_makeEviction_4 : decode cX3_makeEviction 4 = .ok (.iload_n 1, 1) := by decide +kernel
theorem dX3_makeEviction_5 : decode cX3_makeEviction 5 = .ok (.invokevirtual 150, 3) := by decide +kernel
theorem dX3_makeEviction_8 : decode cX3_makeEviction 8 = .ok (.ifCond .eq 12, 3) := by decide +kernel
theorem dX3_makeEviction_11 : decode cX3_makeEviction 11 = .ok (.aload_n 0, 1) := by decide +kernel
theorem dX3_makeEviction_12 : decode cX3_makeEviction 12 = .ok (.getfield 62, 3) := by decide +kernel
theorem dX3_makeEviction_15 : decode cX3_makeEviction 15 = .ok (.bipush 40, 2) := by decide +kernel
theorem dX3_makeEviction_17 : decode cX3_makeEviction 17 = .ok (.if_icmp .lt 5, 3) := by decide +kernel
theorem dX3_makeEviction_20 : decode cX3_makeEviction 20 = .ok (.iconst 0, 1) := by decide +kernel
theorem dX3_makeEviction_21 : decode cX3_makeEviction 21 = .ok (.ireturn, 1) := by decide +kernel
theorem dX3_makeEviction_22 : decode cX3_makeEviction 22 = .ok (.aload_n 0, 1) := by decide +kernel
theorem dX3_makeEviction_23 : decode cX3_makeEviction 23 = .ok (.getfield 27, 3) := by decide +kernel
theorem dX3_makeEviction_26 : decode cX3_makeEviction 26 = .ok (.aload_n 0, 1) := by decide +kernel
theorem dX3_makeEviction_27 : decode cX3_makeEviction 27 = .ok (.getfield 62, 3) := by decide +kernel
theorem dX3_makeEviction_30 : decode cX3_makeEviction 30 = .ok (.aaload, 1) := by decide +kernel
theorem dX3_makeEviction_31 : decode cX3_makeEviction 31 = .ok (.astore_n 2, 1) := by decide +kernel
theorem dX3_makeEviction_32 : decode cX3_makeEviction 32 = .ok (.aload_n 2, 1) := by decide +kernel
theorem dX3_makeEviction_33 : decode cX3_makeEviction 33 = .ok (.iconst 5, 1) := by decide +kernel
theorem dX3_makeEviction_34 : decode cX3_makeEviction 34 = .ok (.putfield 69, 3) := by decide +kernel
theorem dX3_makeEviction_37 : decode cX3_makeEviction 37 = .ok (.aload_n 2, 1) := by decide +kernel
theorem dX3_makeEviction_38 : decode cX3_makeEviction 38 = .ok (.iconst (-1), 1) := by decide +kernel
theorem dX3_makeEviction_39 : decode cX3_makeEviction 39 = .ok (.iconst 0, 1) := by decide +kernel
theorem dX3_makeEviction_40 : decode cX3_makeEviction 40 = .ok (.iload_n 1, 1) := by decide +kernel
theorem dX3_makeEviction_41 : decode cX3_makeEviction 41 = .ok (.invokevirtual 76, 3) := by decide +kernel
theorem dX3_makeEviction_44 : decode cX3_makeEviction 44 = .ok (.aload_n 0, 1) := by decide +kernel
theorem dX3_makeEviction_45 : decode cX3_makeEviction 45 = .ok (.invokevirtual 80, 3) := by decide +kernel
theorem dX3_makeEviction_48 : decode cX3_makeEviction 48 = .ok (.iconst 1, 1) := by decide +kernel
theorem dX3_makeEviction_49 : decode cX3_makeEviction 49 = .ok (.ireturn, 1) := by decide +kernel
theorem dX3_makeAllDurable_0 : decode cX3_makeAllDurable 0 = .ok (.aload_n 0, 1) := by decide +kernel
theorem dX3_makeAllDurable_1 : decode cX3_makeAllDurable 1 = .ok (.getfield 62, 3) := by decide +kernel
theorem dX3_makeAllDurable_4 : decode cX3_makeAllDurable 4 = .ok (.aload_n 0, 1) := by decide +kernel
theorem dX3_makeAllDurable_5 : decode cX3_makeAllDurable 5 = .ok (.getfield 90, 3) := by decide +kernel
theorem dX3_makeAllDurable_8 : decode cX3_makeAllDurable 8 = .ok (.isub, 1) := by decide +kernel
theorem dX3_makeAllDurable_9 : decode cX3_makeAllDurable 9 = .ok (.istore_n 2, 1) := by decide +kernel
theorem dX3_makeAllDurable_10 : decode cX3_makeAllDurable 10 = .ok (.aload_n 0, 1) := by decide +kernel
theorem dX3_makeAllDurable_11 : decode cX3_makeAllDurable 11 = .ok (.getfield 90, 3) := by decide +kernel
theorem dX3_makeAllDurable_14 : decode cX3_makeAllDurable 14 = .ok (.istore_n 3, 1) := by decide +kernel
theorem dX3_makeAllDurable_15 : decode cX3_makeAllDurable 15 = .ok (.iload_n 3, 1) := by decide +kernel
theorem dX3_makeAllDurable_16 : decode cX3_makeAllDurable 16 = .ok (.aload_n 0, 1) := by decide +kernel
theorem dX3_makeAllDurable_17 : decode cX3_makeAllDurable 17 = .ok (.getfield 62, 3) := by decide +kernel
theorem dX3_makeAllDurable_20 : decode cX3_makeAllDurable 20 = .ok (.if_icmp .ge 33, 3) := by decide +kernel
theorem dX3_makeAllDurable_23 : decode cX3_makeAllDurable 23 = .ok (.aload_n 0, 1) := by decide +kernel
theorem dX3_makeAllDurable_24 : decode cX3_makeAllDurable 24 = .ok (.getfield 27, 3) := by decide +kernel
theorem dX3_makeAllDurable_27 : decode cX3_makeAllDurable 27 = .ok (.iload_n 3, 1) := by decide +kernel
theorem dX3_makeAllDurable_28 : decode cX3_makeAllDurable 28 = .ok (.aaload, 1) := by decide +kernel
theorem dX3_makeAllDurable_29 : decode cX3_makeAllDurable 29 = .ok (.getfield 133, 3) := by decide +kernel
theorem dX3_makeAllDurable_32 : decode cX3_makeAllDurable 32 = .ok (.iconst (-1), 1) := by decide +kernel
theorem dX3_makeAllDurable_33 : decode cX3_makeAllDurable 33 = .ok (.if_icmp .eq 14, 3) := by decide +kernel
theorem dX3_makeAllDurable_36 : decode cX3_makeAllDurable 36 = .ok (.aload_n 0, 1) := by decide +kernel
theorem dX3_makeAllDurable_37 : decode cX3_makeAllDurable 37 = .ok (.aload_n 0, 1) := by decide +kernel
theorem dX3_makeAllDurable_38 : decode cX3_makeAllDurable 38 = .ok (.getfield 27, 3) := by decide +kernel
theorem dX3_makeAllDurable_41 : decode cX3_makeAllDurable 41 = .ok (.iload_n 3, 1) := by decide +kernel
theorem dX3_makeAllDurable_42 : decode cX3_makeAllDurable 42 = .ok (.aaload, 1) := by decide +kernel
theorem dX3_makeAllDurable_43 : decode cX3_makeAllDurable 43 = .ok (.aload_n 1, 1) := by decide +kernel
theorem dX3_makeAllDurable_44 : decode cX3_makeAllDurable 44 = .ok (.invokevirtual 93, 3) := by decide +kernel
theorem dX3_makeAllDurable_47 : decode cX3_makeAllDurable 47 = .ok (.iinc 3 1, 3) := by decide +kernel
theorem dX3_makeAllDurable_50 : decode cX3_makeAllDurable 50 = .ok (.goto (-35), 3) := by decide +kernel
theorem dX3_makeAllDurable_53 : decode cX3_makeAllDurable 53 = .ok (.aload_n 0, 1) := by decide +kernel
theorem dX3_makeAllDurable_54 : decode cX3_makeAllDurable 54 = .ok (.aload_n 0, 1) := by decide +kernel
theorem dX3_makeAllDurable_55 : decode cX3_makeAllDurable 55 = .ok (.getfield 62, 3) := by decide +kernel
theorem dX3_makeAllDurable_58 : decode cX3_makeAllDurable 58 = .ok (.putfield 90, 3) := by decide +kernel
theorem dX3_makeAllDurable_61 : decode cX3_makeAllDurable 61 = .ok (.iload_n 2, 1) := by decide +kernel
theorem dX3_makeAllDurable_62 : decode cX3_makeAllDurable 62 = .ok (.ireturn, 1) := by decide +kernel
theorem dX3_forgetWhatIsNotDurable_0 : decode cX3_forgetWhatIsNotDurable 0 = .ok (.aload_n 0, 1) := by decide +kernel
theorem dX3_forgetWhatIsNotDurable_1 : decode cX3_forgetWhatIsNotDurable 1 = .ok (.aload_n 0, 1) := by decide +kernel
theorem dX3_forgetWhatIsNotDurable_2 : decode cX3_forgetWhatIsNotDurable 2 = .ok (.getfield 90, 3) := by decide +kernel
theorem dX3_forgetWhatIsNotDurable_5 : decode cX3_forgetWhatIsNotDurable 5 = .ok (.putfield 62, 3) := by decide +kernel
theorem dX3_forgetWhatIsNotDurable_8 : decode cX3_forgetWhatIsNotDurable 8 = .ok (.aload_n 0, 1) := by decide +kernel
theorem dX3_forgetWhatIsNotDurable_9 : decode cX3_forgetWhatIsNotDurable 9 = .ok (.getfield 21, 3) := by decide +kernel
theorem dX3_forgetWhatIsNotDurable_12 : decode cX3_forgetWhatIsNotDurable 12 = .ok (.invokevirtual 153, 3) := by decide +kernel
theorem dX3_forgetWhatIsNotDurable_15 : decode cX3_forgetWhatIsNotDurable 15 = .ok (.iconst 0, 1) := by decide +kernel
theorem dX3_forgetWhatIsNotDurable_16 : decode cX3_forgetWhatIsNotDurable 16 = .ok (.istore_n 1, 1) := by decide +kernel
theorem dX3_forgetWhatIsNotDurable_17 : decode cX3_forgetWhatIsNotDurable 17 = .ok (.iload_n 1, 1) := by decide +kernel
theorem dX3_forgetWhatIsNotDurable_18 : decode cX3_forgetWhatIsNotDurable 18 = .ok (.aload_n 0, 1) := by decide +kernel
theorem dX3_forgetWhatIsNotDurable_19 : decode cX3_forgetWhatIsNotDurable 19 = .ok (.getfield 62, 3) := by decide +kernel
theorem dX3_forgetWhatIsNotDurable_22 : decode cX3_forgetWhatIsNotDurable 22 = .ok (.if_icmp .ge 19, 3) := by decide +kernel
theorem dX3_forgetWhatIsNotDurable_25 : decode cX3_forgetWhatIsNotDurable 25 = .ok (.aload_n 0, 1) := by decide +kernel
theorem dX3_forgetWhatIsNotDurable_26 : decode cX3_forgetWhatIsNotDurable 26 = .ok (.aload_n 0, 1) := by decide +kernel
theorem dX3_forgetWhatIsNotDurable_27 : decode cX3_forgetWhatIsNotDurable 27 = .ok (.getfield 27, 3) := by decide +kernel
theorem dX3_forgetWhatIsNotDurable_30 : decode cX3_forgetWhatIsNotDurable 30 = .ok (.iload_n 1, 1) := by decide +kernel
theorem dX3_forgetWhatIsNotDurable_31 : decode cX3_forgetWhatIsNotDurable 31 = .ok (.aaload, 1) := by decide +kernel
theorem dX3_forgetWhatIsNotDurable_32 : decode cX3_forgetWhatIsNotDurable 32 = .ok (.invokevirtual 122, 3) := by decide +kernel
theorem dX3_forgetWhatIsNotDurable_35 : decode cX3_forgetWhatIsNotDurable 35 = .ok (.iinc 1 1, 3) := by decide +kernel
theorem dX3_forgetWhatIsNotDurable_38 : decode cX3_forgetWhatIsNotDurable 38 = .ok (.goto (-21), 3) := by decide +kernel
theorem dX3_forgetWhatIsNotDurable_41 : decode cX3_forgetWhatIsNotDurable 41 = .ok (.return_, 1) := by decide +kernel
theorem dX3_tell_0 : decode cX3_tell 0 = .ok (.iload_n 1, 1) := by decide +kernel
theorem dX3_tell_1 : decode cX3_tell 1 = .ok (.tableswitch 45 0 2 #[27, 32, 37], 27) := by decide +kernel
theorem dX3_tell_28 : decode cX3_tell 28 = .ok (.aload_n 0, 1) := by decide +kernel
theorem dX3_tell_29 : decode cX3_tell 29 = .ok (.getfield 62, 3) := by decide +kernel
theorem dX3_tell_32 : decode cX3_tell 32 = .ok (.ireturn, 1) := by decide +kernel
theorem dX3_tell_33 : decode cX3_tell 33 = .ok (.aload_n 0, 1) := by decide +kernel
theorem dX3_tell_34 : decode cX3_tell 34 = .ok (.getfield 90, 3) := by decide +kernel
theorem dX3_tell_37 : decode cX3_tell 37 = .ok (.ireturn, 1) := by decide +kernel
theorem dX3_tell_38 : decode cX3_tell 38 = .ok (.aload_n 0, 1) := by decide +kernel
theorem dX3_tell_39 : decode cX3_tell 39 = .ok (.getfield 21, 3) := by decide +kernel
theorem dX3_tell_42 : decode cX3_tell 42 = .ok (.getfield 156, 3) := by decide +kernel
theorem dX3_tell_45 : decode cX3_tell 45 = .ok (.ireturn, 1) := by decide +kernel
theorem dX3_tell_46 : decode cX3_tell 46 = .ok (.iconst (-1), 1) := by decide +kernel
theorem dX3_tell_47 : decode cX3_tell 47 = .ok (.ireturn, 1) := by decide +kernel
theorem dX4_init_0 : decode cX4_init 0 = .ok (.aload_n 0, 1) := by decide +kernel
theorem dX4_init_1 : decode cX4_init 1 = .ok (.invokespecial 1, 3) := by decide +kernel
theorem dX4_init_4 : decode cX4_init 4 = .ok (.return_, 1) := by decide +kernel
theorem dX4_takeRequest_0 : decode cX4_takeRequest 0 = .ok (.aload_n 0, 1) := by decide +kernel
theorem dX4_takeRequest_1 : decode cX4_takeRequest 1 = .ok (.aload_n 1, 1) := by decide +kernel
theorem dX4_takeRequest_2 : decode cX4_takeRequest 2 = .ok (.iconst 0, 1) := by decide +kernel
theorem dX4_takeRequest_3 : decode cX4_takeRequest 3 = .ok (.iaload, 1) := by decide +kernel
theorem dX4_takeRequest_4 : decode cX4_takeRequest 4 = .ok (.putfield 9, 3) := by decide +kernel
theorem dX4_takeRequest_7 : decode cX4_takeRequest 7 = .ok (.aload_n 0, 1) := by decide +kernel
theorem dX4_takeRequest_8 : decode cX4_takeRequest 8 = .ok (.aload_n 1, 1) := by decide +kernel
theorem dX4_takeRequest_9 : decode cX4_takeRequest 9 = .ok (.iconst 1, 1) := by decide +kernel
theorem dX4_takeRequest_10 : decode cX4_takeRequest 10 = .ok (.iaload, 1) := by decide +kernel
theorem dX4_takeRequest_11 : decode cX4_takeRequest 11 = .ok (.putfield 15, 3) := by decide +kernel
theorem dX4_takeRequest_14 : decode cX4_takeRequest 14 = .ok (.aload_n 0, 1) := by decide +kernel
theorem dX4_takeRequest_15 : decode cX4_takeRequest 15 = .ok (.aload_n 1, 1) := by decide +kernel
theorem dX4_takeRequest_16 : decode cX4_takeRequest 16 = .ok (.iconst 2, 1) := by decide +kernel
theorem dX4_takeRequest_17 : decode cX4_takeRequest 17 = .ok (.iaload, 1) := by decide +kernel
theorem dX4_takeRequest_18 : decode cX4_takeRequest 18 = .ok (.putfield 18, 3) := by decide +kernel
theorem dX4_takeRequest_21 : decode cX4_takeRequest 21 = .ok (.aload_n 0, 1) := by decide +kernel
theorem dX4_takeRequest_22 : decode cX4_takeRequest 22 = .ok (.aload_n 1, 1) := by decide +kernel
theorem dX4_takeRequest_23 : decode cX4_takeRequest 23 = .ok (.iconst 3, 1) := by decide +kernel
theorem dX4_takeRequest_24 : decode cX4_takeRequest 24 = .ok (.iaload, 1) := by decide +kernel
theorem dX4_takeRequest_25 : decode cX4_takeRequest 25 = .ok (.putfield 21, 3) := by decide +kernel
theorem dX4_takeRequest_28 : decode cX4_takeRequest 28 = .ok (.aload_n 0, 1) := by decide +kernel
theorem dX4_takeRequest_29 : decode cX4_takeRequest 29 = .ok (.iload_n 2, 1) := by decide +kernel
theorem dX4_takeRequest_30 : decode cX4_takeRequest 30 = .ok (.putfield 24, 3) := by decide +kernel
theorem dX4_takeRequest_33 : decode cX4_takeRequest 33 = .ok (.return_, 1) := by decide +kernel
theorem dX4_setAnswer_0 : decode cX4_setAnswer 0 = .ok (.aload_n 0, 1) := by decide +kernel
theorem dX4_setAnswer_1 : decode cX4_setAnswer 1 = .ok (.iload_n 1, 1) := by decide +kernel
theorem dX4_setAnswer_2 : decode cX4_setAnswer 2 = .ok (.putfield 27, 3) := by decide +kernel
theorem dX4_setAnswer_5 : decode cX4_setAnswer 5 = .ok (.aload_n 0, 1) := by decide +kernel
theorem dX4_setAnswer_6 : decode cX4_setAnswer 6 = .ok (.iload_n 2, 1) := by decide +kernel
theorem dX4_setAnswer_7 : decode cX4_setAnswer 7 = .ok (.putfield 30, 3) := by decide +kernel
theorem dX4_setAnswer_10 : decode cX4_setAnswer 10 = .ok (.aload_n 0, 1) := by decide +kernel
theorem dX4_setAnswer_11 : decode cX4_setAnswer 11 = .ok (.iload_n 3, 1) := by decide +kernel
theorem dX4_setAnswer_12 : decode cX4_setAnswer 12 = .ok (.putfield 33, 3) := by decide +kernel
theorem dX4_setAnswer_15 : decode cX4_setAnswer 15 = .ok (.return_, 1) := by decide +kernel
theorem dX5_init_0 : decode cX5_init 0 = .ok (.aload_n 0, 1) := by decide +kernel
theorem dX5_init_1 : decode cX5_init 1 = .ok (.invokespecial 3, 3) := by decide +kernel
theorem dX5_init_4 : decode cX5_init 4 = .ok (.return_, 1) := by decide +kernel
theorem dX5_isPending_0 : decode cX5_isPending 0 = .ok (.aload_n 0, 1) := by decide +kernel
theorem dX5_isPending_1 : decode cX5_isPending 1 = .ok (.getfield 9, 3) := by decide +kernel
theorem dX5_isPending_4 : decode cX5_isPending 4 = .ok (.iconst 1, 1) := by decide +kernel
theorem dX5_isPending_5 : decode cX5_isPending 5 = .ok (.if_icmp .eq 11, 3) := by decide +kernel
theorem dX5_isPending_8 : decode cX5_isPending 8 = .ok (.aload_n 0, 1) := by decide +kernel
theorem dX5_isPending_9 : decode cX5_isPending 9 = .ok (.getfield 9, 3) := by decide +kernel
theorem dX5_isPending_12 : decode cX5_isPending 12 = .ok (.iconst 3, 1) := by decide +kernel
theorem dX5_isPending_13 : decode cX5_isPending 13 = .ok (.if_icmp .ne 7, 3) := by decide +kernel
theorem dX5_isPending_16 : decode cX5_isPending 16 = .ok (.iconst 1, 1) := by decide +kernel
theorem dX5_isPending_17 : decode cX5_isPending 17 = .ok (.goto 4, 3) := by decide +kernel
theorem dX5_isPending_20 : decode cX5_isPending 20 = .ok (.iconst 0, 1) := by decide +kernel
theorem dX5_isPending_21 : decode cX5_isPending 21 = .ok (.ireturn, 1) := by decide +kernel
theorem dX5_waitsFor_0 : decode cX5_waitsFor 0 = .ok (.aload_n 0, 1) := by decide +kernel
theorem dX5_waitsFor_1 : decode cX5_waitsFor 1 = .ok (.getfield 9, 3) := by decide +kernel
theorem dX5_waitsFor_4 : decode cX5_waitsFor 4 = .ok (.iconst 1, 1) := by decide +kernel
theorem dX5_waitsFor_5 : decode cX5_waitsFor 5 = .ok (.if_icmp .ne 19, 3) := by decide +kernel
theorem dX5_waitsFor_8 : decode cX5_waitsFor 8 = .ok (.iload_n 1, 1) := by decide +kernel
theorem dX5_waitsFor_9 : decode cX5_waitsFor 9 = .ok (.iconst 1, 1) := by decide +kernel
theorem dX5_waitsFor_10 : decode cX5_waitsFor 10 = .ok (.if_icmp .eq 8, 3) := by decide +kernel
theorem dX5_waitsFor_13 : decode cX5_waitsFor 13 = .ok (.iload_n 1, 1) := by decide +kernel
theorem dX5_waitsFor_14 : decode cX5_waitsFor 14 = .ok (.iconst 2, 1) := by decide +kernel
theorem dX5_waitsFor_15 : decode cX5_waitsFor 15 = .ok (.if_icmp .ne 7, 3) := by decide +kernel
theorem dX5_waitsFor_18 : decode cX5_waitsFor 18 = .ok (.iconst 1, 1) := by decide +kernel
theorem dX5_waitsFor_19 : decode cX5_waitsFor 19 = .ok (.goto 4, 3) := by decide +kernel
theorem dX5_waitsFor_22 : decode cX5_waitsFor 22 = .ok (.iconst 0, 1) := by decide +kernel
theorem dX5_waitsFor_23 : decode cX5_waitsFor 23 = .ok (.ireturn, 1) := by decide +kernel
theorem dX5_waitsFor_24 : decode cX5_waitsFor 24 = .ok (.aload_n 0, 1) := by decide +kernel
theorem dX5_waitsFor_25 : decode cX5_waitsFor 25 = .ok (.getfield 9, 3) := by decide +kernel
theorem dX5_waitsFor_28 : decode cX5_waitsFor 28 = .ok (.iconst 3, 1) := by decide +kernel
theorem dX5_waitsFor_29 : decode cX5_waitsFor 29 = .ok (.if_icmp .ne 12, 3) := by decide +kernel
theorem dX5_waitsFor_32 : decode cX5_waitsFor 32 = .ok (.iload_n 1, 1) := by decide +kernel
theorem dX5_waitsFor_33 : decode cX5_waitsFor 33 = .ok (.iconst 4, 1) := by decide +kernel
theorem dX5_waitsFor_34 : decode cX5_waitsFor 34 = .ok (.if_icmp .ne 7, 3) := by decide +kernel
theorem dX5_waitsFor_37 : decode cX5_waitsFor 37 = .ok (.iconst 1, 1) := by decide +kernel
theorem dX5_waitsFor_38 : decode cX5_waitsFor 38 = .ok (.goto 4, 3) := by decide +kernel
theorem dX5_waitsFor_41 : decode cX5_waitsFor 41 = .ok (.iconst 0, 1) := by decide +kernel
theorem dX5_waitsFor_42 : decode cX5_waitsFor 42 = .ok (.ireturn, 1) := by decide +kernel
theorem dX5_settle_0 : decode cX5_settle 0 = .ok (.iload_n 1, 1) := by decide +kernel
theorem dX5_settle_1 : decode cX5_settle 1 = .ok (.iconst 1, 1) := by decide +kernel
theorem dX5_settle_2 : decode cX5_settle 2 = .ok (.if_icmp .ne 24, 3) := by decide +kernel
theorem dX5_settle_5 : decode cX5_settle 5 = .ok (.aload_n 0, 1) := by decide +kernel
theorem dX5_settle_6 : decode cX5_settle 6 = .ok (.iconst 2, 1) := by decide +kernel
theorem dX5_settle_7 : decode cX5_settle 7 = .ok (.putfield 9, 3) := by decide +kernel
theorem dX5_settle_10 : decode cX5_settle 10 = .ok (.aload_n 0, 1) := by decide +kernel
theorem dX5_settle_11 : decode cX5_settle 11 = .ok (.iconst 1, 1) := by decide +kernel
theorem dX5_settle_12 : decode cX5_settle 12 = .ok (.putfield 15, 3) := by decide +kernel
theorem dX5_settle_15 : decode cX5_settle 15 = .ok (.aload_n 0, 1) := by decide +kernel
theorem dX5_settle_16 : decode cX5_settle 16 = .ok (.iload_n 2, 1) := by decide +kernel
theorem dX5_settle_17 : decode cX5_settle 17 = .ok (.putfield 18, 3) := by decide +kernel
theorem dX5_settle_20 : decode cX5_settle 20 = .ok (.aload_n 0, 1) := by decide +kernel
theorem dX5_settle_21 : decode cX5_settle 21 = .ok (.iload_n 3, 1) := by decide +kernel
theorem dX5_settle_22 : decode cX5_settle 22 = .ok (.putfield 21, 3) := by decide +kernel
theorem dX5_settle_25 : decode cX5_settle 25 = .ok (.return_, 1) := by decide +kernel
theorem dX5_settle_26 : decode cX5_settle 26 = .ok (.aload_n 0, 1) := by decide +kernel
theorem dX5_settle_27 : decode cX5_settle 27 = .ok (.iconst 0, 1) := by decide +kernel
theorem dX5_settle_28 : decode cX5_settle 28 = .ok (.putfield 9, 3) := by decide +kernel
theorem dX5_settle_31 : decode cX5_settle 31 = .ok (.iload_n 1, 1) := by decide +kernel
theorem dX5_settle_32 : decode cX5_settle 32 = .ok (.iconst 2, 1) := by decide +kernel
theorem dX5_settle_33 : decode cX5_settle 33 = .ok (.if_icmp .ne 8, 3) := by decide +kernel
theorem dX5_settle_36 : decode cX5_settle 36 = .ok (.aload_n 0, 1) := by decide +kernel
theorem dX5_settle_37 : decode cX5_settle 37 = .ok (.iconst 2, 1) := by decide +kernel
theorem dX5_settle_38 : decode cX5_settle 38 = .ok (.putfield 15, 3) := by decide +kernel
theorem dX5_settle_41 : decode cX5_settle 41 = .ok (.return_, 1) := by decide +kernel
theorem dX5_giveUp_0 : decode cX5_giveUp 0 = .ok (.aload_n 0, 1) := by decide +kernel
theorem dX5_giveUp_1 : decode cX5_giveUp 1 = .ok (.getfield 9, 3) := by decide +kernel
theorem dX5_giveUp_4 : decode cX5_giveUp 4 = .ok (.iconst 1, 1) := by decide +kernel
theorem dX5_giveUp_5 : decode cX5_giveUp 5 = .ok (.if_icmp .ne 8, 3) := by decide +kernel
theorem dX5_giveUp_8 : decode cX5_giveUp 8 = .ok (.aload_n 0, 1) := by decide +kernel
theorem dX5_giveUp_9 : decode cX5_giveUp 9 = .ok (.iconst 3, 1) := by decide +kernel
theorem dX5_giveUp_10 : decode cX5_giveUp 10 = .ok (.putfield 15, 3) := by decide +kernel
theorem dX5_giveUp_13 : decode cX5_giveUp 13 = .ok (.aload_n 0, 1) := by decide +kernel
theorem dX5_giveUp_14 : decode cX5_giveUp 14 = .ok (.iconst 0, 1) := by decide +kernel
theorem dX5_giveUp_15 : decode cX5_giveUp 15 = .ok (.putfield 9, 3) := by decide +kernel
theorem dX5_giveUp_18 : decode cX5_giveUp 18 = .ok (.return_, 1) := by decide +kernel
theorem dX5_tell_0 : decode cX5_tell 0 = .ok (.aload_n 0, 1) := by decide +kernel
theorem dX5_tell_1 : decode cX5_tell 1 = .ok (.getfield 9, 3) := by decide +kernel
theorem dX5_tell_4 : decode cX5_tell 4 = .ok (.iconst 2, 1) := by decide +kernel
theorem dX5_tell_5 : decode cX5_tell 5 = .ok (.if_icmp .eq 11, 3) := by decide +kernel
theorem dX5_tell_8 : decode cX5_tell 8 = .ok (.aload_n 0, 1) := by decide +kernel
theorem dX5_tell_9 : decode cX5_tell 9 = .ok (.getfield 9, 3) := by decide +kernel
theorem dX5_tell_12 : decode cX5_tell 12 = .ok (.iconst 3, 1) := by decide +kernel
theorem dX5_tell_13 : decode cX5_tell 13 = .ok (.if_icmp .ne 7, 3) := by decide +kernel
theorem dX5_tell_16 : decode cX5_tell 16 = .ok (.iconst 1, 1) := by decide +kernel
theorem dX5_tell_17 : decode cX5_tell 17 = .ok (.goto 4, 3) := by decide +kernel
theorem dX5_tell_20 : decode cX5_tell 20 = .ok (.iconst 0, 1) := by decide +kernel
theorem dX5_tell_21 : decode cX5_tell 21 = .ok (.istore_n 2, 1) := by decide +kernel
theorem dX5_tell_22 : decode cX5_tell 22 = .ok (.iload_n 1, 1) := by decide +kernel
theorem dX5_tell_23 : decode cX5_tell 23 = .ok (.tableswitch 85 0 4 #[33, 38, 43, 59, 72], 33) := by decide +kernel
theorem dX5_tell_56 : decode cX5_tell 56 = .ok (.aload_n 0, 1) := by decide +kernel
theorem dX5_tell_57 : decode cX5_tell 57 = .ok (.getfield 9, 3) := by decide +kernel
theorem dX5_tell_60 : decode cX5_tell 60 = .ok (.ireturn, 1) := by decide +kernel
theorem dX5_tell_61 : decode cX5_tell 61 = .ok (.aload_n 0, 1) := by decide +kernel
theorem dX5_tell_62 : decode cX5_tell 62 = .ok (.getfield 15, 3) := by decide +kernel
theorem dX5_tell_65 : decode cX5_tell 65 = .ok (.ireturn, 1) := by decide +kernel
theorem dX5_tell_66 : decode cX5_tell 66 = .ok (.aload_n 0, 1) := by decide +kernel
theorem dX5_tell_67 : decode cX5_tell 67 = .ok (.invokevirtual 24, 3) := by decide +kernel
theorem dX5_tell_70 : decode cX5_tell 70 = .ok (.ifCond .eq 10, 3) := by decide +kernel
theorem dX5_tell_73 : decode cX5_tell 73 = .ok (.aload_n 0, 1) := by decide +kernel
theorem dX5_tell_74 : decode cX5_tell 74 = .ok (.getfield 28, 3) := by decide +kernel
theorem dX5_tell_77 : decode cX5_tell 77 = .ok (.goto 4, 3) := by decide +kernel
theorem dX5_tell_80 : decode cX5_tell 80 = .ok (.iconst (-1), 1) := by decide +kernel
theorem dX5_tell_81 : decode cX5_tell 81 = .ok (.ireturn, 1) := by decide +kernel
theorem dX5_tell_82 : decode cX5_tell 82 = .ok (.iload_n 2, 1) := by decide +kernel
theorem dX5_tell_83 : decode cX5_tell 83 = .ok (.ifCond .eq 10, 3) := by decide +kernel
theorem dX5_tell_86 : decode cX5_tell 86 = .ok (.aload_n 0, 1) := by decide +kernel
theorem dX5_tell_87 : decode cX5_tell 87 = .ok (.getfield 18, 3) := by decide +kernel
theorem dX5_tell_90 : decode cX5_tell 90 = .ok (.goto 4, 3) := by decide +kernel
theorem dX5_tell_93 : decode cX5_tell 93 = .ok (.iconst (-1), 1) := by decide +kernel
theorem dX5_tell_94 : decode cX5_tell 94 = .ok (.ireturn, 1) := by decide +kernel
theorem dX5_tell_95 : decode cX5_tell 95 = .ok (.iload_n 2, 1) := by decide +kernel
theorem dX5_tell_96 : decode cX5_tell 96 = .ok (.ifCond .eq 10, 3) := by decide +kernel
theorem dX5_tell_99 : decode cX5_tell 99 = .ok (.aload_n 0, 1) := by decide +kernel
theorem dX5_tell_100 : decode cX5_tell 100 = .ok (.getfield 21, 3) := by decide +kernel
theorem dX5_tell_103 : decode cX5_tell 103 = .ok (.goto 4, 3) := by decide +kernel
theorem dX5_tell_106 : decode cX5_tell 106 = .ok (.iconst (-1), 1) := by decide +kernel
theorem dX5_tell_107 : decode cX5_tell 107 = .ok (.ireturn, 1) := by decide +kernel
theorem dX5_tell_108 : decode cX5_tell 108 = .ok (.iconst (-1), 1) := by decide +kernel
theorem dX5_tell_109 : decode cX5_tell 109 = .ok (.ireturn, 1) := by decide +kernel
theorem dX6_init_0 : decode cX6_init 0 = .ok (.aload_n 0, 1) := by decide +kernel
theorem dX6_init_1 : decode cX6_init 1 = .ok (.invokespecial 3, 3) := by decide +kernel
theorem dX6_init_4 : decode cX6_init 4 = .ok (.aload_n 0, 1) := by decide +kernel
theorem dX6_init_5 : decode cX6_init 5 = .ok (.iconst 4, 1) := by decide +kernel
theorem dX6_init_6 : decode cX6_init 6 = .ok (.newarray .int, 2) := by decide +kernel
theorem dX6_init_8 : decode cX6_init 8 = .ok (.putfield 9, 3) := by decide +kernel
theorem dX6_init_11 : decode cX6_init 11 = .ok (.aload_n 0, 1) := by decide +kernel
theorem dX6_init_12 : decode cX6_init 12 = .ok (.iconst 4, 1) := by decide +kernel
theorem dX6_init_13 : decode cX6_init 13 = .ok (.newarray .int, 2) := by decide +kernel
theorem dX6_init_15 : decode cX6_init 15 = .ok (.putfield 15, 3) := by decide +kernel
theorem dX6_init_18 : decode cX6_init 18 = .ok (.aload_n 0, 1) := by decide +kernel
theorem dX6_init_19 : decode cX6_init 19 = .ok (.bipush 24, 2) := by decide +kernel
theorem dX6_init_21 : decode cX6_init 21 = .ok (.anewarray 18, 3) := by decide +kernel
theorem dX6_init_24 : decode cX6_init 24 = .ok (.putfield 20, 3) := by decide +kernel
theorem dX6_init_27 : decode cX6_init 27 = .ok (.aload_n 0, 1) := by decide +kernel
theorem dX6_init_28 : decode cX6_init 28 = .ok (.new 18, 3) := by decide +kernel
theorem dX6_init_31 : decode cX6_init 31 = .ok (.dup, 1) := by decide +kernel
theorem dX6_init_32 : decode cX6_init 32 = .ok (.invokespecial 24, 3) := by decide +kernel
theorem dX6_init_35 : decode cX6_init 35 = .ok (.putfield 25, 3) := by decide +kernel
theorem dX6_init_38 : decode cX6_init 38 = .ok (.iconst 0, 1) := by decide +kernel
theorem dX6_init_39 : decode cX6_init 39 = .ok (.istore_n 1, 1) := by decide +kernel
theorem dX6_init_40 : decode cX6_init 40 = .ok (.iload_n 1, 1) := by decide +kernel
theorem dX6_init_41 : decode cX6_init 41 = .ok (.bipush 24, 2) := by decide +kernel
theorem dX6_init_43 : decode cX6_init 43 = .ok (.if_icmp .ge 22, 3) := by decide +kernel
theorem dX6_init_46 : decode cX6_init 46 = .ok (.aload_n 0, 1) := by decide +kernel
theorem dX6_init_47 : decode cX6_init 47 = .ok (.getfield 20, 3) := by decide +kernel
theorem dX6_init_50 : decode cX6_init 50 = .ok (.iload_n 1, 1) := by decide +kernel
theorem dX6_init_51 : decode cX6_init 51 = .ok (.new 18, 3) := by decide +kernel
theorem dX6_init_54 : decode cX6_init 54 = .ok (.dup, 1) := by decide +kernel
theorem dX6_init_55 : decode cX6_init 55 = .ok (.invokespecial 24, 3) := by decide +kernel
theorem dX6_init_58 : decode cX6_init 58 = .ok (.aastore, 1) := by decide +kernel
theorem dX6_init_59 : decode cX6_init 59 = .ok (.iinc 1 1, 3) := by decide +kernel
theorem dX6_init_62 : decode cX6_init 62 = .ok (.goto (-22), 3) := by decide +kernel
theorem dX6_init_65 : decode cX6_init 65 = .ok (.return_, 1) := by decide +kernel
theorem dX6_keyAt_0 : decode cX6_keyAt 0 = .ok (.iload_n 1, 1) := by decide +kernel
theorem dX6_keyAt_1 : decode cX6_keyAt 1 = .ok (.iload_n 2, 1) := by decide +kernel
theorem dX6_keyAt_2 : decode cX6_keyAt 2 = .ok (.invokestatic 29, 3) := by decide +kernel
theorem dX6_keyAt_5 : decode cX6_keyAt 5 = .ok (.istore_n 3, 1) := by decide +kernel
theorem dX6_keyAt_6 : decode cX6_keyAt 6 = .ok (.iload_n 3, 1) := by decide +kernel
theorem dX6_keyAt_7 : decode cX6_keyAt 7 = .ok (.iconst 2, 1) := by decide +kernel
theorem dX6_keyAt_8 : decode cX6_keyAt 8 = .ok (.if_icmp .ne 13, 3) := by decide +kernel
theorem dX6_keyAt_11 : decode cX6_keyAt 11 = .ok (.iload_n 1, 1) := by decide +kernel
theorem dX6_keyAt_12 : decode cX6_keyAt 12 = .ok (.iload_n 2, 1) := by decide +kernel
theorem dX6_keyAt_13 : decode cX6_keyAt 13 = .ok (.invokestatic 35, 3) := by decide +kernel
theorem dX6_keyAt_16 : decode cX6_keyAt 16 = .ok (.iconst 1, 1) := by decide +kernel
theorem dX6_keyAt_17 : decode cX6_keyAt 17 = .ok (.isub, 1) := by decide +kernel
theorem dX6_keyAt_18 : decode cX6_keyAt 18 = .ok (.goto 4, 3) := by decide +kernel
theorem dX6_keyAt_21 : decode cX6_keyAt 21 = .ok (.iload_n 3, 1) := by decide +kernel
theorem dX6_keyAt_22 : decode cX6_keyAt 22 = .ok (.istore 4, 2) := by decide +kernel
theorem dX6_keyAt_24 : decode cX6_keyAt 24 = .ok (.iload 4, 2) := by decide +kernel
theorem dX6_keyAt_26 : decode cX6_keyAt 26 = .ok (.ifCond .lt 9, 3) := by decide +kernel
theorem dX6_keyAt_29 : decode cX6_keyAt 29 = .ok (.iload 4, 2) := by decide +kernel
theorem dX6_keyAt_31 : decode cX6_keyAt 31 = .ok (.iconst 4, 1) := by decide +kernel
theorem dX6_keyAt_32 : decode cX6_keyAt 32 = .ok (.if_icmp .lt 5, 3) := by decide +kernel
theorem dX6_keyAt_35 : decode cX6_keyAt 35 = .ok (.iconst 0, 1) := by decide +kernel
theorem dX6_keyAt_36 : decode cX6_keyAt 36 = .ok (.ireturn, 1) := by decide +kernel
theorem dX6_keyAt_37 : decode cX6_keyAt 37 = .ok (.iload_n 1, 1) := by decide +kernel
theorem dX6_keyAt_38 : decode cX6_keyAt 38 = .ok (.iload_n 3, 1) := by decide +kernel
theorem dX6_keyAt_39 : decode cX6_keyAt 39 = .ok (.if_icmp .ne 13, 3) := by decide +kernel
theorem dX6_keyAt_42 : decode cX6_keyAt 42 = .ok (.aload_n 0, 1) := by decide +kernel
theorem dX6_keyAt_43 : decode cX6_keyAt 43 = .ok (.getfield 9, 3) := by decide +kernel
theorem dX6_keyAt_46 : decode cX6_keyAt 46 = .ok (.iload 4, 2) := by decide +kernel
theorem dX6_keyAt_48 : decode cX6_keyAt 48 = .ok (.iaload, 1) := by decide +kernel
theorem dX6_keyAt_49 : decode cX6_keyAt 49 = .ok (.goto 10, 3) := by decide +kernel
theorem dX6_keyAt_52 : decode cX6_keyAt 52 = .ok (.aload_n 0, 1) := by decide +kernel
theorem dX6_keyAt_53 : decode cX6_keyAt 53 = .ok (.getfield 15, 3) := by decide +kernel
theorem dX6_keyAt_56 : decode cX6_keyAt 56 = .ok (.iload 4, 2) := by decide +kernel
theorem dX6_keyAt_58 : decode cX6_keyAt 58 = .ok (.iaload, 1) := by decide +kernel
theorem dX6_keyAt_59 : decode cX6_keyAt 59 = .ok (.ireturn, 1) := by decide +kernel
theorem dX6_isRight_0 : decode cX6_isRight 0 = .ok (.aload_n 1, 1) := by decide +kernel
theorem dX6_isRight_1 : decode cX6_isRight 1 = .ok (.getfield 38, 3) := by decide +kernel
theorem dX6_isRight_4 : decode cX6_isRight 4 = .ok (.astore_n 3, 1) := by decide +kernel
theorem dX6_isRight_5 : decode cX6_isRight 5 = .ok (.aload_n 0, 1) := by decide +kernel
theorem dX6_isRight_6 : decode cX6_isRight 6 = .ok (.aload_n 3, 1) := by decide +kernel
theorem dX6_isRight_7 : decode cX6_isRight 7 = .ok (.bipush 7, 2) := by decide +kernel
theorem dX6_isRight_9 : decode cX6_isRight 9 = .ok (.iaload, 1) := by decide +kernel
theorem dX6_isRight_10 : decode cX6_isRight 10 = .ok (.aload_n 3, 1) := by decide +kernel
theorem dX6_isRight_11 : decode cX6_isRight 11 = .ok (.bipush 6, 2) := by decide +kernel
theorem dX6_isRight_13 : decode cX6_isRight 13 = .ok (.iaload, 1) := by decide +kernel
theorem dX6_isRight_14 : decode cX6_isRight 14 = .ok (.invokevirtual 41, 3) := by decide +kernel
theorem dX6_isRight_17 : decode cX6_isRight 17 = .ok (.istore 4, 2) := by decide +kernel
theorem dX6_isRight_19 : decode cX6_isRight 19 = .ok (.aload_n 3, 1) := by decide +kernel
theorem dX6_isRight_20 : decode cX6_isRight 20 = .ok (.iconst 5, 1) := by decide +kernel
theorem dX6_isRight_21 : decode cX6_isRight 21 = .ok (.iaload, 1) := by decide +kernel
theorem dX6_isRight_22 : decode cX6_isRight 22 = .ok (.aload_n 1, 1) := by decide +kernel
theorem dX6_isRight_23 : decode cX6_isRight 23 = .ok (.iload 4, 2) := by decide +kernel
theorem dX6_isRight_25 : decode cX6_isRight 25 = .ok (.iload_n 2, 1) := by decide +kernel
theorem dX6_isRight_26 : decode cX6_isRight 26 = .ok (.invokevirtual 44, 3) := by decide +kernel
theorem dX6_isRight_29 : decode cX6_isRight 29 = .ok (.if_icmp .ne 7, 3) := by decide +kernel
theorem dX6_isRight_32 : decode cX6_isRight 32 = .ok (.iconst 1, 1) := by decide +kernel
theorem dX6_isRight_33 : decode cX6_isRight 33 = .ok (.goto 4, 3) := by decide +kernel
theorem dX6_isRight_36 : decode cX6_isRight 36 = .ok (.iconst 0, 1) := by decide +kernel
theorem dX6_isRight_37 : decode cX6_isRight 37 = .ok (.ireturn, 1) := by decide +kernel
theorem dX6_send_0 : decode cX6_send 0 = .ok (.aload_n 0, 1) := by decide +kernel
theorem dX6_send_1 : decode cX6_send 1 = .ok (.invokevirtual 47, 3) := by decide +kernel
theorem dX6_send_4 : decode cX6_send 4 = .ok (.ifCond .eq 4, 3) := by decide +kernel
theorem dX6_send_7 : decode cX6_send 7 = .ok (.return_, 1) := by decide +kernel
theorem dX6_send_8 : decode cX6_send 8 = .ok (.aload_n 0, 1) := by decide +kernel
theorem dX6_send_9 : decode cX6_send 9 = .ok (.getfield 20, 3) := by decide +kernel
theorem dX6_send_12 : decode cX6_send 12 = .ok (.aload_n 0, 1) := by decide +kernel
theorem dX6_send_13 : decode cX6_send 13 = .ok (.getfield 51, 3) := by decide +kernel
theorem dX6_send_16 : decode cX6_send 16 = .ok (.aaload, 1) := by decide +kernel
theorem dX6_send_17 : decode cX6_send 17 = .ok (.astore 8, 2) := by decide +kernel
theorem dX6_send_19 : decode cX6_send 19 = .ok (.aload_n 0, 1) := by decide +kernel
theorem dX6_send_20 : decode cX6_send 20 = .ok (.dup, 1) := by decide +kernel
theorem dX6_send_21 : decode cX6_send 21 = .ok (.getfield 51, 3) := by decide +kernel
theorem dX6_send_24 : decode cX6_send 24 = .ok (.iconst 1, 1) := by decide +kernel
theorem dX6_send_25 : decode cX6_send 25 = .ok (.iadd, 1) := by decide +kernel
theorem dX6_send_26 : decode cX6_send 26 = .ok (.putfield 51, 3) := by decide +kernel
theorem dX6_send_29 : decode cX6_send 29 = .ok (.aload 8, 2) := by decide +kernel
theorem dX6_send_31 : decode cX6_send 31 = .ok (.getfield 38, 3) := by decide +kernel
theorem dX6_send_34 : decode cX6_send 34 = .ok (.astore 9, 2) := by decide +kernel
theorem dX6_send_36 : decode cX6_send 36 = .ok (.aload 9, 2) := by decide +kernel
theorem dX6_send_38 : decode cX6_send 38 = .ok (.iconst 0, 1) := by decide +kernel
theorem dX6_send_39 : decode cX6_send 39 = .ok (.iload_n 3, 1) := by decide +kernel
theorem dX6_send_40 : decode cX6_send 40 = .ok (.iastore, 1) := by decide +kernel
theorem dX6_send_41 : decode cX6_send 41 = .ok (.aload 9, 2) := by decide +kernel
theorem dX6_send_43 : decode cX6_send 43 = .ok (.iconst 1, 1) := by decide +kernel
theorem dX6_send_44 : decode cX6_send 44 = .ok (.iload 4, 2) := by decide +kernel
theorem dX6_send_46 : decode cX6_send 46 = .ok (.iastore, 1) := by decide +kernel
theorem dX6_send_47 : decode cX6_send 47 = .ok (.aload 9, 2) := by decide +kernel
theorem dX6_send_49 : decode cX6_send 49 = .ok (.iconst 2, 1) := by decide +kernel
theorem dX6_send_50 : decode cX6_send 50 = .ok (.iload_n 3, 1) := by decide +kernel
theorem dX6_send_51 : decode cX6_send 51 = .ok (.invokestatic 55, 3) := by decide +kernel
theorem dX6_send_54 : decode cX6_send 54 = .ok (.ifCond .eq 8, 3) := by decide +kernel
theorem dX6_send_57 : decode cX6_send 57 = .ok (.iload 5, 2) := by decide +kernel
theorem dX6_send_59 : decode cX6_send 59 = .ok (.goto 4, 3) := by decide +kernel
theorem dX6_send_62 : decode cX6_send 62 = .ok (.iconst 0, 1) := by decide +kernel
theorem dX6_send_63 : decode cX6_send 63 = .ok (.iastore, 1) := by decide +kernel
theorem dX6_send_64 : decode cX6_send 64 = .ok (.aload 9, 2) := by decide +kernel
theorem dX6_send_66 : decode cX6_send 66 = .ok (.iconst 3, 1) := by decide +kernel
theorem dX6_send_67 : decode cX6_send 67 = .ok (.iload 6, 2) := by decide +kernel
theorem dX6_send_69 : decode cX6_send 69 = .ok (.iastore, 1) := by decide +kernel
theorem dX6_send_70 : decode cX6_send 70 = .ok (.aload 9, 2) := by decide +kernel
theorem dX6_send_72 : decode cX6_send 72 = .ok (.iconst 4, 1) := by decide +kernel
theorem dX6_send_73 : decode cX6_send 73 = .ok (.iload 7, 2) := by decide +kernel
theorem dX6_send_75 : decode cX6_send 75 = .ok (.iastore, 1) := by decide +kernel
theorem dX6_send_76 : decode cX6_send 76 = .ok (.aload 9, 2) := by decide +kernel
theorem dX6_send_78 : decode cX6_send 78 = .ok (.iconst 5, 1) := by decide +kernel
theorem dX6_send_79 : decode cX6_send 79 = .ok (.aload 8, 2) := by decide +kernel
theorem dX6_send_81 : decode cX6_send 81 = .ok (.aload_n 0, 1) := by decide +kernel
theorem dX6_send_82 : decode cX6_send 82 = .ok (.iload_n 1, 1) := by decide +kernel
theorem dX6_send_83 : decode cX6_send 83 = .ok (.iload_n 2, 1) := by decide +kernel
theorem dX6_send_84 : decode cX6_send 84 = .ok (.invokevirtual 41, 3) := by decide +kernel
theorem dX6_send_87 : decode cX6_send 87 = .ok (.iload 5, 2) := by decide +kernel
theorem dX6_send_89 : decode cX6_send 89 = .ok (.invokevirtual 44, 3) := by decide +kernel
theorem dX6_send_92 : decode cX6_send 92 = .ok (.iastore, 1) := by decide +kernel
theorem dX6_send_93 : decode cX6_send 93 = .ok (.aload 9, 2) := by decide +kernel
theorem dX6_send_95 : decode cX6_send 95 = .ok (.bipush 6, 2) := by decide +kernel
theorem dX6_send_97 : decode cX6_send 97 = .ok (.iload_n 1, 1) := by decide +kernel
theorem dX6_send_98 : decode cX6_send 98 = .ok (.iastore, 1) := by decide +kernel
theorem dX6_send_99 : decode cX6_send 99 = .ok (.aload 9, 2) := by decide +kernel
theorem dX6_send_101 : decode cX6_send 101 = .ok (.bipush 7, 2) := by decide +kernel
theorem dX6_send_103 : decode cX6_send 103 = .ok (.iload_n 2, 1) := by decide +kernel
theorem dX6_send_104 : decode cX6_send 104 = .ok (.iastore, 1) := by decide +kernel
theorem dX6_send_105 : decode cX6_send 105 = .ok (.return_, 1) := by decide +kernel
theorem dX6_isFull_0 : decode cX6_isFull 0 = .ok (.aload_n 0, 1) := by decide +kernel
theorem dX6_isFull_1 : decode cX6_isFull 1 = .ok (.getfield 51, 3) := by decide +kernel
theorem dX6_isFull_4 : decode cX6_isFull 4 = .ok (.bipush 24, 2) := by decide +kernel
theorem dX6_isFull_6 : decode cX6_isFull 6 = .ok (.if_icmp .lt 7, 3) := by decide +kernel
theorem dX6_isFull_9 : decode cX6_isFull 9 = .ok (.iconst 1, 1) := by decide +kernel
theorem dX6_isFull_10 : decode cX6_isFull 10 = .ok (.goto 4, 3) := by decide +kernel
theorem dX6_isFull_13 : decode cX6_isFull 13 = .ok (.iconst 0, 1) := by decide +kernel
theorem dX6_isFull_14 : decode cX6_isFull 14 = .ok (.ireturn, 1) := by decide +kernel
theorem dX6_isPlace_0 : decode cX6_isPlace 0 = .ok (.iload_n 1, 1) := by decide +kernel
theorem dX6_isPlace_1 : decode cX6_isPlace 1 = .ok (.ifCond .lt 15, 3) := by decide +kernel
theorem dX6_isPlace_4 : decode cX6_isPlace 4 = .ok (.iload_n 1, 1) := by decide +kernel
theorem dX6_isPlace_5 : decode cX6_isPlace 5 = .ok (.aload_n 0, 1) := by decide +kernel
theorem dX6_isPlace_6 : decode cX6_isPlace 6 = .ok (.getfield 51, 3) := by decide +kernel
theorem dX6_isPlace_9 : decode cX6_isPlace 9 = .ok (.if_icmp .ge 7, 3) := by decide +kernel
theorem dX6_isPlace_12 : decode cX6_isPlace 12 = .ok (.iconst 1, 1) := by decide +kernel
theorem dX6_isPlace_13 : decode cX6_isPlace 13 = .ok (.goto 4, 3) := by decide +kernel
theorem dX6_isPlace_16 : decode cX6_isPlace 16 = .ok (.iconst 0, 1) := by decide +kernel
theorem dX6_isPlace_17 : decode cX6_isPlace 17 = .ok (.ireturn, 1) := by decide +kernel
theorem dX6_takeOut_0 : decode cX6_takeOut 0 = .ok (.aload_n 0, 1) := by decide +kernel
theorem dX6_takeOut_1 : decode cX6_takeOut 1 = .ok (.getfield 25, 3) := by decide +kernel
theorem dX6_takeOut_4 : decode cX6_takeOut 4 = .ok (.astore_n 2, 1) := by decide +kernel
theorem dX6_takeOut_5 : decode cX6_takeOut 5 = .ok (.aload_n 0, 1) := by decide +kernel
theorem dX6_takeOut_6 : decode cX6_takeOut 6 = .ok (.aload_n 0, 1) := by decide +kernel
theorem dX6_takeOut_7 : decode cX6_takeOut 7 = .ok (.getfield 20, 3) := by decide +kernel
theorem dX6_takeOut_10 : decode cX6_takeOut 10 = .ok (.iload_n 1, 1) := by decide +kernel
theorem dX6_takeOut_11 : decode cX6_takeOut 11 = .ok (.aaload, 1) := by decide +kernel
theorem dX6_takeOut_12 : decode cX6_takeOut 12 = .ok (.putfield 25, 3) := by decide +kernel
theorem dX6_takeOut_15 : decode cX6_takeOut 15 = .ok (.aload_n 0, 1) := by decide +kernel
theorem dX6_takeOut_16 : decode cX6_takeOut 16 = .ok (.dup, 1) := by decide +kernel
theorem dX6_takeOut_17 : decode cX6_takeOut 17 = .ok (.getfield 51, 3) := by decide +kernel
theorem dX6_takeOut_20 : decode cX6_takeOut 20 = .ok (.iconst 1, 1) := by decide +kernel
theorem dX6_takeOut_21 : decode cX6_takeOut 21 = .ok (.isub, 1) := by decide +kernel
theorem dX6_takeOut_22 : decode cX6_takeOut 22 = .ok (.putfield 51, 3) := by decide +kernel
theorem dX6_takeOut_25 : decode cX6_takeOut 25 = .ok (.iload_n 1, 1) := by decide +kernel
theorem dX6_takeOut_26 : decode cX6_takeOut 26 = .ok (.istore_n 3, 1) := by decide +kernel
theorem dX6_takeOut_27 : decode cX6_takeOut 27 = .ok (.iload_n 3, 1) := by decide +kernel
theorem dX6_takeOut_28 : decode cX6_takeOut 28 = .ok (.aload_n 0, 1) := by decide +kernel
theorem dX6_takeOut_29 : decode cX6_takeOut 29 = .ok (.getfield 51, 3) := by decide +kernel
theorem dX6_takeOut_32 : decode cX6_takeOut 32 = .ok (.if_icmp .ge 23, 3) := by decide +kernel
theorem dX6_takeOut_35 : decode cX6_takeOut 35 = .ok (.aload_n 0, 1) := by decide +kernel
theorem dX6_takeOut_36 : decode cX6_takeOut 36 = .ok (.getfield 20, 3) := by decide +kernel
theorem dX6_takeOut_39 : decode cX6_takeOut 39 = .ok (.iload_n 3, 1) := by decide +kernel
theorem dX6_takeOut_40 : decode cX6_takeOut 40 = .ok (.aload_n 0, 1) := by decide +kernel
theorem dX6_takeOut_41 : decode cX6_takeOut 41 = .ok (.getfield 20, 3) := by decide +kernel
theorem dX6_takeOut_44 : decode cX6_takeOut 44 = .ok (.iload_n 3, 1) := by decide +kernel
theorem dX6_takeOut_45 : decode cX6_takeOut 45 = .ok (.iconst 1, 1) := by decide +kernel
theorem dX6_takeOut_46 : decode cX6_takeOut 46 = .ok (.iadd, 1) := by decide +kernel
theorem dX6_takeOut_47 : decode cX6_takeOut 47 = .ok (.aaload, 1) := by decide +kernel
theorem dX6_takeOut_48 : decode cX6_takeOut 48 = .ok (.aastore, 1) := by decide +kernel
theorem dX6_takeOut_49 : decode cX6_takeOut 49 = .ok (.iinc 3 1, 3) := by decide +kernel
theorem dX6_takeOut_52 : decode cX6_takeOut 52 = .ok (.goto (-25), 3) := by decide +kernel
theorem dX6_takeOut_55 : decode cX6_takeOut 55 = .ok (.aload_n 0, 1) := by decide +kernel
theorem dX6_takeOut_56 : decode cX6_takeOut 56 = .ok (.getfield 20, 3) := by decide +kernel
theorem dX6_takeOut_59 : decode cX6_takeOut 59 = .ok (.aload_n 0, 1) := by decide +kernel
theorem dX6_takeOut_60 : decode cX6_takeOut 60 = .ok (.getfield 51, 3) := by decide +kernel
theorem dX6_takeOut_63 : decode cX6_takeOut 63 = .ok (.aload_n 2, 1) := by decide +kernel
theorem dX6_takeOut_64 : decode cX6_takeOut 64 = .ok (.aastore, 1) := by decide +kernel
theorem dX6_takeOut_65 : decode cX6_takeOut 65 = .ok (.aload_n 0, 1) := by decide +kernel
theorem dX6_takeOut_66 : decode cX6_takeOut 66 = .ok (.getfield 25, 3) := by decide +kernel
theorem dX6_takeOut_69 : decode cX6_takeOut 69 = .ok (.areturn, 1) := by decide +kernel
theorem dX6_putCopyAtEnd_0 : decode cX6_putCopyAtEnd 0 = .ok (.aload_n 0, 1) := by decide +kernel
theorem dX6_putCopyAtEnd_1 : decode cX6_putCopyAtEnd 1 = .ok (.getfield 20, 3) := by decide +kernel
theorem dX6_putCopyAtEnd_4 : decode cX6_putCopyAtEnd 4 = .ok (.iload_n 1, 1) := by decide +kernel
theorem dX6_putCopyAtEnd_5 : decode cX6_putCopyAtEnd 5 = .ok (.aaload, 1) := by decide +kernel
theorem dX6_putCopyAtEnd_6 : decode cX6_putCopyAtEnd 6 = .ok (.getfield 38, 3) := by decide +kernel
theorem dX6_putCopyAtEnd_9 : decode cX6_putCopyAtEnd 9 = .ok (.iconst 0, 1) := by decide +kernel
theorem dX6_putCopyAtEnd_10 : decode cX6_putCopyAtEnd 10 = .ok (.aload_n 0, 1) := by decide +kernel
theorem dX6_putCopyAtEnd_11 : decode cX6_putCopyAtEnd 11 = .ok (.getfield 20, 3) := by decide +kernel
theorem dX6_putCopyAtEnd_14 : decode cX6_putCopyAtEnd 14 = .ok (.aload_n 0, 1) := by decide +kernel
theorem dX6_putCopyAtEnd_15 : decode cX6_putCopyAtEnd 15 = .ok (.getfield 51, 3) := by decide +kernel
theorem dX6_putCopyAtEnd_18 : decode cX6_putCopyAtEnd 18 = .ok (.aaload, 1) := by decide +kernel
theorem dX6_putCopyAtEnd_19 : decode cX6_putCopyAtEnd 19 = .ok (.getfield 38, 3) := by decide +kernel
theorem dX6_putCopyAtEnd_22 : decode cX6_putCopyAtEnd 22 = .ok (.iconst 0, 1) := by decide +kernel
theorem dX6_putCopyAtEnd_23 : decode cX6_putCopyAtEnd 23 = .ok (.bipush 8, 2) := by decide +kernel
theorem dX6_putCopyAtEnd_25 : decode cX6_putCopyAtEnd 25 = .ok (.invokestatic 59, 3) := by decide +kernel
theorem dX6_putCopyAtEnd_28 : decode cX6_putCopyAtEnd 28 = .ok (.aload_n 0, 1) := by decide +kernel
theorem dX6_putCopyAtEnd_29 : decode cX6_putCopyAtEnd 29 = .ok (.dup, 1) := by decide +kernel
theorem dX6_putCopyAtEnd_30 : decode cX6_putCopyAtEnd 30 = .ok (.getfield 51, 3) := by decide +kernel
theorem dX6_putCopyAtEnd_33 : decode cX6_putCopyAtEnd 33 = .ok (.iconst 1, 1) := by decide +kernel
theorem dX6_putCopyAtEnd_34 : decode cX6_putCopyAtEnd 34 = .ok (.iadd, 1) := by decide +kernel
theorem dX6_putCopyAtEnd_35 : decode cX6_putCopyAtEnd 35 = .ok (.putfield 51, 3) := by decide +kernel
theorem dX6_putCopyAtEnd_38 : decode cX6_putCopyAtEnd 38 = .ok (.return_, 1) := by decide +kernel
theorem dX7_init_0 : decode cX7_init 0 = .ok (.aload_n 0, 1) := by decide +kernel
theorem dX7_init_1 : decode cX7_init 1 = .ok (.invokespecial 3, 3) := by decide +kernel
theorem dX7_init_4 : decode cX7_init 4 = .ok (.aload_n 0, 1) := by decide +kernel
theorem dX7_init_5 : decode cX7_init 5 = .ok (.iconst 4, 1) := by decide +kernel
theorem dX7_init_6 : decode cX7_init 6 = .ok (.anewarray 11, 3) := by decide +kernel
theorem dX7_init_9 : decode cX7_init 9 = .ok (.putfield 13, 3) := by decide +kernel
theorem dX7_init_12 : decode cX7_init 12 = .ok (.aload_n 0, 1) := by decide +kernel
theorem dX7_init_13 : decode cX7_init 13 = .ok (.iconst (-1), 1) := by decide +kernel
theorem dX7_init_14 : decode cX7_init 14 = .ok (.putfield 17, 3) := by decide +kernel
theorem dX7_init_17 : decode cX7_init 17 = .ok (.aload_n 0, 1) := by decide +kernel
theorem dX7_init_18 : decode cX7_init 18 = .ok (.iload_n 1, 1) := by decide +kernel
theorem dX7_init_19 : decode cX7_init 19 = .ok (.putfield 21, 3) := by decide +kernel
theorem dX7_init_22 : decode cX7_init 22 = .ok (.iconst 0, 1) := by decide +kernel
theorem dX7_init_23 : decode cX7_init 23 = .ok (.istore_n 2, 1) := by decide +kernel
theorem dX7_init_24 : decode cX7_init 24 = .ok (.iload_n 2, 1) := by decide +kernel
theorem dX7_init_25 : decode cX7_init 25 = .ok (.iconst 4, 1) := by decide +kernel
theorem dX7_init_26 : decode cX7_init 26 = .ok (.if_icmp .ge 22, 3) := by decide +kernel
theorem dX7_init_29 : decode cX7_init 29 = .ok (.aload_n 0, 1) := by decide +kernel
theorem dX7_init_30 : decode cX7_init 30 = .ok (.getfield 13, 3) := by decide +kernel
theorem dX7_init_33 : decode cX7_init 33 = .ok (.iload_n 2, 1) := by decide +kernel
theorem dX7_init_34 : decode cX7_init 34 = .ok (.new 11, 3) := by decide +kernel
theorem dX7_init_37 : decode cX7_init 37 = .ok (.dup, 1) := by decide +kernel
theorem dX7_init_38 : decode cX7_init 38 = .ok (.invokespecial 24, 3) := by decide +kernel
theorem dX7_init_41 : decode cX7_init 41 = .ok (.aastore, 1) := by decide +kernel
theorem dX7_init_42 : decode cX7_init 42 = .ok (.iinc 2 1, 3) := by decide +kernel
theorem dX7_init_45 : decode cX7_init 45 = .ok (.goto (-21), 3) := by decide +kernel
theorem dX7_init_48 : decode cX7_init 48 = .ok (.return_, 1) := by decide +kernel
theorem dX7_makePending_0 : decode cX7_makePending 0 = .ok (.aload_n 1, 1) := by decide +kernel
theorem dX7_makePending_1 : decode cX7_makePending 1 = .ok (.aload_n 0, 1) := by decide +kernel
theorem dX7_makePending_2 : decode cX7_makePending 2 = .ok (.invokevirtual 25, 3) := by decide +kernel
theorem dX7_makePending_5 : decode cX7_makePending 5 = .ok (.putfield 29, 3) := by decide +kernel
theorem dX7_makePending_8 : decode cX7_makePending 8 = .ok (.aload_n 1, 1) := by decide +kernel
theorem dX7_makePending_9 : decode cX7_makePending 9 = .ok (.iload_n 2, 1) := by decide +kernel
theorem dX7_makePending_10 : decode cX7_makePending 10 = .ok (.putfield 32, 3) := by decide +kernel
theorem dX7_makePending_13 : decode cX7_makePending 13 = .ok (.aload_n 1, 1) := by decide +kernel
theorem dX7_makePending_14 : decode cX7_makePending 14 = .ok (.iload_n 3, 1) := by decide +kernel
theorem dX7_makePending_15 : decode cX7_makePending 15 = .ok (.putfield 35, 3) := by decide +kernel
theorem dX7_makePending_18 : decode cX7_makePending 18 = .ok (.aload_n 1, 1) := by decide +kernel
theorem dX7_makePending_19 : decode cX7_makePending 19 = .ok (.iconst 0, 1) := by decide +kernel
theorem dX7_makePending_20 : decode cX7_makePending 20 = .ok (.putfield 38, 3) := by decide +kernel
theorem dX7_makePending_23 : decode cX7_makePending 23 = .ok (.aload_n 0, 1) := by decide +kernel
theorem dX7_makePending_24 : decode cX7_makePending 24 = .ok (.aload_n 1, 1) := by decide +kernel
theorem dX7_makePending_25 : decode cX7_makePending 25 = .ok (.aload 4, 2) := by decide +kernel
theorem dX7_makePending_27 : decode cX7_makePending 27 = .ok (.invokevirtual 41, 3) := by decide +kernel
theorem dX7_makePending_30 : decode cX7_makePending 30 = .ok (.aload_n 1, 1) := by decide +kernel
theorem dX7_makePending_31 : decode cX7_makePending 31 = .ok (.getfield 29, 3) := by decide +kernel
theorem dX7_makePending_34 : decode cX7_makePending 34 = .ok (.ireturn, 1) := by decide +kernel
theorem dX7_newId_0 : decode cX7_newId 0 = .ok (.aload_n 0, 1) := by decide +kernel
theorem dX7_newId_1 : decode cX7_newId 1 = .ok (.getfield 17, 3) := by decide +kernel
theorem dX7_newId_4 : decode cX7_newId 4 = .ok (.invokestatic 45, 3) := by decide +kernel
theorem dX7_newId_7 : decode cX7_newId 7 = .ok (.istore_n 1, 1) := by decide +kernel
theorem dX7_newId_8 : decode cX7_newId 8 = .ok (.iconst 0, 1) := by decide +kernel
theorem dX7_newId_9 : decode cX7_newId 9 = .ok (.istore_n 2, 1) := by decide +kernel
theorem dX7_newId_10 : decode cX7_newId 10 = .ok (.iload_n 2, 1) := by decide +kernel
theorem dX7_newId_11 : decode cX7_newId 11 = .ok (.bipush 8, 2) := by decide +kernel
theorem dX7_newId_13 : decode cX7_newId 13 = .ok (.if_icmp .ge 22, 3) := by decide +kernel
theorem dX7_newId_16 : decode cX7_newId 16 = .ok (.aload_n 0, 1) := by decide +kernel
theorem dX7_newId_17 : decode cX7_newId 17 = .ok (.iload_n 1, 1) := by decide +kernel
theorem dX7_newId_18 : decode cX7_newId 18 = .ok (.invokevirtual 49, 3) := by decide +kernel
theorem dX7_newId_21 : decode cX7_newId 21 = .ok (.ifnull 14, 3) := by decide +kernel
theorem dX7_newId_24 : decode cX7_newId 24 = .ok (.iload_n 1, 1) := by decide +kernel
theorem dX7_newId_25 : decode cX7_newId 25 = .ok (.invokestatic 45, 3) := by decide +kernel
theorem dX7_newId_28 : decode cX7_newId 28 = .ok (.istore_n 1, 1) := by decide +kernel
theorem dX7_newId_29 : decode cX7_newId 29 = .ok (.iinc 2 1, 3) := by decide +kernel
theorem dX7_newId_32 : decode cX7_newId 32 = .ok (.goto (-22), 3) := by decide +kernel
theorem dX7_newId_35 : decode cX7_newId 35 = .ok (.aload_n 0, 1) := by decide +kernel
theorem dX7_newId_36 : decode cX7_newId 36 = .ok (.iload_n 1, 1) := by decide +kernel
theorem dX7_newId_37 : decode cX7_newId 37 = .ok (.putfield 17, 3) := by decide +kernel
theorem dX7_newId_40 : decode cX7_newId 40 = .ok (.iload_n 1, 1) := by decide +kernel
theorem dX7_newId_41 : decode cX7_newId 41 = .ok (.ireturn, 1) := by decide +kernel
theorem dX7_idBehind_0 : decode cX7_idBehind 0 = .ok (.iload_n 0, 1) := by decide +kernel
theorem dX7_idBehind_1 : decode cX7_idBehind 1 = .ok (.iconst 1, 1) := by decide +kernel
theorem dX7_idBehind_2 : decode cX7_idBehind 2 = .ok (.iadd, 1) := by decide +kernel
theorem dX7_idBehind_3 : decode cX7_idBehind 3 = .ok (.bipush 8, 2) := by decide +kernel
theorem dX7_idBehind_5 : decode cX7_idBehind 5 = .ok (.irem, 1) := by decide +kernel
theorem dX7_idBehind_6 : decode cX7_idBehind 6 = .ok (.ireturn, 1) := by decide +kernel
theorem dX7_pendingLineWith_0 : decode cX7_pendingLineWith 0 = .ok (.iconst 0, 1) := by decide +kernel
theorem dX7_pendingLineWith_1 : decode cX7_pendingLineWith 1 = .ok (.istore_n 2, 1) := by decide +kernel
theorem dX7_pendingLineWith_2 : decode cX7_pendingLineWith 2 = .ok (.iload_n 2, 1) := by decide +kernel
theorem dX7_pendingLineWith_3 : decode cX7_pendingLineWith 3 = .ok (.iconst 4, 1) := by decide +kernel
theorem dX7_pendingLineWith_4 : decode cX7_pendingLineWith 4 = .ok (.if_icmp .ge 41, 3) := by decide +kernel
theorem dX7_pendingLineWith_7 : decode cX7_pendingLineWith 7 = .ok (.aload_n 0, 1) := by decide +kernel
theorem dX7_pendingLineWith_8 : decode cX7_pendingLineWith 8 = .ok (.getfield 13, 3) := by decide +kernel
theorem dX7_pendingLineWith_11 : decode cX7_pendingLineWith 11 = .ok (.iload_n 2, 1) := by decide +kernel
theorem dX7_pendingLineWith_12 : decode cX7_pendingLineWith 12 = .ok (.aaload, 1) := by decide +kernel
theorem dX7_pendingLineWith_13 : decode cX7_pendingLineWith 13 = .ok (.invokevirtual 53, 3) := by decide +kernel
theorem dX7_pendingLineWith_16 : decode cX7_pendingLineWith 16 = .ok (.ifCond .eq 23, 3) := by decide +kernel
theorem dX7_pendingLineWith_19 : decode cX7_pendingLineWith 19 = .ok (.aload_n 0, 1) := by decide +kernel
theorem dX7_pendingLineWith_20 : decode cX7_pendingLineWith 20 = .ok (.getfield 13, 3) := by decide +kernel
theorem dX7_pendingLineWith_23 : decode cX7_pendingLineWith 23 = .ok (.iload_n 2, 1) := by decide +kernel
theorem dX7_pendingLineWith_24 : decode cX7_pendingLineWith 24 = .ok (.aaload, 1) := by decide +kernel
theorem dX7_pendingLineWith_25 : decode cX7_pendingLineWith 25 = .ok (.getfield 29, 3) := by decide +kernel
theorem dX7_pendingLineWith_28 : decode cX7_pendingLineWith 28 = .ok (.iload_n 1, 1) := by decide +kernel
theorem dX7_pendingLineWith_29 : decode cX7_pendingLineWith 29 = .ok (.if_icmp .ne 10, 3) := by decide +kernel
theorem dX7_pendingLineWith_32 : decode cX7_pendingLineWith 32 = .ok (.aload_n 0, 1) := by decide +kernel
theorem dX7_pendingLineWith_33 : decode cX7_pendingLineWith 33 = .ok (.getfield 13, 3) := by decide +kernel
theorem dX7_pendingLineWith_36 : decode cX7_pendingLineWith 36 = .ok (.iload_n 2, 1) := by decide +kernel
theorem dX7_pendingLineWith_37 : decode cX7_pendingLineWith 37 = .ok (.aaload, 1) := by decide +kernel
theorem dX7_pendingLineWith_38 : decode cX7_pendingLineWith 38 = .ok (.areturn, 1) := by decide +kernel
theorem dX7_pendingLineWith_39 : decode cX7_pendingLineWith 39 = .ok (.iinc 2 1, 3) := by decide +kernel
theorem dX7_pendingLineWith_42 : decode cX7_pendingLineWith 42 = .ok (.goto (-40), 3) := by decide +kernel
theorem dX7_pendingLineWith_45 : decode cX7_pendingLineWith 45 = .ok (.aconst_null, 1) := by decide +kernel
theorem dX7_pendingLineWith_46 : decode cX7_pendingLineWith 46 = .ok (.areturn, 1) := by decide +kernel
theorem dX7_sendFor_0 : decode cX7_sendFor 0 = .ok (.aload_n 1, 1) := by decide +kernel
theorem dX7_sendFor_1 : decode cX7_sendFor 1 = .ok (.dup, 1) := by decide +kernel
theorem dX7_sendFor_2 : decode cX7_sendFor 2 = .ok (.getfield 38, 3) := by decide +kernel
theorem dX7_sendFor_5 : decode cX7_sendFor 5 = .ok (.iconst 1, 1) := by decide +kernel
theorem dX7_sendFor_6 : decode cX7_sendFor 6 = .ok (.iadd, 1) := by decide +kernel
theorem dX7_sendFor_7 : decode cX7_sendFor 7 = .ok (.putfield 38, 3) := by decide +kernel
theorem dX7_sendFor_10 : decode cX7_sendFor 10 = .ok (.aload_n 1, 1) := by decide +kernel
theorem dX7_sendFor_11 : decode cX7_sendFor 11 = .ok (.aload_n 2, 1) := by decide +kernel
theorem dX7_sendFor_12 : decode cX7_sendFor 12 = .ok (.getfield 57, 3) := by decide +kernel
theorem dX7_sendFor_15 : decode cX7_sendFor 15 = .ok (.putfield 62, 3) := by decide +kernel
theorem dX7_sendFor_18 : decode cX7_sendFor 18 = .ok (.aload_n 1, 1) := by decide +kernel
theorem dX7_sendFor_19 : decode cX7_sendFor 19 = .ok (.getfield 32, 3) := by decide +kernel
theorem dX7_sendFor_22 : decode cX7_sendFor 22 = .ok (.iconst 1, 1) := by decide +kernel
theorem dX7_sendFor_23 : decode cX7_sendFor 23 = .ok (.if_icmp .ne 51, 3) := by decide +kernel
theorem dX7_sendFor_26 : decode cX7_sendFor 26 = .ok (.aload_n 1, 1) := by decide +kernel
theorem dX7_sendFor_27 : decode cX7_sendFor 27 = .ok (.getfield 65, 3) := by decide +kernel
theorem dX7_sendFor_30 : decode cX7_sendFor 30 = .ok (.aload_n 2, 1) := by decide +kernel
theorem dX7_sendFor_31 : decode cX7_sendFor 31 = .ok (.aload_n 0, 1) := by decide +kernel
theorem dX7_sendFor_32 : decode cX7_sendFor 32 = .ok (.getfield 21, 3) := by decide +kernel
theorem dX7_sendFor_35 : decode cX7_sendFor 35 = .ok (.iconst 2, 1) := by decide +kernel
theorem dX7_sendFor_36 : decode cX7_sendFor 36 = .ok (.invokevirtual 68, 3) := by decide +kernel
theorem dX7_sendFor_39 : decode cX7_sendFor 39 = .ok (.aload_n 1, 1) := by decide +kernel
theorem dX7_sendFor_40 : decode cX7_sendFor 40 = .ok (.getfield 35, 3) := by decide +kernel
theorem dX7_sendFor_43 : decode cX7_sendFor 43 = .ok (.invokestatic 72, 3) := by decide +kernel
theorem dX7_sendFor_46 : decode cX7_sendFor 46 = .ok (.ixor, 1) := by decide +kernel
theorem dX7_sendFor_47 : decode cX7_sendFor 47 = .ok (.istore_n 3, 1) := by decide +kernel
theorem dX7_sendFor_48 : decode cX7_sendFor 48 = .ok (.aload_n 2, 1) := by decide +kernel
theorem dX7_sendFor_49 : decode cX7_sendFor 49 = .ok (.aload_n 0, 1) := by decide +kernel
theorem dX7_sendFor_50 : decode cX7_sendFor 50 = .ok (.getfield 21, 3) := by decide +kernel
theorem dX7_sendFor_53 : decode cX7_sendFor 53 = .ok (.iconst 2, 1) := by decide +kernel
theorem dX7_sendFor_54 : decode cX7_sendFor 54 = .ok (.iconst 0, 1) := by decide +kernel
theorem dX7_sendFor_55 : decode cX7_sendFor 55 = .ok (.aload_n 1, 1) := by decide +kernel
theorem dX7_sendFor_56 : decode cX7_sendFor 56 = .ok (.getfield 29, 3) := by decide +kernel
theorem dX7_sendFor_59 : decode cX7_sendFor 59 = .ok (.aload_n 1, 1) := by decide +kernel
theorem dX7_sendFor_60 : decode cX7_sendFor 60 = .ok (.getfield 35, 3) := by decide +kernel
theorem dX7_sendFor_63 : decode cX7_sendFor 63 = .ok (.aload_n 1, 1) := by decide +kernel
theorem dX7_sendFor_64 : decode cX7_sendFor 64 = .ok (.getfield 75, 3) := by decide +kernel
theorem dX7_sendFor_67 : decode cX7_sendFor 67 = .ok (.iload_n 3, 1) := by decide +kernel
theorem dX7_sendFor_68 : decode cX7_sendFor 68 = .ok (.invokevirtual 78, 3) := by decide +kernel
theorem dX7_sendFor_71 : decode cX7_sendFor 71 = .ok (.goto 29, 3) := by decide +kernel
theorem dX7_sendFor_74 : decode cX7_sendFor 74 = .ok (.aload_n 2, 1) := by decide +kernel
theorem dX7_sendFor_75 : decode cX7_sendFor 75 = .ok (.aload_n 0, 1) := by decide +kernel
theorem dX7_sendFor_76 : decode cX7_sendFor 76 = .ok (.getfield 21, 3) := by decide +kernel
theorem dX7_sendFor_79 : decode cX7_sendFor 79 = .ok (.iconst 2, 1) := by decide +kernel
theorem dX7_sendFor_80 : decode cX7_sendFor 80 = .ok (.iconst 3, 1) := by decide +kernel
theorem dX7_sendFor_81 : decode cX7_sendFor 81 = .ok (.aload_n 1, 1) := by decide +kernel
theorem dX7_sendFor_82 : decode cX7_sendFor 82 = .ok (.getfield 29, 3) := by decide +kernel
theorem dX7_sendFor_85 : decode cX7_sendFor 85 = .ok (.aload_n 1, 1) := by decide +kernel
theorem dX7_sendFor_86 : decode cX7_sendFor 86 = .ok (.getfield 35, 3) := by decide +kernel
theorem dX7_sendFor_89 : decode cX7_sendFor 89 = .ok (.aload_n 1, 1) := by decide +kernel
theorem dX7_sendFor_90 : decode cX7_sendFor 90 = .ok (.getfield 75, 3) := by decide +kernel
theorem dX7_sendFor_93 : decode cX7_sendFor 93 = .ok (.aload_n 1, 1) := by decide +kernel
theorem dX7_sendFor_94 : decode cX7_sendFor 94 = .ok (.getfield 82, 3) := by decide +kernel
theorem dX7_sendFor_97 : decode cX7_sendFor 97 = .ok (.invokevirtual 78, 3) := by decide +kernel
theorem dX7_sendFor_100 : decode cX7_sendFor 100 = .ok (.return_, 1) := by decide +kernel
theorem dX7_hear_0 : decode cX7_hear 0 = .ok (.aload_n 1, 1) := by decide +kernel
theorem dX7_hear_1 : decode cX7_hear 1 = .ok (.getfield 85, 3) := by decide +kernel
theorem dX7_hear_4 : decode cX7_hear 4 = .ok (.astore_n 3, 1) := by decide +kernel
theorem dX7_hear_5 : decode cX7_hear 5 = .ok (.aload_n 3, 1) := by decide +kernel
theorem dX7_hear_6 : decode cX7_hear 6 = .ok (.iconst 0, 1) := by decide +kernel
theorem dX7_hear_7 : decode cX7_hear 7 = .ok (.iaload, 1) := by decide +kernel
theorem dX7_hear_8 : decode cX7_hear 8 = .ok (.istore 4, 2) := by decide +kernel
theorem dX7_hear_10 : decode cX7_hear 10 = .ok (.aload_n 0, 1) := by decide +kernel
theorem dX7_hear_11 : decode cX7_hear 11 = .ok (.aload_n 3, 1) := by decide +kernel
theorem dX7_hear_12 : decode cX7_hear 12 = .ok (.iconst 1, 1) := by decide +kernel
theorem dX7_hear_13 : decode cX7_hear 13 = .ok (.iaload, 1) := by decide +kernel
theorem dX7_hear_14 : decode cX7_hear 14 = .ok (.invokevirtual 49, 3) := by decide +kernel
theorem dX7_hear_17 : decode cX7_hear 17 = .ok (.astore 5, 2) := by decide +kernel
theorem dX7_hear_19 : decode cX7_hear 19 = .ok (.aload 5, 2) := by decide +kernel
theorem dX7_hear_21 : decode cX7_hear 21 = .ok (.ifnull 26, 3) := by decide +kernel
theorem dX7_hear_24 : decode cX7_hear 24 = .ok (.aload 5, 2) := by decide +kernel
theorem dX7_hear_26 : decode cX7_hear 26 = .ok (.iload 4, 2) := by decide +kernel
theorem dX7_hear_28 : decode cX7_hear 28 = .ok (.invokevirtual 91, 3) := by decide +kernel
theorem dX7_hear_31 : decode cX7_hear 31 = .ok (.ifCond .eq 16, 3) := by decide +kernel
theorem dX7_hear_34 : decode cX7_hear 34 = .ok (.aload_n 2, 1) := by decide +kernel
theorem dX7_hear_35 : decode cX7_hear 35 = .ok (.aload_n 1, 1) := by decide +kernel
theorem dX7_hear_36 : decode cX7_hear 36 = .ok (.aload 5, 2) := by decide +kernel
theorem dX7_hear_38 : decode cX7_hear 38 = .ok (.getfield 35, 3) := by decide +kernel
theorem dX7_hear_41 : decode cX7_hear 41 = .ok (.invokevirtual 95, 3) := by decide +kernel
theorem dX7_hear_44 : decode cX7_hear 44 = .ok (.ifCond .ne 5, 3) := by decide +kernel
theorem dX7_hear_47 : decode cX7_hear 47 = .ok (.iconst 0, 1) := by decide +kernel
theorem dX7_hear_48 : decode cX7_hear 48 = .ok (.ireturn, 1) := by decide +kernel
theorem dX7_hear_49 : decode cX7_hear 49 = .ok (.aload 5, 2) := by decide +kernel
theorem dX7_hear_51 : decode cX7_hear 51 = .ok (.iload 4, 2) := by decide +kernel
theorem dX7_hear_53 : decode cX7_hear 53 = .ok (.aload_n 3, 1) := by decide +kernel
theorem dX7_hear_54 : decode cX7_hear 54 = .ok (.iconst 3, 1) := by decide +kernel
theorem dX7_hear_55 : decode cX7_hear 55 = .ok (.iaload, 1) := by decide +kernel
theorem dX7_hear_56 : decode cX7_hear 56 = .ok (.aload_n 3, 1) := by decide +kernel
theorem dX7_hear_57 : decode cX7_hear 57 = .ok (.iconst 4, 1) := by decide +kernel
theorem dX7_hear_58 : decode cX7_hear 58 = .ok (.iaload, 1) := by decide +kernel
theorem dX7_hear_59 : decode cX7_hear 59 = .ok (.invokevirtual 99, 3) := by decide +kernel
theorem dX7_hear_62 : decode cX7_hear 62 = .ok (.iconst 1, 1) := by decide +kernel
theorem dX7_hear_63 : decode cX7_hear 63 = .ok (.ireturn, 1) := by decide +kernel
theorem dX7_sendAgainOrGiveUp_0 : decode cX7_sendAgainOrGiveUp 0 = .ok (.iconst 0, 1) := by decide +kernel
theorem dX7_sendAgainOrGiveUp_1 : decode cX7_sendAgainOrGiveUp 1 = .ok (.istore_n 2, 1) := by decide +kernel
theorem dX7_sendAgainOrGiveUp_2 : decode cX7_sendAgainOrGiveUp 2 = .ok (.iconst 0, 1) := by decide +kernel
theorem dX7_sendAgainOrGiveUp_3 : decode cX7_sendAgainOrGiveUp 3 = .ok (.istore_n 3, 1) := by decide +kernel
theorem dX7_sendAgainOrGiveUp_4 : decode cX7_sendAgainOrGiveUp 4 = .ok (.iload_n 3, 1) := by decide +kernel
theorem dX7_sendAgainOrGiveUp_5 : decode cX7_sendAgainOrGiveUp 5 = .ok (.iconst 4, 1) := by decide +kernel
theorem dX7_sendAgainOrGiveUp_6 : decode cX7_sendAgainOrGiveUp 6 = .ok (.if_icmp .ge 73, 3) := by decide +kernel
theorem dX7_sendAgainOrGiveUp_9 : decode cX7_sendAgainOrGiveUp 9 = .ok (.aload_n 0, 1) := by decide +kernel
theorem dX7_sendAgainOrGiveUp_10 : decode cX7_sendAgainOrGiveUp 10 = .ok (.getfield 13, 3) := by decide +kernel
theorem dX7_sendAgainOrGiveUp_13 : decode cX7_sendAgainOrGiveUp 13 = .ok (.iload_n 3, 1) := by decide +kernel
theorem dX7_sendAgainOrGiveUp_14 : decode cX7_sendAgainOrGiveUp 14 = .ok (.aaload, 1) := by decide +kernel
theorem dX7_sendAgainOrGiveUp_15 : decode cX7_sendAgainOrGiveUp 15 = .ok (.astore 4, 2) := by decide +kernel
theorem dX7_sendAgainOrGiveUp_17 : decode cX7_sendAgainOrGiveUp 17 = .ok (.aload_n 1, 1) := by decide +kernel
theorem dX7_sendAgainOrGiveUp_18 : decode cX7_sendAgainOrGiveUp 18 = .ok (.getfield 57, 3) := by decide +kernel
theorem dX7_sendAgainOrGiveUp_21 : decode cX7_sendAgainOrGiveUp 21 = .ok (.aload 4, 2) := by decide +kernel
theorem dX7_sendAgainOrGiveUp_23 : decode cX7_sendAgainOrGiveUp 23 = .ok (.getfield 62, 3) := by decide +kernel
theorem dX7_sendAgainOrGiveUp_26 : decode cX7_sendAgainOrGiveUp 26 = .ok (.isub, 1) := by decide +kernel
theorem dX7_sendAgainOrGiveUp_27 : decode cX7_sendAgainOrGiveUp 27 = .ok (.istore 5, 2) := by decide +kernel
theorem dX7_sendAgainOrGiveUp_29 : decode cX7_sendAgainOrGiveUp 29 = .ok (.aload 4, 2) := by decide +kernel
theorem dX7_sendAgainOrGiveUp_31 : decode cX7_sendAgainOrGiveUp 31 = .ok (.invokevirtual 53, 3) := by decide +kernel
theorem dX7_sendAgainOrGiveUp_34 : decode cX7_sendAgainOrGiveUp 34 = .ok (.ifCond .eq 39, 3) := by decide +kernel
theorem dX7_sendAgainOrGiveUp_37 : decode cX7_sendAgainOrGiveUp 37 = .ok (.iload 5, 2) := by decide +kernel
theorem dX7_sendAgainOrGiveUp_39 : decode cX7_sendAgainOrGiveUp 39 = .ok (.iconst 5, 1) := by decide +kernel
theorem dX7_sendAgainOrGiveUp_40 : decode cX7_sendAgainOrGiveUp 40 = .ok (.if_icmp .ge 6, 3) := by decide +kernel
theorem dX7_sendAgainOrGiveUp_43 : decode cX7_sendAgainOrGiveUp 43 = .ok (.goto 30, 3) := by decide +kernel
theorem dX7_sendAgainOrGiveUp_46 : decode cX7_sendAgainOrGiveUp 46 = .ok (.aload 4, 2) := by decide +kernel
theorem dX7_sendAgainOrGiveUp_48 : decode cX7_sendAgainOrGiveUp 48 = .ok (.getfield 38, 3) := by decide +kernel
theorem dX7_sendAgainOrGiveUp_51 : decode cX7_sendAgainOrGiveUp 51 = .ok (.iconst 3, 1) := by decide +kernel
theorem dX7_sendAgainOrGiveUp_52 : decode cX7_sendAgainOrGiveUp 52 = .ok (.if_icmp .ge 16, 3) := by decide +kernel
theorem dX7_sendAgainOrGiveUp_55 : decode cX7_sendAgainOrGiveUp 55 = .ok (.aload_n 0, 1) := by decide +kernel
theorem dX7_sendAgainOrGiveUp_56 : decode cX7_sendAgainOrGiveUp 56 = .ok (.aload 4, 2) := by decide +kernel
theorem dX7_sendAgainOrGiveUp_58 : decode cX7_sendAgainOrGiveUp 58 = .ok (.aload_n 1, 1) := by decide +kernel
theorem dX7_sendAgainOrGiveUp_59 : decode cX7_sendAgainOrGiveUp 59 = .ok (.invokevirtual 41, 3) := by decide +kernel
theorem dX7_sendAgainOrGiveUp_62 : decode cX7_sendAgainOrGiveUp 62 = .ok (.iinc 2 1, 3) := by decide +kernel
theorem dX7_sendAgainOrGiveUp_65 : decode cX7_sendAgainOrGiveUp 65 = .ok (.goto 8, 3) := by decide +kernel
theorem dX7_sendAgainOrGiveUp_68 : decode cX7_sendAgainOrGiveUp 68 = .ok (.aload 4, 2) := by decide +kernel
theorem dX7_sendAgainOrGiveUp_70 : decode cX7_sendAgainOrGiveUp 70 = .ok (.invokevirtual 103, 3) := by decide +kernel
theorem dX7_sendAgainOrGiveUp_73 : decode cX7_sendAgainOrGiveUp 73 = .ok (.iinc 3 1, 3) := by decide +kernel
theorem dX7_sendAgainOrGiveUp_76 : decode cX7_sendAgainOrGiveUp 76 = .ok (.goto (-72), 3) := by decide +kernel
theorem dX7_sendAgainOrGiveUp_79 : decode cX7_sendAgainOrGiveUp 79 = .ok (.iload_n 2, 1) := by decide +kernel
theorem dX7_sendAgainOrGiveUp_80 : decode cX7_sendAgainOrGiveUp 80 = .ok (.ireturn, 1) := by decide +kernel
theorem dX7_forgetAll_0 : decode cX7_forgetAll 0 = .ok (.iconst 0, 1) := by decide +kernel
theorem dX7_forgetAll_1 : decode cX7_forgetAll 1 = .ok (.istore_n 1, 1) := by decide +kernel
theorem dX7_forgetAll_2 : decode cX7_forgetAll 2 = .ok (.iload_n 1, 1) := by decide +kernel
theorem dX7_forgetAll_3 : decode cX7_forgetAll 3 = .ok (.iconst 4, 1) := by decide +kernel
theorem dX7_forgetAll_4 : decode cX7_forgetAll 4 = .ok (.if_icmp .ge 29, 3) := by decide +kernel
theorem dX7_forgetAll_7 : decode cX7_forgetAll 7 = .ok (.aload_n 0, 1) := by decide +kernel
theorem dX7_forgetAll_8 : decode cX7_forgetAll 8 = .ok (.getfield 13, 3) := by decide +kernel
theorem dX7_forgetAll_11 : decode cX7_forgetAll 11 = .ok (.iload_n 1, 1) := by decide +kernel
theorem dX7_forgetAll_12 : decode cX7_forgetAll 12 = .ok (.aaload, 1) := by decide +kernel
theorem dX7_forgetAll_13 : decode cX7_forgetAll 13 = .ok (.iconst 0, 1) := by decide +kernel
theorem dX7_forgetAll_14 : decode cX7_forgetAll 14 = .ok (.putfield 32, 3) := by decide +kernel
theorem dX7_forgetAll_17 : decode cX7_forgetAll 17 = .ok (.aload_n 0, 1) := by decide +kernel
theorem dX7_forgetAll_18 : decode cX7_forgetAll 18 = .ok (.getfield 13, 3) := by decide +kernel
theorem dX7_forgetAll_21 : decode cX7_forgetAll 21 = .ok (.iload_n 1, 1) := by decide +kernel
theorem dX7_forgetAll_22 : decode cX7_forgetAll 22 = .ok (.aaload, 1) := by decide +kernel
theorem dX7_forgetAll_23 : decode cX7_forgetAll 23 = .ok (.iconst 0, 1) := by decide +kernel
theorem dX7_forgetAll_24 : decode cX7_forgetAll 24 = .ok (.putfield 106, 3) := by decide +kernel
theorem dX7_forgetAll_27 : decode cX7_forgetAll 27 = .ok (.iinc 1 1, 3) := by decide +kernel
theorem dX7_forgetAll_30 : decode cX7_forgetAll 30 = .ok (.goto (-28), 3) := by decide +kernel
theorem dX7_forgetAll_33 : decode cX7_forgetAll 33 = .ok (.aload_n 0, 1) := by decide +kernel
theorem dX7_forgetAll_34 : decode cX7_forgetAll 34 = .ok (.iconst (-1), 1) := by decide +kernel
theorem dX7_forgetAll_35 : decode cX7_forgetAll 35 = .ok (.putfield 17, 3) := by decide +kernel
theorem dX7_forgetAll_38 : decode cX7_forgetAll 38 = .ok (.return_, 1) := by decide +kernel
theorem dX8_init_0 : decode cX8_init 0 = .ok (.aload_n 0, 1) := by decide +kernel
theorem dX8_init_1 : decode cX8_init 1 = .ok (.invokespecial 3, 3) := by decide +kernel
theorem dX8_init_4 : decode cX8_init 4 = .ok (.aload_n 0, 1) := by decide +kernel
theorem dX8_init_5 : decode cX8_init 5 = .ok (.bipush 8, 2) := by decide +kernel
theorem dX8_init_7 : decode cX8_init 7 = .ok (.anewarray 11, 3) := by decide +kernel
theorem dX8_init_10 : decode cX8_init 10 = .ok (.putfield 13, 3) := by decide +kernel
theorem dX8_init_13 : decode cX8_init 13 = .ok (.aload_n 0, 1) := by decide +kernel
theorem dX8_init_14 : decode cX8_init 14 = .ok (.iconst (-1), 1) := by decide +kernel
theorem dX8_init_15 : decode cX8_init 15 = .ok (.putfield 17, 3) := by decide +kernel
theorem dX8_init_18 : decode cX8_init 18 = .ok (.iconst 0, 1) := by decide +kernel
theorem dX8_init_19 : decode cX8_init 19 = .ok (.istore_n 1, 1) := by decide +kernel
theorem dX8_init_20 : decode cX8_init 20 = .ok (.iload_n 1, 1) := by decide +kernel
theorem dX8_init_21 : decode cX8_init 21 = .ok (.bipush 8, 2) := by decide +kernel
theorem dX8_init_23 : decode cX8_init 23 = .ok (.if_icmp .ge 22, 3) := by decide +kernel
theorem dX8_init_26 : decode cX8_init 26 = .ok (.aload_n 0, 1) := by decide +kernel
theorem dX8_init_27 : decode cX8_init 27 = .ok (.getfield 13, 3) := by decide +kernel
theorem dX8_init_30 : decode cX8_init 30 = .ok (.iload_n 1, 1) := by decide +kernel
theorem dX8_init_31 : decode cX8_init 31 = .ok (.new 11, 3) := by decide +kernel
theorem dX8_init_34 : decode cX8_init 34 = .ok (.dup, 1) := by decide +kernel
theorem dX8_init_35 : decode cX8_init 35 = .ok (.invokespecial 21, 3) := by decide +kernel
theorem dX8_init_38 : decode cX8_init 38 = .ok (.aastore, 1) := by decide +kernel
theorem dX8_init_39 : decode cX8_init 39 = .ok (.iinc 1 1, 3) := by decide +kernel
theorem dX8_init_42 : decode cX8_init 42 = .ok (.goto (-22), 3) := by decide +kernel
theorem dX8_init_45 : decode cX8_init 45 = .ok (.return_, 1) := by decide +kernel
theorem dX8_hear_0 : decode cX8_hear 0 = .ok (.aload_n 1, 1) := by decide +kernel
theorem dX8_hear_1 : decode cX8_hear 1 = .ok (.getfield 22, 3) := by decide +kernel
theorem dX8_hear_4 : decode cX8_hear 4 = .ok (.bipush 6, 2) := by decide +kernel
theorem dX8_hear_6 : decode cX8_hear 6 = .ok (.iaload, 1) := by decide +kernel
theorem dX8_hear_7 : decode cX8_hear 7 = .ok (.iconst 2, 1) := by decide +kernel
theorem dX8_hear_8 : decode cX8_hear 8 = .ok (.if_icmp .ge 7, 3) := by decide +kernel
theorem dX8_hear_11 : decode cX8_hear 11 = .ok (.iconst 1, 1) := by decide +kernel
theorem dX8_hear_12 : decode cX8_hear 12 = .ok (.goto 4, 3) := by decide +kernel
theorem dX8_hear_15 : decode cX8_hear 15 = .ok (.iconst 0, 1) := by decide +kernel
theorem dX8_hear_16 : decode cX8_hear 16 = .ok (.istore_n 3, 1) := by decide +kernel
theorem dX8_hear_17 : decode cX8_hear 17 = .ok (.iload_n 3, 1) := by decide +kernel
theorem dX8_hear_18 : decode cX8_hear 18 = .ok (.ifCond .eq 12, 3) := by decide +kernel
theorem dX8_hear_21 : decode cX8_hear 21 = .ok (.aload_n 0, 1) := by decide +kernel
theorem dX8_hear_22 : decode cX8_hear 22 = .ok (.aload_n 1, 1) := by decide +kernel
theorem dX8_hear_23 : decode cX8_hear 23 = .ok (.aload_n 2, 1) := by decide +kernel
theorem dX8_hear_24 : decode cX8_hear 24 = .ok (.invokevirtual 28, 3) := by decide +kernel
theorem dX8_hear_27 : decode cX8_hear 27 = .ok (.goto 9, 3) := by decide +kernel
theorem dX8_hear_30 : decode cX8_hear 30 = .ok (.aload_n 0, 1) := by decide +kernel
theorem dX8_hear_31 : decode cX8_hear 31 = .ok (.aload_n 1, 1) := by decide +kernel
theorem dX8_hear_32 : decode cX8_hear 32 = .ok (.aload_n 2, 1) := by decide +kernel
theorem dX8_hear_33 : decode cX8_hear 33 = .ok (.invokevirtual 32, 3) := by decide +kernel
theorem dX8_hear_36 : decode cX8_hear 36 = .ok (.ireturn, 1) := by decide +kernel
theorem dX8_hearRequest_0 : decode cX8_hearRequest 0 = .ok (.aload_n 1, 1) := by decide +kernel
theorem dX8_hearRequest_1 : decode cX8_hearRequest 1 = .ok (.getfield 22, 3) := by decide +kernel
theorem dX8_hearRequest_4 : decode cX8_hearRequest 4 = .ok (.astore_n 3, 1) := by decide +kernel
theorem dX8_hearRequest_5 : decode cX8_hearRequest 5 = .ok (.aload_n 3, 1) := by decide +kernel
theorem dX8_hearRequest_6 : decode cX8_hearRequest 6 = .ok (.iconst 0, 1) := by decide +kernel
theorem dX8_hearRequest_7 : decode cX8_hearRequest 7 = .ok (.iaload, 1) := by decide +kernel
theorem dX8_hearRequest_8 : decode cX8_hearRequest 8 = .ok (.invokestatic 35, 3) := by decide +kernel
theorem dX8_hearRequest_11 : decode cX8_hearRequest 11 = .ok (.ifCond .eq 14, 3) := by decide +kernel
theorem dX8_hearRequest_14 : decode cX8_hearRequest 14 = .ok (.aload_n 2, 1) := by decide +kernel
theorem dX8_hearRequest_15 : decode cX8_hearRequest 15 = .ok (.aload_n 1, 1) := by decide +kernel
theorem dX8_hearRequest_16 : decode cX8_hearRequest 16 = .ok (.aload_n 3, 1) := by decide +kernel
theorem dX8_hearRequest_17 : decode cX8_hearRequest 17 = .ok (.iconst 2, 1) := by decide +kernel
theorem dX8_hearRequest_18 : decode cX8_hearRequest 18 = .ok (.iaload, 1) := by decide +kernel
theorem dX8_hearRequest_19 : decode cX8_hearRequest 19 = .ok (.invokevirtual 39, 3) := by decide +kernel
theorem dX8_hearRequest_22 : decode cX8_hearRequest 22 = .ok (.ifCond .ne 5, 3) := by decide +kernel
theorem dX8_hearRequest_25 : decode cX8_hearRequest 25 = .ok (.iconst 0, 1) := by decide +kernel
theorem dX8_hearRequest_26 : decode cX8_hearRequest 26 = .ok (.ireturn, 1) := by decide +kernel
theorem dX8_hearRequest_27 : decode cX8_hearRequest 27 = .ok (.aload_n 0, 1) := by decide +kernel
theorem dX8_hearRequest_28 : decode cX8_hearRequest 28 = .ok (.aload_n 3, 1) := by decide +kernel
theorem dX8_hearRequest_29 : decode cX8_hearRequest 29 = .ok (.invokevirtual 45, 3) := by decide +kernel
theorem dX8_hearRequest_32 : decode cX8_hearRequest 32 = .ok (.istore 4, 2) := by decide +kernel
theorem dX8_hearRequest_34 : decode cX8_hearRequest 34 = .ok (.iload 4, 2) := by decide +kernel
theorem dX8_hearRequest_36 : decode cX8_hearRequest 36 = .ok (.iconst (-1), 1) := by decide +kernel
theorem dX8_hearRequest_37 : decode cX8_hearRequest 37 = .ok (.if_icmp .eq 7, 3) := by decide +kernel
theorem dX8_hearRequest_40 : decode cX8_hearRequest 40 = .ok (.iconst 1, 1) := by decide +kernel
theorem dX8_hearRequest_41 : decode cX8_hearRequest 41 = .ok (.goto 4, 3) := by decide +kernel
theorem dX8_hearRequest_44 : decode cX8_hearRequest 44 = .ok (.iconst 0, 1) := by decide +kernel
theorem dX8_hearRequest_45 : decode cX8_hearRequest 45 = .ok (.istore 5, 2) := by decide +kernel
theorem dX8_hearRequest_47 : decode cX8_hearRequest 47 = .ok (.iload 5, 2) := by decide +kernel
theorem dX8_hearRequest_49 : decode cX8_hearRequest 49 = .ok (.ifCond .ne 10, 3) := by decide +kernel
theorem dX8_hearRequest_52 : decode cX8_hearRequest 52 = .ok (.aload_n 0, 1) := by decide +kernel
theorem dX8_hearRequest_53 : decode cX8_hearRequest 53 = .ok (.aload_n 3, 1) := by decide +kernel
theorem dX8_hearRequest_54 : decode cX8_hearRequest 54 = .ok (.invokevirtual 49, 3) := by decide +kernel
theorem dX8_hearRequest_57 : decode cX8_hearRequest 57 = .ok (.istore 4, 2) := by decide +kernel
theorem dX8_hearRequest_59 : decode cX8_hearRequest 59 = .ok (.aload_n 0, 1) := by decide +kernel
theorem dX8_hearRequest_60 : decode cX8_hearRequest 60 = .ok (.aload_n 3, 1) := by decide +kernel
theorem dX8_hearRequest_61 : decode cX8_hearRequest 61 = .ok (.iload 4, 2) := by decide +kernel
theorem dX8_hearRequest_63 : decode cX8_hearRequest 63 = .ok (.aload_n 2, 1) := by decide +kernel
theorem dX8_hearRequest_64 : decode cX8_hearRequest 64 = .ok (.invokevirtual 52, 3) := by decide +kernel
theorem dX8_hearRequest_67 : decode cX8_hearRequest 67 = .ok (.iload 5, 2) := by decide +kernel
theorem dX8_hearRequest_69 : decode cX8_hearRequest 69 = .ok (.ifCond .eq 7, 3) := by decide +kernel
theorem dX8_hearRequest_72 : decode cX8_hearRequest 72 = .ok (.iconst 2, 1) := by decide +kernel
theorem dX8_hearRequest_73 : decode cX8_hearRequest 73 = .ok (.goto 4, 3) := by decide +kernel
theorem dX8_hearRequest_76 : decode cX8_hearRequest 76 = .ok (.iconst 1, 1) := by decide +kernel
theorem dX8_hearRequest_77 : decode cX8_hearRequest 77 = .ok (.ireturn, 1) := by decide +kernel
theorem dX8_placeOfEntryFor_0 : decode cX8_placeOfEntryFor 0 = .ok (.iconst 0, 1) := by decide +kernel
theorem dX8_placeOfEntryFor_1 : decode cX8_placeOfEntryFor 1 = .ok (.istore_n 2, 1) := by decide +kernel
theorem dX8_placeOfEntryFor_2 : decode cX8_placeOfEntryFor 2 = .ok (.iload_n 2, 1) := by decide +kernel
theorem dX8_placeOfEntryFor_3 : decode cX8_placeOfEntryFor 3 = .ok (.bipush 8, 2) := by decide +kernel
theorem dX8_placeOfEntryFor_5 : decode cX8_placeOfEntryFor 5 = .ok (.if_icmp .ge 66, 3) := by decide +kernel
theorem dX8_placeOfEntryFor_8 : decode cX8_placeOfEntryFor 8 = .ok (.aload_n 0, 1) := by decide +kernel
theorem dX8_placeOfEntryFor_9 : decode cX8_placeOfEntryFor 9 = .ok (.getfield 13, 3) := by decide +kernel
theorem dX8_placeOfEntryFor_12 : decode cX8_placeOfEntryFor 12 = .ok (.iload_n 2, 1) := by decide +kernel
theorem dX8_placeOfEntryFor_13 : decode cX8_placeOfEntryFor 13 = .ok (.aaload, 1) := by decide +kernel
theorem dX8_placeOfEntryFor_14 : decode cX8_placeOfEntryFor 14 = .ok (.astore_n 3, 1) := by decide +kernel
theorem dX8_placeOfEntryFor_15 : decode cX8_placeOfEntryFor 15 = .ok (.aload_n 3, 1) := by decide +kernel
theorem dX8_placeOfEntryFor_16 : decode cX8_placeOfEntryFor 16 = .ok (.getfield 56, 3) := by decide +kernel
theorem dX8_placeOfEntryFor_19 : decode cX8_placeOfEntryFor 19 = .ok (.ifCond .eq 46, 3) := by decide +kernel
theorem dX8_placeOfEntryFor_22 : decode cX8_placeOfEntryFor 22 = .ok (.aload_n 3, 1) := by decide +kernel
theorem dX8_placeOfEntryFor_23 : decode cX8_placeOfEntryFor 23 = .ok (.getfield 60, 3) := by decide +kernel
theorem dX8_placeOfEntryFor_26 : decode cX8_placeOfEntryFor 26 = .ok (.aload_n 1, 1) := by decide +kernel
theorem dX8_placeOfEntryFor_27 : decode cX8_placeOfEntryFor 27 = .ok (.bipush 6, 2) := by decide +kernel
theorem dX8_placeOfEntryFor_29 : decode cX8_placeOfEntryFor 29 = .ok (.iaload, 1) := by decide +kernel
theorem dX8_placeOfEntryFor_30 : decode cX8_placeOfEntryFor 30 = .ok (.if_icmp .ne 35, 3) := by decide +kernel
theorem dX8_placeOfEntryFor_33 : decode cX8_placeOfEntryFor 33 = .ok (.aload_n 3, 1) := by decide +kernel
theorem dX8_placeOfEntryFor_34 : decode cX8_placeOfEntryFor 34 = .ok (.getfield 63, 3) := by decide +kernel
theorem dX8_placeOfEntryFor_37 : decode cX8_placeOfEntryFor 37 = .ok (.aload_n 1, 1) := by decide +kernel
theorem dX8_placeOfEntryFor_38 : decode cX8_placeOfEntryFor 38 = .ok (.iconst 0, 1) := by decide +kernel
theorem dX8_placeOfEntryFor_39 : decode cX8_placeOfEntryFor 39 = .ok (.iaload, 1) := by decide +kernel
theorem dX8_placeOfEntryFor_40 : decode cX8_placeOfEntryFor 40 = .ok (.if_icmp .ne 25, 3) := by decide +kernel
theorem dX8_placeOfEntryFor_43 : decode cX8_placeOfEntryFor 43 = .ok (.aload_n 3, 1) := by decide +kernel
theorem dX8_placeOfEntryFor_44 : decode cX8_placeOfEntryFor 44 = .ok (.getfield 66, 3) := by decide +kernel
theorem dX8_placeOfEntryFor_47 : decode cX8_placeOfEntryFor 47 = .ok (.aload_n 1, 1) := by decide +kernel
theorem dX8_placeOfEntryFor_48 : decode cX8_placeOfEntryFor 48 = .ok (.iconst 1, 1) := by decide +kernel
theorem dX8_placeOfEntryFor_49 : decode cX8_placeOfEntryFor 49 = .ok (.iaload, 1) := by decide +kernel
theorem dX8_placeOfEntryFor_50 : decode cX8_placeOfEntryFor 50 = .ok (.if_icmp .ne 15, 3) := by decide +kernel
theorem dX8_placeOfEntryFor_53 : decode cX8_placeOfEntryFor 53 = .ok (.aload_n 3, 1) := by decide +kernel
theorem dX8_placeOfEntryFor_54 : decode cX8_placeOfEntryFor 54 = .ok (.getfield 69, 3) := by decide +kernel
theorem dX8_placeOfEntryFor_57 : decode cX8_placeOfEntryFor 57 = .ok (.aload_n 1, 1) := by decide +kernel
theorem dX8_placeOfEntryFor_58 : decode cX8_placeOfEntryFor 58 = .ok (.iconst 2, 1) := by decide +kernel
theorem dX8_placeOfEntryFor_59 : decode cX8_placeOfEntryFor 59 = .ok (.iaload, 1) := by decide +kernel
theorem dX8_placeOfEntryFor_60 : decode cX8_placeOfEntryFor 60 = .ok (.if_icmp .ne 5, 3) := by decide +kernel
theorem dX8_placeOfEntryFor_63 : decode cX8_placeOfEntryFor 63 = .ok (.iload_n 2, 1) := by decide +kernel
theorem dX8_placeOfEntryFor_64 : decode cX8_placeOfEntryFor 64 = .ok (.ireturn, 1) := by decide +kernel
theorem dX8_placeOfEntryFor_65 : decode cX8_placeOfEntryFor 65 = .ok (.iinc 2 1, 3) := by decide +kernel
theorem dX8_placeOfEntryFor_68 : decode cX8_placeOfEntryFor 68 = .ok (.goto (-66), 3) := by decide +kernel
theorem dX8_placeOfEntryFor_71 : decode cX8_placeOfEntryFor 71 = .ok (.iconst (-1), 1) := by decide +kernel
theorem dX8_placeOfEntryFor_72 : decode cX8_placeOfEntryFor 72 = .ok (.ireturn, 1) := by decide +kernel
theorem dX8_makeEntry_0 : decode cX8_makeEntry 0 = .ok (.aload_n 0, 1) := by decide +kernel
theorem dX8_makeEntry_1 : decode cX8_makeEntry 1 = .ok (.aload_n 0, 1) := by decide +kernel
theorem dX8_makeEntry_2 : decode cX8_makeEntry 2 = .ok (.getfield 17, 3) := by decide +kernel
theorem dX8_makeEntry_5 : decode cX8_makeEntry 5 = .ok (.iconst 1, 1) := by decide +kernel
theorem dX8_makeEntry_6 : decode cX8_makeEntry 6 = .ok (.iadd, 1) := by decide +kernel
theorem dX8_makeEntry_7 : decode cX8_makeEntry 7 = .ok (.bipush 8, 2) := by decide +kernel
theorem dX8_makeEntry_9 : decode cX8_makeEntry 9 = .ok (.irem, 1) := by decide +kernel
theorem dX8_makeEntry_10 : decode cX8_makeEntry 10 = .ok (.putfield 17, 3) := by decide +kernel
theorem dX8_makeEntry_13 : decode cX8_makeEntry 13 = .ok (.aload_n 0, 1) := by decide +kernel
theorem dX8_makeEntry_14 : decode cX8_makeEntry 14 = .ok (.getfield 13, 3) := by decide +kernel
theorem dX8_makeEntry_17 : decode cX8_makeEntry 17 = .ok (.aload_n 0, 1) := by decide +kernel
theorem dX8_makeEntry_18 : decode cX8_makeEntry 18 = .ok (.getfield 17, 3) := by decide +kernel
theorem dX8_makeEntry_21 : decode cX8_makeEntry 21 = .ok (.aaload, 1) := by decide +kernel
theorem dX8_makeEntry_22 : decode cX8_makeEntry 22 = .ok (.astore_n 2, 1) := by decide +kernel
theorem dX8_makeEntry_23 : decode cX8_makeEntry 23 = .ok (.aload_n 2, 1) := by decide +kernel
theorem dX8_makeEntry_24 : decode cX8_makeEntry 24 = .ok (.iconst 1, 1) := by decide +kernel
theorem dX8_makeEntry_25 : decode cX8_makeEntry 25 = .ok (.putfield 56, 3) := by decide +kernel
theorem dX8_makeEntry_28 : decode cX8_makeEntry 28 = .ok (.aload_n 2, 1) := by decide +kernel
theorem dX8_makeEntry_29 : decode cX8_makeEntry 29 = .ok (.aload_n 1, 1) := by decide +kernel
theorem dX8_makeEntry_30 : decode cX8_makeEntry 30 = .ok (.bipush 6, 2) := by decide +kernel
theorem dX8_makeEntry_32 : decode cX8_makeEntry 32 = .ok (.iaload, 1) := by decide +kernel
theorem dX8_makeEntry_33 : decode cX8_makeEntry 33 = .ok (.putfield 60, 3) := by decide +kernel
theorem dX8_makeEntry_36 : decode cX8_makeEntry 36 = .ok (.aload_n 2, 1) := by decide +kernel
theorem dX8_makeEntry_37 : decode cX8_makeEntry 37 = .ok (.aload_n 1, 1) := by decide +kernel
theorem dX8_makeEntry_38 : decode cX8_makeEntry 38 = .ok (.iconst 0, 1) := by decide +kernel
theorem dX8_makeEntry_39 : decode cX8_makeEntry 39 = .ok (.iaload, 1) := by decide +kernel
theorem dX8_makeEntry_40 : decode cX8_makeEntry 40 = .ok (.putfield 63, 3) := by decide +kernel
theorem dX8_makeEntry_43 : decode cX8_makeEntry 43 = .ok (.aload_n 2, 1) := by decide +kernel
theorem dX8_makeEntry_44 : decode cX8_makeEntry 44 = .ok (.aload_n 1, 1) := by decide +kernel
theorem dX8_makeEntry_45 : decode cX8_makeEntry 45 = .ok (.iconst 1, 1) := by decide +kernel
theorem dX8_makeEntry_46 : decode cX8_makeEntry 46 = .ok (.iaload, 1) := by decide +kernel
theorem dX8_makeEntry_47 : decode cX8_makeEntry 47 = .ok (.putfield 66, 3) := by decide +kernel
theorem dX8_makeEntry_50 : decode cX8_makeEntry 50 = .ok (.aload_n 2, 1) := by decide +kernel
theorem dX8_makeEntry_51 : decode cX8_makeEntry 51 = .ok (.aload_n 1, 1) := by decide +kernel
theorem dX8_makeEntry_52 : decode cX8_makeEntry 52 = .ok (.iconst 2, 1) := by decide +kernel
theorem dX8_makeEntry_53 : decode cX8_makeEntry 53 = .ok (.iaload, 1) := by decide +kernel
theorem dX8_makeEntry_54 : decode cX8_makeEntry 54 = .ok (.putfield 69, 3) := by decide +kernel
theorem dX8_makeEntry_57 : decode cX8_makeEntry 57 = .ok (.aload_n 2, 1) := by decide +kernel
theorem dX8_makeEntry_58 : decode cX8_makeEntry 58 = .ok (.aload_n 1, 1) := by decide +kernel
theorem dX8_makeEntry_59 : decode cX8_makeEntry 59 = .ok (.iconst 3, 1) := by decide +kernel
theorem dX8_makeEntry_60 : decode cX8_makeEntry 60 = .ok (.iaload, 1) := by decide +kernel
theorem dX8_makeEntry_61 : decode cX8_makeEntry 61 = .ok (.invokestatic 72, 3) := by decide +kernel
theorem dX8_makeEntry_64 : decode cX8_makeEntry 64 = .ok (.putfield 76, 3) := by decide +kernel
theorem dX8_makeEntry_67 : decode cX8_makeEntry 67 = .ok (.aload_n 2, 1) := by decide +kernel
theorem dX8_makeEntry_68 : decode cX8_makeEntry 68 = .ok (.aload_n 2, 1) := by decide +kernel
theorem dX8_makeEntry_69 : decode cX8_makeEntry 69 = .ok (.getfield 69, 3) := by decide +kernel
theorem dX8_makeEntry_72 : decode cX8_makeEntry 72 = .ok (.aload_n 0, 1) := by decide +kernel
theorem dX8_makeEntry_73 : decode cX8_makeEntry 73 = .ok (.getfield 79, 3) := by decide +kernel
theorem dX8_makeEntry_76 : decode cX8_makeEntry 76 = .ok (.invokestatic 82, 3) := by decide +kernel
theorem dX8_makeEntry_79 : decode cX8_makeEntry 79 = .ok (.putfield 86, 3) := by decide +kernel
theorem dX8_makeEntry_82 : decode cX8_makeEntry 82 = .ok (.aload_n 0, 1) := by decide +kernel
theorem dX8_makeEntry_83 : decode cX8_makeEntry 83 = .ok (.dup, 1) := by decide +kernel
theorem dX8_makeEntry_84 : decode cX8_makeEntry 84 = .ok (.getfield 79, 3) := by decide +kernel
theorem dX8_makeEntry_87 : decode cX8_makeEntry 87 = .ok (.iconst 1, 1) := by decide +kernel
theorem dX8_makeEntry_88 : decode cX8_makeEntry 88 = .ok (.iadd, 1) := by decide +kernel
theorem dX8_makeEntry_89 : decode cX8_makeEntry 89 = .ok (.putfield 79, 3) := by decide +kernel
theorem dX8_makeEntry_92 : decode cX8_makeEntry 92 = .ok (.aload_n 0, 1) := by decide +kernel
theorem dX8_makeEntry_93 : decode cX8_makeEntry 93 = .ok (.getfield 17, 3) := by decide +kernel
theorem dX8_makeEntry_96 : decode cX8_makeEntry 96 = .ok (.ireturn, 1) := by decide +kernel
theorem dX8_handOnRequest_0 : decode cX8_handOnRequest 0 = .ok (.aload_n 0, 1) := by decide +kernel
theorem dX8_handOnRequest_1 : decode cX8_handOnRequest 1 = .ok (.getfield 13, 3) := by decide +kernel
theorem dX8_handOnRequest_4 : decode cX8_handOnRequest 4 = .ok (.iload_n 2, 1) := by decide +kernel
theorem dX8_handOnRequest_5 : decode cX8_handOnRequest 5 = .ok (.aaload, 1) := by decide +kernel
theorem dX8_handOnRequest_6 : decode cX8_handOnRequest 6 = .ok (.astore 4, 2) := by decide +kernel
theorem dX8_handOnRequest_8 : decode cX8_handOnRequest 8 = .ok (.aload_n 1, 1) := by decide +kernel
theorem dX8_handOnRequest_9 : decode cX8_handOnRequest 9 = .ok (.iconst 4, 1) := by decide +kernel
theorem dX8_handOnRequest_10 : decode cX8_handOnRequest 10 = .ok (.iaload, 1) := by decide +kernel
theorem dX8_handOnRequest_11 : decode cX8_handOnRequest 11 = .ok (.istore 5, 2) := by decide +kernel
theorem dX8_handOnRequest_13 : decode cX8_handOnRequest 13 = .ok (.aload 4, 2) := by decide +kernel
theorem dX8_handOnRequest_15 : decode cX8_handOnRequest 15 = .ok (.getfield 63, 3) := by decide +kernel
theorem dX8_handOnRequest_18 : decode cX8_handOnRequest 18 = .ok (.ifCond .ne 45, 3) := by decide +kernel
theorem dX8_handOnRequest_21 : decode cX8_handOnRequest 21 = .ok (.iload 5, 2) := by decide +kernel
theorem dX8_handOnRequest_23 : decode cX8_handOnRequest 23 = .ok (.aload_n 3, 1) := by decide +kernel
theorem dX8_handOnRequest_24 : decode cX8_handOnRequest 24 = .ok (.iconst 2, 1) := by decide +kernel
theorem dX8_handOnRequest_25 : decode cX8_handOnRequest 25 = .ok (.aload 4, 2) := by decide +kernel
theorem dX8_handOnRequest_27 : decode cX8_handOnRequest 27 = .ok (.getfield 60, 3) := by decide +kernel
theorem dX8_handOnRequest_30 : decode cX8_handOnRequest 30 = .ok (.invokevirtual 89, 3) := by decide +kernel
theorem dX8_handOnRequest_33 : decode cX8_handOnRequest 33 = .ok (.aload 4, 2) := by decide +kernel
theorem dX8_handOnRequest_35 : decode cX8_handOnRequest 35 = .ok (.getfield 69, 3) := by decide +kernel
theorem dX8_handOnRequest_38 : decode cX8_handOnRequest 38 = .ok (.invokestatic 82, 3) := by decide +kernel
theorem dX8_handOnRequest_41 : decode cX8_handOnRequest 41 = .ok (.aload_n 3, 1) := by decide +kernel
theorem dX8_handOnRequest_42 : decode cX8_handOnRequest 42 = .ok (.iconst 2, 1) := by decide +kernel
theorem dX8_handOnRequest_43 : decode cX8_handOnRequest 43 = .ok (.aload 4, 2) := by decide +kernel
theorem dX8_handOnRequest_45 : decode cX8_handOnRequest 45 = .ok (.getfield 76, 3) := by decide +kernel
theorem dX8_handOnRequest_48 : decode cX8_handOnRequest 48 = .ok (.invokevirtual 89, 3) := by decide +kernel
theorem dX8_handOnRequest_51 : decode cX8_handOnRequest 51 = .ok (.aload 4, 2) := by decide +kernel
theorem dX8_handOnRequest_53 : decode cX8_handOnRequest 53 = .ok (.getfield 86, 3) := by decide +kernel
theorem dX8_handOnRequest_56 : decode cX8_handOnRequest 56 = .ok (.invokestatic 82, 3) := by decide +kernel
theorem dX8_handOnRequest_59 : decode cX8_handOnRequest 59 = .ok (.ixor, 1) := by decide +kernel
theorem dX8_handOnRequest_60 : decode cX8_handOnRequest 60 = .ok (.ixor, 1) := by decide +kernel
theorem dX8_handOnRequest_61 : decode cX8_handOnRequest 61 = .ok (.istore 5, 2) := by decide +kernel
theorem dX8_handOnRequest_63 : decode cX8_handOnRequest 63 = .ok (.aload_n 3, 1) := by decide +kernel
theorem dX8_handOnRequest_64 : decode cX8_handOnRequest 64 = .ok (.iconst 2, 1) := by decide +kernel
theorem dX8_handOnRequest_65 : decode cX8_handOnRequest 65 = .ok (.aload 4, 2) := by decide +kernel
theorem dX8_handOnRequest_67 : decode cX8_handOnRequest 67 = .ok (.getfield 76, 3) := by decide +kernel
theorem dX8_handOnRequest_70 : decode cX8_handOnRequest 70 = .ok (.aload 4, 2) := by decide +kernel
theorem dX8_handOnRequest_72 : decode cX8_handOnRequest 72 = .ok (.getfield 63, 3) := by decide +kernel
theorem dX8_handOnRequest_75 : decode cX8_handOnRequest 75 = .ok (.iload_n 2, 1) := by decide +kernel
theorem dX8_handOnRequest_76 : decode cX8_handOnRequest 76 = .ok (.aload 4, 2) := by decide +kernel
theorem dX8_handOnRequest_78 : decode cX8_handOnRequest 78 = .ok (.getfield 86, 3) := by decide +kernel
theorem dX8_handOnRequest_81 : decode cX8_handOnRequest 81 = .ok (.aload_n 1, 1) := by decide +kernel
theorem dX8_handOnRequest_82 : decode cX8_handOnRequest 82 = .ok (.iconst 3, 1) := by decide +kernel
theorem dX8_handOnRequest_83 : decode cX8_handOnRequest 83 = .ok (.iaload, 1) := by decide +kernel
theorem dX8_handOnRequest_84 : decode cX8_handOnRequest 84 = .ok (.iload 5, 2) := by decide +kernel
theorem dX8_handOnRequest_86 : decode cX8_handOnRequest 86 = .ok (.invokevirtual 92, 3) := by decide +kernel
theorem dX8_handOnRequest_89 : decode cX8_handOnRequest 89 = .ok (.return_, 1) := by decide +kernel
theorem dX8_hearAnswer_0 : decode cX8_hearAnswer 0 = .ok (.aload_n 1, 1) := by decide +kernel
theorem dX8_hearAnswer_1 : decode cX8_hearAnswer 1 = .ok (.getfield 22, 3) := by decide +kernel
theorem dX8_hearAnswer_4 : decode cX8_hearAnswer 4 = .ok (.astore_n 3, 1) := by decide +kernel
theorem dX8_hearAnswer_5 : decode cX8_hearAnswer 5 = .ok (.aload_n 3, 1) := by decide +kernel
theorem dX8_hearAnswer_6 : decode cX8_hearAnswer 6 = .ok (.iconst 0, 1) := by decide +kernel
theorem dX8_hearAnswer_7 : decode cX8_hearAnswer 7 = .ok (.iaload, 1) := by decide +kernel
theorem dX8_hearAnswer_8 : decode cX8_hearAnswer 8 = .ok (.istore 4, 2) := by decide +kernel
theorem dX8_hearAnswer_10 : decode cX8_hearAnswer 10 = .ok (.aload_n 3, 1) := by decide +kernel
theorem dX8_hearAnswer_11 : decode cX8_hearAnswer 11 = .ok (.iconst 1, 1) := by decide +kernel
theorem dX8_hearAnswer_12 : decode cX8_hearAnswer 12 = .ok (.iaload, 1) := by decide +kernel
theorem dX8_hearAnswer_13 : decode cX8_hearAnswer 13 = .ok (.istore 5, 2) := by decide +kernel
theorem dX8_hearAnswer_15 : decode cX8_hearAnswer 15 = .ok (.iload 4, 2) := by decide +kernel
theorem dX8_hearAnswer_17 : decode cX8_hearAnswer 17 = .ok (.invokestatic 96, 3) := by decide +kernel
theorem dX8_hearAnswer_20 : decode cX8_hearAnswer 20 = .ok (.ifCond .eq 15, 3) := by decide +kernel
theorem dX8_hearAnswer_23 : decode cX8_hearAnswer 23 = .ok (.iload 5, 2) := by decide +kernel
theorem dX8_hearAnswer_25 : decode cX8_hearAnswer 25 = .ok (.ifCond .lt 10, 3) := by decide +kernel
theorem dX8_hearAnswer_28 : decode cX8_hearAnswer 28 = .ok (.iload 5, 2) := by decide +kernel
theorem dX8_hearAnswer_30 : decode cX8_hearAnswer 30 = .ok (.bipush 8, 2) := by decide +kernel
theorem dX8_hearAnswer_32 : decode cX8_hearAnswer 32 = .ok (.if_icmp .lt 5, 3) := by decide +kernel
theorem dX8_hearAnswer_35 : decode cX8_hearAnswer 35 = .ok (.iconst 0, 1) := by decide +kernel
theorem dX8_hearAnswer_36 : decode cX8_hearAnswer 36 = .ok (.ireturn, 1) := by decide +kernel
theorem dX8_hearAnswer_37 : decode cX8_hearAnswer 37 = .ok (.aload_n 0, 1) := by decide +kernel
theorem dX8_hearAnswer_38 : decode cX8_hearAnswer 38 = .ok (.getfield 13, 3) := by decide +kernel
theorem dX8_hearAnswer_41 : decode cX8_hearAnswer 41 = .ok (.iload 5, 2) := by decide +kernel
theorem dX8_hearAnswer_43 : decode cX8_hearAnswer 43 = .ok (.aaload, 1) := by decide +kernel
theorem dX8_hearAnswer_44 : decode cX8_hearAnswer 44 = .ok (.astore 6, 2) := by decide +kernel
theorem dX8_hearAnswer_46 : decode cX8_hearAnswer 46 = .ok (.aload 6, 2) := by decide +kernel
theorem dX8_hearAnswer_48 : decode cX8_hearAnswer 48 = .ok (.getfield 56, 3) := by decide +kernel
theorem dX8_hearAnswer_51 : decode cX8_hearAnswer 51 = .ok (.ifCond .eq 28, 3) := by decide +kernel
theorem dX8_hearAnswer_54 : decode cX8_hearAnswer 54 = .ok (.aload 6, 2) := by decide +kernel
theorem dX8_hearAnswer_56 : decode cX8_hearAnswer 56 = .ok (.getfield 76, 3) := by decide +kernel
theorem dX8_hearAnswer_59 : decode cX8_hearAnswer 59 = .ok (.aload_n 3, 1) := by decide +kernel
theorem dX8_hearAnswer_60 : decode cX8_hearAnswer 60 = .ok (.bipush 6, 2) := by decide +kernel
theorem dX8_hearAnswer_62 : decode cX8_hearAnswer 62 = .ok (.iaload, 1) := by decide +kernel
theorem dX8_hearAnswer_63 : decode cX8_hearAnswer 63 = .ok (.if_icmp .ne 16, 3) := by decide +kernel
theorem dX8_hearAnswer_66 : decode cX8_hearAnswer 66 = .ok (.aload_n 2, 1) := by decide +kernel
theorem dX8_hearAnswer_67 : decode cX8_hearAnswer 67 = .ok (.aload_n 1, 1) := by decide +kernel
theorem dX8_hearAnswer_68 : decode cX8_hearAnswer 68 = .ok (.aload 6, 2) := by decide +kernel
theorem dX8_hearAnswer_70 : decode cX8_hearAnswer 70 = .ok (.getfield 86, 3) := by decide +kernel
theorem dX8_hearAnswer_73 : decode cX8_hearAnswer 73 = .ok (.invokevirtual 39, 3) := by decide +kernel
theorem dX8_hearAnswer_76 : decode cX8_hearAnswer 76 = .ok (.ifCond .ne 5, 3) := by decide +kernel
theorem dX8_hearAnswer_79 : decode cX8_hearAnswer 79 = .ok (.iconst 0, 1) := by decide +kernel
theorem dX8_hearAnswer_80 : decode cX8_hearAnswer 80 = .ok (.ireturn, 1) := by decide +kernel
theorem dX8_hearAnswer_81 : decode cX8_hearAnswer 81 = .ok (.aload_n 3, 1) := by decide +kernel
theorem dX8_hearAnswer_82 : decode cX8_hearAnswer 82 = .ok (.iconst 3, 1) := by decide +kernel
theorem dX8_hearAnswer_83 : decode cX8_hearAnswer 83 = .ok (.iaload, 1) := by decide +kernel
theorem dX8_hearAnswer_84 : decode cX8_hearAnswer 84 = .ok (.istore 7, 2) := by decide +kernel
theorem dX8_hearAnswer_86 : decode cX8_hearAnswer 86 = .ok (.aload_n 3, 1) := by decide +kernel
theorem dX8_hearAnswer_87 : decode cX8_hearAnswer 87 = .ok (.iconst 4, 1) := by decide +kernel
theorem dX8_hearAnswer_88 : decode cX8_hearAnswer 88 = .ok (.iaload, 1) := by decide +kernel
theorem dX8_hearAnswer_89 : decode cX8_hearAnswer 89 = .ok (.istore 8, 2) := by decide +kernel
theorem dX8_hearAnswer_91 : decode cX8_hearAnswer 91 = .ok (.aload_n 2, 1) := by decide +kernel
theorem dX8_hearAnswer_92 : decode cX8_hearAnswer 92 = .ok (.iconst 2, 1) := by decide +kernel
theorem dX8_hearAnswer_93 : decode cX8_hearAnswer 93 = .ok (.aload 6, 2) := by decide +kernel
theorem dX8_hearAnswer_95 : decode cX8_hearAnswer 95 = .ok (.getfield 60, 3) := by decide +kernel
theorem dX8_hearAnswer_98 : decode cX8_hearAnswer 98 = .ok (.iload 4, 2) := by decide +kernel
theorem dX8_hearAnswer_100 : decode cX8_hearAnswer 100 = .ok (.aload 6, 2) := by decide +kernel
theorem dX8_hearAnswer_102 : decode cX8_hearAnswer 102 = .ok (.getfield 66, 3) := by decide +kernel
theorem dX8_hearAnswer_105 : decode cX8_hearAnswer 105 = .ok (.aload 6, 2) := by decide +kernel
theorem dX8_hearAnswer_107 : decode cX8_hearAnswer 107 = .ok (.getfield 69, 3) := by decide +kernel
theorem dX8_hearAnswer_110 : decode cX8_hearAnswer 110 = .ok (.iload 7, 2) := by decide +kernel
theorem dX8_hearAnswer_112 : decode cX8_hearAnswer 112 = .ok (.iload 8, 2) := by decide +kernel
theorem dX8_hearAnswer_114 : decode cX8_hearAnswer 114 = .ok (.invokevirtual 92, 3) := by decide +kernel
theorem dX8_hearAnswer_117 : decode cX8_hearAnswer 117 = .ok (.iconst 1, 1) := by decide +kernel
theorem dX8_hearAnswer_118 : decode cX8_hearAnswer 118 = .ok (.ireturn, 1) := by decide +kernel
theorem dX8_forgetEntries_0 : decode cX8_forgetEntries 0 = .ok (.iconst 0, 1) := by decide +kernel
theorem dX8_forgetEntries_1 : decode cX8_forgetEntries 1 = .ok (.istore_n 1, 1) := by decide +kernel
theorem dX8_forgetEntries_2 : decode cX8_forgetEntries 2 = .ok (.iload_n 1, 1) := by decide +kernel
theorem dX8_forgetEntries_3 : decode cX8_forgetEntries 3 = .ok (.bipush 8, 2) := by decide +kernel
theorem dX8_forgetEntries_5 : decode cX8_forgetEntries 5 = .ok (.if_icmp .ge 19, 3) := by decide +kernel
theorem dX8_forgetEntries_8 : decode cX8_forgetEntries 8 = .ok (.aload_n 0, 1) := by decide +kernel
theorem dX8_forgetEntries_9 : decode cX8_forgetEntries 9 = .ok (.getfield 13, 3) := by decide +kernel
theorem dX8_forgetEntries_12 : decode cX8_forgetEntries 12 = .ok (.iload_n 1, 1) := by decide +kernel
theorem dX8_forgetEntries_13 : decode cX8_forgetEntries 13 = .ok (.aaload, 1) := by decide +kernel
theorem dX8_forgetEntries_14 : decode cX8_forgetEntries 14 = .ok (.iconst 0, 1) := by decide +kernel
theorem dX8_forgetEntries_15 : decode cX8_forgetEntries 15 = .ok (.putfield 56, 3) := by decide +kernel
theorem dX8_forgetEntries_18 : decode cX8_forgetEntries 18 = .ok (.iinc 1 1, 3) := by decide +kernel
theorem dX8_forgetEntries_21 : decode cX8_forgetEntries 21 = .ok (.goto (-19), 3) := by decide +kernel
theorem dX8_forgetEntries_24 : decode cX8_forgetEntries 24 = .ok (.aload_n 0, 1) := by decide +kernel
theorem dX8_forgetEntries_25 : decode cX8_forgetEntries 25 = .ok (.iconst (-1), 1) := by decide +kernel
theorem dX8_forgetEntries_26 : decode cX8_forgetEntries 26 = .ok (.putfield 17, 3) := by decide +kernel
theorem dX8_forgetEntries_29 : decode cX8_forgetEntries 29 = .ok (.return_, 1) := by decide +kernel
theorem dX9_init_0 : decode cX9_init 0 = .ok (.aload_n 0, 1) := by decide +kernel
theorem dX9_init_1 : decode cX9_init 1 = .ok (.invokespecial 3, 3) := by decide +kernel
theorem dX9_init_4 : decode cX9_init 4 = .ok (.aload_n 0, 1) := by decide +kernel
theorem dX9_init_5 : decode cX9_init 5 = .ok (.bipush 6, 2) := by decide +kernel
theorem dX9_init_7 : decode cX9_init 7 = .ok (.newarray .boolean, 2) := by decide +kernel
theorem dX9_init_9 : decode cX9_init 9 = .ok (.putfield 11, 3) := by decide +kernel
theorem dX9_init_12 : decode cX9_init 12 = .ok (.aload_n 0, 1) := by decide +kernel
theorem dX9_init_13 : decode cX9_init 13 = .ok (.bipush 6, 2) := by decide +kernel
theorem dX9_init_15 : decode cX9_init 15 = .ok (.newarray .int, 2) := by decide +kernel
theorem dX9_init_17 : decode cX9_init 17 = .ok (.putfield 15, 3) := by decide +kernel
theorem dX9_init_20 : decode cX9_init 20 = .ok (.aload_n 0, 1) := by decide +kernel
theorem dX9_init_21 : decode cX9_init 21 = .ok (.bipush 6, 2) := by decide +kernel
theorem dX9_init_23 : decode cX9_init 23 = .ok (.newarray .int, 2) := by decide +kernel
theorem dX9_init_25 : decode cX9_init 25 = .ok (.putfield 19, 3) := by decide +kernel
theorem dX9_init_28 : decode cX9_init 28 = .ok (.return_, 1) := by decide +kernel
theorem dX9_forgetAll_0 : decode cX9_forgetAll 0 = .ok (.iconst 0, 1) := by decide +kernel
theorem dX9_forgetAll_1 : decode cX9_forgetAll 1 = .ok (.istore_n 1, 1) := by decide +kernel
theorem dX9_forgetAll_2 : decode cX9_forgetAll 2 = .ok (.iload_n 1, 1) := by decide +kernel
theorem dX9_forgetAll_3 : decode cX9_forgetAll 3 = .ok (.bipush 6, 2) := by decide +kernel
theorem dX9_forgetAll_5 : decode cX9_forgetAll 5 = .ok (.if_icmp .ge 16, 3) := by decide +kernel
theorem dX9_forgetAll_8 : decode cX9_forgetAll 8 = .ok (.aload_n 0, 1) := by decide +kernel
theorem dX9_forgetAll_9 : decode cX9_forgetAll 9 = .ok (.getfield 11, 3) := by decide +kernel
theorem dX9_forgetAll_12 : decode cX9_forgetAll 12 = .ok (.iload_n 1, 1) := by decide +kernel
theorem dX9_forgetAll_13 : decode cX9_forgetAll 13 = .ok (.iconst 0, 1) := by decide +kernel
theorem dX9_forgetAll_14 : decode cX9_forgetAll 14 = .ok (.bastore, 1) := by decide +kernel
theorem dX9_forgetAll_15 : decode cX9_forgetAll 15 = .ok (.iinc 1 1, 3) := by decide +kernel
theorem dX9_forgetAll_18 : decode cX9_forgetAll 18 = .ok (.goto (-16), 3) := by decide +kernel
theorem dX9_forgetAll_21 : decode cX9_forgetAll 21 = .ok (.aload_n 0, 1) := by decide +kernel
theorem dX9_forgetAll_22 : decode cX9_forgetAll 22 = .ok (.iconst 0, 1) := by decide +kernel
theorem dX9_forgetAll_23 : decode cX9_forgetAll 23 = .ok (.putfield 22, 3) := by decide +kernel
theorem dX9_forgetAll_26 : decode cX9_forgetAll 26 = .ok (.return_, 1) := by decide +kernel
theorem dX9_isOpenAt_0 : decode cX9_isOpenAt 0 = .ok (.iload_n 1, 1) := by decide +kernel
theorem dX9_isOpenAt_1 : decode cX9_isOpenAt 1 = .ok (.ifCond .lt 22, 3) := by decide +kernel
theorem dX9_isOpenAt_4 : decode cX9_isOpenAt 4 = .ok (.iload_n 1, 1) := by decide +kernel
theorem dX9_isOpenAt_5 : decode cX9_isOpenAt 5 = .ok (.bipush 6, 2) := by decide +kernel
theorem dX9_isOpenAt_7 : decode cX9_isOpenAt 7 = .ok (.if_icmp .ge 16, 3) := by decide +kernel
theorem dX9_isOpenAt_10 : decode cX9_isOpenAt 10 = .ok (.aload_n 0, 1) := by decide +kernel
theorem dX9_isOpenAt_11 : decode cX9_isOpenAt 11 = .ok (.getfield 11, 3) := by decide +kernel
theorem dX9_isOpenAt_14 : decode cX9_isOpenAt 14 = .ok (.iload_n 1, 1) := by decide +kernel
theorem dX9_isOpenAt_15 : decode cX9_isOpenAt 15 = .ok (.baload, 1) := by decide +kernel
theorem dX9_isOpenAt_16 : decode cX9_isOpenAt 16 = .ok (.ifCond .eq 7, 3) := by decide +kernel
theorem dX9_isOpenAt_19 : decode cX9_isOpenAt 19 = .ok (.iconst 1, 1) := by decide +kernel
theorem dX9_isOpenAt_20 : decode cX9_isOpenAt 20 = .ok (.goto 4, 3) := by decide +kernel
theorem dX9_isOpenAt_23 : decode cX9_isOpenAt 23 = .ok (.iconst 0, 1) := by decide +kernel
theorem dX9_isOpenAt_24 : decode cX9_isOpenAt 24 = .ok (.ireturn, 1) := by decide +kernel
theorem dX9_userAt_0 : decode cX9_userAt 0 = .ok (.aload_n 0, 1) := by decide +kernel
theorem dX9_userAt_1 : decode cX9_userAt 1 = .ok (.iload_n 1, 1) := by decide +kernel
theorem dX9_userAt_2 : decode cX9_userAt 2 = .ok (.invokevirtual 26, 3) := by decide +kernel
theorem dX9_userAt_5 : decode cX9_userAt 5 = .ok (.ifCond .eq 12, 3) := by decide +kernel
theorem dX9_userAt_8 : decode cX9_userAt 8 = .ok (.aload_n 0, 1) := by decide +kernel
theorem dX9_userAt_9 : decode cX9_userAt 9 = .ok (.getfield 19, 3) := by decide +kernel
theorem dX9_userAt_12 : decode cX9_userAt 12 = .ok (.iload_n 1, 1) := by decide +kernel
theorem dX9_userAt_13 : decode cX9_userAt 13 = .ok (.iaload, 1) := by decide +kernel
theorem dX9_userAt_14 : decode cX9_userAt 14 = .ok (.goto 4, 3) := by decide +kernel
theorem dX9_userAt_17 : decode cX9_userAt 17 = .ok (.iconst (-1), 1) := by decide +kernel
theorem dX9_userAt_18 : decode cX9_userAt 18 = .ok (.ireturn, 1) := by decide +kernel
theorem dX9_countOf_0 : decode cX9_countOf 0 = .ok (.iconst 0, 1) := by decide +kernel
theorem dX9_countOf_1 : decode cX9_countOf 1 = .ok (.istore_n 2, 1) := by decide +kernel
theorem dX9_countOf_2 : decode cX9_countOf 2 = .ok (.iconst 0, 1) := by decide +kernel
theorem dX9_countOf_3 : decode cX9_countOf 3 = .ok (.istore_n 3, 1) := by decide +kernel
theorem dX9_countOf_4 : decode cX9_countOf 4 = .ok (.iload_n 3, 1) := by decide +kernel
theorem dX9_countOf_5 : decode cX9_countOf 5 = .ok (.bipush 6, 2) := by decide +kernel
theorem dX9_countOf_7 : decode cX9_countOf 7 = .ok (.if_icmp .ge 31, 3) := by decide +kernel
theorem dX9_countOf_10 : decode cX9_countOf 10 = .ok (.aload_n 0, 1) := by decide +kernel
theorem dX9_countOf_11 : decode cX9_countOf 11 = .ok (.getfield 11, 3) := by decide +kernel
theorem dX9_countOf_14 : decode cX9_countOf 14 = .ok (.iload_n 3, 1) := by decide +kernel
theorem dX9_countOf_15 : decode cX9_countOf 15 = .ok (.baload, 1) := by decide +kernel
theorem dX9_countOf_16 : decode cX9_countOf 16 = .ok (.ifCond .eq 16, 3) := by decide +kernel
theorem dX9_countOf_19 : decode cX9_countOf 19 = .ok (.aload_n 0, 1) := by decide +kernel
theorem dX9_countOf_20 : decode cX9_countOf 20 = .ok (.getfield 19, 3) := by decide +kernel
theorem dX9_countOf_23 : decode cX9_countOf 23 = .ok (.iload_n 3, 1) := by decide +kernel
theorem dX9_countOf_24 : decode cX9_countOf 24 = .ok (.iaload, 1) := by decide +kernel
theorem dX9_countOf_25 : decode cX9_countOf 25 = .ok (.iload_n 1, 1) := by decide +kernel
theorem dX9_countOf_26 : decode cX9_countOf 26 = .ok (.if_icmp .ne 6, 3) := by decide +kernel
theorem dX9_countOf_29 : decode cX9_countOf 29 = .ok (.iinc 2 1, 3) := by decide +kernel
theorem dX9_countOf_32 : decode cX9_countOf 32 = .ok (.iinc 3 1, 3) := by decide +kernel
theorem dX9_countOf_35 : decode cX9_countOf 35 = .ok (.goto (-31), 3) := by decide +kernel
theorem dX9_countOf_38 : decode cX9_countOf 38 = .ok (.iload_n 2, 1) := by decide +kernel
theorem dX9_countOf_39 : decode cX9_countOf 39 = .ok (.ireturn, 1) := by decide +kernel
theorem dX9_leastFreeAddress_0 : decode cX9_leastFreeAddress 0 = .ok (.iconst 0, 1) := by decide +kernel
theorem dX9_leastFreeAddress_1 : decode cX9_leastFreeAddress 1 = .ok (.istore_n 1, 1) := by decide +kernel
theorem dX9_leastFreeAddress_2 : decode cX9_leastFreeAddress 2 = .ok (.iload_n 1, 1) := by decide +kernel
theorem dX9_leastFreeAddress_3 : decode cX9_leastFreeAddress 3 = .ok (.bipush 6, 2) := by decide +kernel
theorem dX9_leastFreeAddress_5 : decode cX9_leastFreeAddress 5 = .ok (.if_icmp .ge 20, 3) := by decide +kernel
theorem dX9_leastFreeAddress_8 : decode cX9_leastFreeAddress 8 = .ok (.aload_n 0, 1) := by decide +kernel
theorem dX9_leastFreeAddress_9 : decode cX9_leastFreeAddress 9 = .ok (.getfield 11, 3) := by decide +kernel
theorem dX9_leastFreeAddress_12 : decode cX9_leastFreeAddress 12 = .ok (.iload_n 1, 1) := by decide +kernel
theorem dX9_leastFreeAddress_13 : decode cX9_leastFreeAddress 13 = .ok (.baload, 1) := by decide +kernel
theorem dX9_leastFreeAddress_14 : decode cX9_leastFreeAddress 14 = .ok (.ifCond .ne 5, 3) := by decide +kernel
theorem dX9_leastFreeAddress_17 : decode cX9_leastFreeAddress 17 = .ok (.iload_n 1, 1) := by decide +kernel
theorem dX9_leastFreeAddress_18 : decode cX9_leastFreeAddress 18 = .ok (.ireturn, 1) := by decide +kernel
theorem dX9_leastFreeAddress_19 : decode cX9_leastFreeAddress 19 = .ok (.iinc 1 1, 3) := by decide +kernel
theorem dX9_leastFreeAddress_22 : decode cX9_leastFreeAddress 22 = .ok (.goto (-20), 3) := by decide +kernel
theorem dX9_leastFreeAddress_25 : decode cX9_leastFreeAddress 25 = .ok (.iconst (-1), 1) := by decide +kernel
theorem dX9_leastFreeAddress_26 : decode cX9_leastFreeAddress 26 = .ok (.ireturn, 1) := by decide +kernel
theorem dX9_open_0 : decode cX9_open 0 = .ok (.iload_n 1, 1) := by decide +kernel
theorem dX9_open_1 : decode cX9_open 1 = .ok (.ifCond .lt 30, 3) := by decide +kernel
theorem dX9_open_4 : decode cX9_open 4 = .ok (.iload_n 1, 1) := by decide +kernel
theorem dX9_open_5 : decode cX9_open 5 = .ok (.bipush 6, 2) := by decide +kernel
theorem dX9_open_7 : decode cX9_open 7 = .ok (.if_icmp .ge 24, 3) := by decide +kernel
theorem dX9_open_10 : decode cX9_open 10 = .ok (.aload_n 0, 1) := by decide +kernel
theorem dX9_open_11 : decode cX9_open 11 = .ok (.getfield 11, 3) := by decide +kernel
theorem dX9_open_14 : decode cX9_open 14 = .ok (.iload_n 1, 1) := by decide +kernel
theorem dX9_open_15 : decode cX9_open 15 = .ok (.iconst 1, 1) := by decide +kernel
theorem dX9_open_16 : decode cX9_open 16 = .ok (.bastore, 1) := by decide +kernel
theorem dX9_open_17 : decode cX9_open 17 = .ok (.aload_n 0, 1) := by decide +kernel
theorem dX9_open_18 : decode cX9_open 18 = .ok (.getfield 15, 3) := by decide +kernel
theorem dX9_open_21 : decode cX9_open 21 = .ok (.iload_n 1, 1) := by decide +kernel
theorem dX9_open_22 : decode cX9_open 22 = .ok (.iload_n 2, 1) := by decide +kernel
theorem dX9_open_23 : decode cX9_open 23 = .ok (.iastore, 1) := by decide +kernel
theorem dX9_open_24 : decode cX9_open 24 = .ok (.aload_n 0, 1) := by decide +kernel
theorem dX9_open_25 : decode cX9_open 25 = .ok (.getfield 19, 3) := by decide +kernel
theorem dX9_open_28 : decode cX9_open 28 = .ok (.iload_n 1, 1) := by decide +kernel
theorem dX9_open_29 : decode cX9_open 29 = .ok (.iload_n 3, 1) := by decide +kernel
theorem dX9_open_30 : decode cX9_open 30 = .ok (.iastore, 1) := by decide +kernel
theorem dX9_open_31 : decode cX9_open 31 = .ok (.return_, 1) := by decide +kernel
theorem dX9_endAt_0 : decode cX9_endAt 0 = .ok (.aload_n 0, 1) := by decide +kernel
theorem dX9_endAt_1 : decode cX9_endAt 1 = .ok (.iload_n 1, 1) := by decide +kernel
theorem dX9_endAt_2 : decode cX9_endAt 2 = .ok (.invokevirtual 26, 3) := by decide +kernel
theorem dX9_endAt_5 : decode cX9_endAt 5 = .ok (.ifCond .eq 10, 3) := by decide +kernel
theorem dX9_endAt_8 : decode cX9_endAt 8 = .ok (.aload_n 0, 1) := by decide +kernel
theorem dX9_endAt_9 : decode cX9_endAt 9 = .ok (.getfield 11, 3) := by decide +kernel
theorem dX9_endAt_12 : decode cX9_endAt 12 = .ok (.iload_n 1, 1) := by decide +kernel
theorem dX9_endAt_13 : decode cX9_endAt 13 = .ok (.iconst 0, 1) := by decide +kernel
theorem dX9_endAt_14 : decode cX9_endAt 14 = .ok (.bastore, 1) := by decide +kernel
theorem dX9_endAt_15 : decode cX9_endAt 15 = .ok (.return_, 1) := by decide +kernel
theorem dX9_endAndCount_0 : decode cX9_endAndCount 0 = .ok (.iconst 0, 1) := by decide +kernel
theorem dX9_endAndCount_1 : decode cX9_endAndCount 1 = .ok (.istore_n 3, 1) := by decide +kernel
theorem dX9_endAndCount_2 : decode cX9_endAndCount 2 = .ok (.iload_n 3, 1) := by decide +kernel
theorem dX9_endAndCount_3 : decode cX9_endAndCount 3 = .ok (.bipush 6, 2) := by decide +kernel
theorem dX9_endAndCount_5 : decode cX9_endAndCount 5 = .ok (.if_icmp .ge 55, 3) := by decide +kernel
theorem dX9_endAndCount_8 : decode cX9_endAndCount 8 = .ok (.aload_n 0, 1) := by decide +kernel
theorem dX9_endAndCount_9 : decode cX9_endAndCount 9 = .ok (.getfield 11, 3) := by decide +kernel
theorem dX9_endAndCount_12 : decode cX9_endAndCount 12 = .ok (.iload_n 3, 1) := by decide +kernel
theorem dX9_endAndCount_13 : decode cX9_endAndCount 13 = .ok (.baload, 1) := by decide +kernel
theorem dX9_endAndCount_14 : decode cX9_endAndCount 14 = .ok (.ifCond .eq 40, 3) := by decide +kernel
theorem dX9_endAndCount_17 : decode cX9_endAndCount 17 = .ok (.aload_n 0, 1) := by decide +kernel
theorem dX9_endAndCount_18 : decode cX9_endAndCount 18 = .ok (.getfield 15, 3) := by decide +kernel
theorem dX9_endAndCount_21 : decode cX9_endAndCount 21 = .ok (.iload_n 3, 1) := by decide +kernel
theorem dX9_endAndCount_22 : decode cX9_endAndCount 22 = .ok (.iaload, 1) := by decide +kernel
theorem dX9_endAndCount_23 : decode cX9_endAndCount 23 = .ok (.iload_n 1, 1) := by decide +kernel
theorem dX9_endAndCount_24 : decode cX9_endAndCount 24 = .ok (.if_icmp .ne 30, 3) := by decide +kernel
theorem dX9_endAndCount_27 : decode cX9_endAndCount 27 = .ok (.aload_n 0, 1) := by decide +kernel
theorem dX9_endAndCount_28 : decode cX9_endAndCount 28 = .ok (.getfield 19, 3) := by decide +kernel
theorem dX9_endAndCount_31 : decode cX9_endAndCount 31 = .ok (.iload_n 3, 1) := by decide +kernel
theorem dX9_endAndCount_32 : decode cX9_endAndCount 32 = .ok (.iaload, 1) := by decide +kernel
theorem dX9_endAndCount_33 : decode cX9_endAndCount 33 = .ok (.iload_n 2, 1) := by decide +kernel
theorem dX9_endAndCount_34 : decode cX9_endAndCount 34 = .ok (.if_icmp .ne 20, 3) := by decide +kernel
theorem dX9_endAndCount_37 : decode cX9_endAndCount 37 = .ok (.aload_n 0, 1) := by decide +kernel
theorem dX9_endAndCount_38 : decode cX9_endAndCount 38 = .ok (.getfield 11, 3) := by decide +kernel
theorem dX9_endAndCount_41 : decode cX9_endAndCount 41 = .ok (.iload_n 3, 1) := by decide +kernel
theorem dX9_endAndCount_42 : decode cX9_endAndCount 42 = .ok (.iconst 0, 1) := by decide +kernel
theorem dX9_endAndCount_43 : decode cX9_endAndCount 43 = .ok (.bastore, 1) := by decide +kernel
theorem dX9_endAndCount_44 : decode cX9_endAndCount 44 = .ok (.aload_n 0, 1) := by decide +kernel
theorem dX9_endAndCount_45 : decode cX9_endAndCount 45 = .ok (.dup, 1) := by decide +kernel
theorem dX9_endAndCount_46 : decode cX9_endAndCount 46 = .ok (.getfield 22, 3) := by decide +kernel
theorem dX9_endAndCount_49 : decode cX9_endAndCount 49 = .ok (.iconst 1, 1) := by decide +kernel
theorem dX9_endAndCount_50 : decode cX9_endAndCount 50 = .ok (.iadd, 1) := by decide +kernel
theorem dX9_endAndCount_51 : decode cX9_endAndCount 51 = .ok (.putfield 22, 3) := by decide +kernel
theorem dX9_endAndCount_54 : decode cX9_endAndCount 54 = .ok (.iinc 3 1, 3) := by decide +kernel
theorem dX9_endAndCount_57 : decode cX9_endAndCount 57 = .ok (.goto (-55), 3) := by decide +kernel
theorem dX9_endAndCount_60 : decode cX9_endAndCount 60 = .ok (.return_, 1) := by decide +kernel
