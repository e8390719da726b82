theorem wo_X2_1 : Cond.methodLink RX2 1 Lib.objectInit ∈ ax_ws ∧ Cond.instanceMethod Lib.objectInit ∈ ax_ws ∧ Cond.code Lib.objectInit ⟨#[0xb1]⟩ 1 none ∈ ax_ws := ⟨kw_in (i := 167) (by decide +kernel) (by decide +kernel), kw_in (i := 41) (by decide +kernel) (by decide +kernel), kw_in (i := 42) (by decide +kernel) (by decide +kernel)⟩
theorem wo_X5_3 : Cond.methodLink RX5 3 Lib.objectInit ∈ ax_ws ∧ Cond.instanceMethod Lib.objectInit ∈ ax_ws ∧ Cond.code Lib.objectInit ⟨#[0xb1]⟩ 1 none ∈ ax_ws := ⟨kw_in (i := 104) (by decide +kernel) (by decide +kernel), kw_in (i := 41) (by decide +kernel) (by decide +kernel), kw_in (i := 42) (by decide +kernel) (by decide +kernel)⟩
theorem wo_X4_1 : Cond.methodLink RX4 1 Lib.objectInit ∈ ax_ws ∧ Cond.instanceMethod Lib.objectInit ∈ ax_ws ∧ Cond.code Lib.objectInit ⟨#[0xb1]⟩ 1 none ∈ ax_ws := ⟨kw_in (i := 234) (by decide +kernel) (by decide +kernel), kw_in (i := 41) (by decide +kernel) (by decide +kernel), kw_in (i := 42) (by decide +kernel) (by decide +kernel)⟩
theorem wo_X1_1 : Cond.methodLink RX1 1 Lib.objectInit ∈ ax_ws ∧ Cond.instanceMethod Lib.objectInit ∈ ax_ws ∧ Cond.code Lib.objectInit ⟨#[0xb1]⟩ 1 none ∈ ax_ws := ⟨kw_in (i := 55) (by decide +kernel) (by decide +kernel), kw_in (i := 41) (by decide +kernel) (by decide +kernel), kw_in (i := 42) (by decide +kernel) (by decide +kernel)⟩
theorem wa_int : Cond.arrayClass (newarray.typeOf .int) ∈ ax_ws := kw_in (i := 65) (by decide +kernel) (by decide +kernel)
theorem wi_X1_9 : ax_FF RX1 9 k_dg 0 := ⟨RX1, TX1, 1, rfl, by decide, kw_in (i := 56) (by decide +kernel) (by decide +kernel), rfl, rfl⟩
theorem wo_X9_3 : Cond.methodLink RX9 3 Lib.objectInit ∈ ax_ws ∧ Cond.instanceMethod Lib.objectInit ∈ ax_ws ∧ Cond.code Lib.objectInit ⟨#[0xb1]⟩ 1 none ∈ ax_ws := ⟨kw_in (i := 212) (by decide +kernel) (by decide +kernel), kw_in (i := 41) (by decide +kernel) (by decide +kernel), kw_in (i := 42) (by decide +kernel) (by decide +kernel)⟩
theorem wa_boolean : Cond.arrayClass (newarray.typeOf .boolean) ∈ ax_ws := kw_in (i := 227) (by decide +kernel) (by decide +kernel)
theorem wi_X9_11 : ax_FF RX9 11 k_se 0 := ⟨RX9, TX9, 4, rfl, by decide, kw_in (i := 213) (by decide +kernel) (by decide +kernel), rfl, rfl⟩
theorem wi_X9_15 : ax_FF RX9 15 k_se 1 := ⟨RX9, TX9, 4, rfl, by decide, kw_in (i := 214) (by decide +kernel) (by decide +kernel), rfl, rfl⟩
theorem wi_X9_19 : ax_FF RX9 19 k_se 2 := ⟨RX9, TX9, 4, rfl, by decide, kw_in (i := 215) (by decide +kernel) (by decide +kernel), rfl, rfl⟩
theorem wn_X6_18 : Cond.classLink RX6 18 RX1 ∈ ax_ws ∧ Cond.instantiable RX1 1 ∈ ax_ws ∧ Cond.initialized RX1 ∈ ax_ws := ⟨kw_in (i := 49) (by decide +kernel) (by decide +kernel), kw_in (i := 51) (by decide +kernel) (by decide +kernel), kw_in (i := 24) (by decide +kernel) (by decide +kernel)⟩
theorem wc_X6_24 : ax_NI RX6 24 yX1_init cX1_init 1 := ⟨⟨"RealmLogins", by decide +kernel⟩, kw_in (i := 53) (by decide +kernel) (by decide +kernel), kw_in (i := 24) (by decide +kernel) (by decide +kernel), kw_in (i := 54) (by decide +kernel) (by decide +kernel), rfl⟩
theorem wy_X1_init : ax_yok yX1_init 0 := ⟨by decide, by decide, by decide +kernel⟩
theorem wo_X6_3 : Cond.methodLink RX6 3 Lib.objectInit ∈ ax_ws ∧ Cond.instanceMethod Lib.objectInit ∈ ax_ws ∧ Cond.code Lib.objectInit ⟨#[0xb1]⟩ 1 none ∈ ax_ws := ⟨kw_in (i := 48) (by decide +kernel) (by decide +kernel), kw_in (i := 41) (by decide +kernel) (by decide +kernel), kw_in (i := 42) (by decide +kernel) (by decide +kernel)⟩
theorem wi_X6_9 : ax_FF RX6 9 k_net 0 := ⟨RX6, TX6, 6, rfl, by decide, kw_in (i := 66) (by decide +kernel) (by decide +kernel), rfl, rfl⟩
theorem wi_X6_15 : ax_FF RX6 15 k_net 1 := ⟨RX6, TX6, 6, rfl, by decide, kw_in (i := 68) (by decide +kernel) (by decide +kernel), rfl, rfl⟩
theorem wq_X6_18 : Cond.classLink RX6 18 "RealmLogins$Datagram" ∈ ax_ws := kw_in (i := 49) (by decide +kernel) (by decide +kernel)
theorem wi_X6_20 : ax_FF RX6 20 k_net 2 := ⟨RX6, TX6, 6, rfl, by decide, kw_in (i := 70) (by decide +kernel) (by decide +kernel), rfl, rfl⟩
theorem wn_X7_11 : Cond.classLink RX7 11 RX5 ∈ ax_ws ∧ Cond.instantiable RX5 10 ∈ ax_ws ∧ Cond.initialized RX5 ∈ ax_ws := ⟨kw_in (i := 98) (by decide +kernel) (by decide +kernel), kw_in (i := 100) (by decide +kernel) (by decide +kernel), kw_in (i := 26) (by decide +kernel) (by decide +kernel)⟩
theorem wc_X7_24 : ax_NI RX7 24 yX5_init cX5_init 1 := ⟨⟨"RealmLogins", by decide +kernel⟩, kw_in (i := 102) (by decide +kernel) (by decide +kernel), kw_in (i := 26) (by decide +kernel) (by decide +kernel), kw_in (i := 103) (by decide +kernel) (by decide +kernel), rfl⟩
theorem wy_X5_init : ax_yok yX5_init 0 := ⟨by decide, by decide, by decide +kernel⟩
theorem wo_X7_3 : Cond.methodLink RX7 3 Lib.objectInit ∈ ax_ws ∧ Cond.instanceMethod Lib.objectInit ∈ ax_ws ∧ Cond.code Lib.objectInit ⟨#[0xb1]⟩ 1 none ∈ ax_ws := ⟨kw_in (i := 97) (by decide +kernel) (by decide +kernel), kw_in (i := 41) (by decide +kernel) (by decide +kernel), kw_in (i := 42) (by decide +kernel) (by decide +kernel)⟩
theorem wq_X7_11 : Cond.classLink RX7 11 "RealmLogins$Line" ∈ ax_ws := kw_in (i := 98) (by decide +kernel) (by decide +kernel)
theorem wi_X7_13 : ax_FF RX7 13 k_pt 1 := ⟨RX7, TX7, 3, rfl, by decide, kw_in (i := 145) (by decide +kernel) (by decide +kernel), rfl, rfl⟩
theorem wi_X7_21 : ax_FF RX7 21 k_pt 0 := ⟨RX7, TX7, 3, rfl, by decide, kw_in (i := 144) (by decide +kernel) (by decide +kernel), rfl, rfl⟩
theorem wn_X8_11 : Cond.classLink RX8 11 RX2 ∈ ax_ws ∧ Cond.instantiable RX2 7 ∈ ax_ws ∧ Cond.initialized RX2 ∈ ax_ws := ⟨kw_in (i := 161) (by decide +kernel) (by decide +kernel), kw_in (i := 163) (by decide +kernel) (by decide +kernel), kw_in (i := 28) (by decide +kernel) (by decide +kernel)⟩
theorem wc_X8_21 : ax_NI RX8 21 yX2_init cX2_init 1 := ⟨⟨"RealmLogins", by decide +kernel⟩, kw_in (i := 165) (by decide +kernel) (by decide +kernel), kw_in (i := 28) (by decide +kernel) (by decide +kernel), kw_in (i := 166) (by decide +kernel) (by decide +kernel), rfl⟩
theorem wy_X2_init : ax_yok yX2_init 0 := ⟨by decide, by decide, by decide +kernel⟩
theorem wo_X8_3 : Cond.methodLink RX8 3 Lib.objectInit ∈ ax_ws ∧ Cond.instanceMethod Lib.objectInit ∈ ax_ws ∧ Cond.code Lib.objectInit ⟨#[0xb1]⟩ 1 none ∈ ax_ws := ⟨kw_in (i := 160) (by decide +kernel) (by decide +kernel), kw_in (i := 41) (by decide +kernel) (by decide +kernel), kw_in (i := 42) (by decide +kernel) (by decide +kernel)⟩
theorem wq_X8_11 : Cond.classLink RX8 11 "RealmLogins$Entry" ∈ ax_ws := kw_in (i := 161) (by decide +kernel) (by decide +kernel)
theorem wi_X8_13 : ax_FF RX8 13 k_rel 0 := ⟨RX8, TX8, 3, rfl, by decide, kw_in (i := 190) (by decide +kernel) (by decide +kernel), rfl, rfl⟩
theorem wn_X3_25 : Cond.classLink RX3 25 RX4 ∈ ax_ws ∧ Cond.instantiable RX4 8 ∈ ax_ws ∧ Cond.initialized RX4 ∈ ax_ws := ⟨kw_in (i := 228) (by decide +kernel) (by decide +kernel), kw_in (i := 230) (by decide +kernel) (by decide +kernel), kw_in (i := 31) (by decide +kernel) (by decide +kernel)⟩
theorem wc_X3_35 : ax_NI RX3 35 yX4_init cX4_init 1 := ⟨⟨"RealmLogins", by decide +kernel⟩, kw_in (i := 232) (by decide +kernel) (by decide +kernel), kw_in (i := 31) (by decide +kernel) (by decide +kernel), kw_in (i := 233) (by decide +kernel) (by decide +kernel), rfl⟩
theorem wy_X4_init : ax_yok yX4_init 0 := ⟨by decide, by decide, by decide +kernel⟩
theorem wo_X3_3 : Cond.methodLink RX3 3 Lib.objectInit ∈ ax_ws ∧ Cond.instanceMethod Lib.objectInit ∈ ax_ws ∧ Cond.code Lib.objectInit ⟨#[0xb1]⟩ 1 none ∈ ax_ws := ⟨kw_in (i := 206) (by decide +kernel) (by decide +kernel), kw_in (i := 41) (by decide +kernel) (by decide +kernel), kw_in (i := 42) (by decide +kernel) (by decide +kernel)⟩
theorem wi_X3_9 : ax_FF RX3 9 k_hm 1 := ⟨RX3, TX3, 7, rfl, by decide, kw_in (i := 269) (by decide +kernel) (by decide +kernel), rfl, rfl⟩
theorem wi_X3_15 : ax_FF RX3 15 k_hm 2 := ⟨RX3, TX3, 7, rfl, by decide, kw_in (i := 271) (by decide +kernel) (by decide +kernel), rfl, rfl⟩
theorem wn_X3_18 : Cond.classLink RX3 18 RX9 ∈ ax_ws ∧ Cond.instantiable RX9 4 ∈ ax_ws ∧ Cond.initialized RX9 ∈ ax_ws := ⟨kw_in (i := 207) (by decide +kernel) (by decide +kernel), kw_in (i := 208) (by decide +kernel) (by decide +kernel), kw_in (i := 30) (by decide +kernel) (by decide +kernel)⟩
theorem wc_X3_20 : ax_NI RX3 20 yX9_init cX9_init 1 := ⟨⟨"RealmLogins", by decide +kernel⟩, kw_in (i := 210) (by decide +kernel) (by decide +kernel), kw_in (i := 30) (by decide +kernel) (by decide +kernel), kw_in (i := 211) (by decide +kernel) (by decide +kernel), rfl⟩
theorem wy_X9_init : ax_yok yX9_init 0 := ⟨by decide, by decide, by decide +kernel⟩
theorem wi_X3_21 : ax_FF RX3 21 k_hm 3 := ⟨RX3, TX3, 7, rfl, by decide, kw_in (i := 273) (by decide +kernel) (by decide +kernel), rfl, rfl⟩
theorem wq_X3_25 : Cond.classLink RX3 25 "RealmLogins$JournalRecord" ∈ ax_ws := kw_in (i := 228) (by decide +kernel) (by decide +kernel)
theorem wi_X3_27 : ax_FF RX3 27 k_hm 4 := ⟨RX3, TX3, 7, rfl, by decide, kw_in (i := 275) (by decide +kernel) (by decide +kernel), rfl, rfl⟩
theorem wi_X3_31 : ax_FF RX3 31 k_hm 0 := ⟨RX3, TX3, 7, rfl, by decide, kw_in (i := 268) (by decide +kernel) (by decide +kernel), rfl, rfl⟩
theorem wo_X0_1 : Cond.methodLink RX0 1 Lib.objectInit ∈ ax_ws ∧ Cond.instanceMethod Lib.objectInit ∈ ax_ws ∧ Cond.code Lib.objectInit ⟨#[0xb1]⟩ 1 none ∈ ax_ws := ⟨kw_in (i := 40) (by decide +kernel) (by decide +kernel), kw_in (i := 41) (by decide +kernel) (by decide +kernel), kw_in (i := 42) (by decide +kernel) (by decide +kernel)⟩
theorem wn_X0_7 : Cond.classLink RX0 7 RX6 ∈ ax_ws ∧ Cond.instantiable RX6 6 ∈ ax_ws ∧ Cond.initialized RX6 ∈ ax_ws := ⟨kw_in (i := 43) (by decide +kernel) (by decide +kernel), kw_in (i := 44) (by decide +kernel) (by decide +kernel), kw_in (i := 23) (by decide +kernel) (by decide +kernel)⟩
theorem wc_X0_9 : ax_LI RX0 9 yX6_init cX6_init 2 := ⟨kw_in (i := 45) (by decide +kernel) (by decide +kernel), kw_in (i := 46) (by decide +kernel) (by decide +kernel), kw_in (i := 23) (by decide +kernel) (by decide +kernel), kw_in (i := 47) (by decide +kernel) (by decide +kernel), rfl⟩
theorem wy_X6_init : ax_yok yX6_init 0 := ⟨by decide, by decide, by decide +kernel⟩
theorem wi_X0_10 : ax_FF RX0 10 k_rl 0 := ⟨RX0, TX0, 4, rfl, by decide, kw_in (i := 293) (by decide +kernel) (by decide +kernel), rfl, rfl⟩
theorem wq_X0_16 : Cond.classLink RX0 16 "RealmLogins$Point" ∈ ax_ws := kw_in (i := 91) (by decide +kernel) (by decide +kernel)
theorem wi_X0_18 : ax_FF RX0 18 k_rl 1 := ⟨RX0, TX0, 4, rfl, by decide, kw_in (i := 294) (by decide +kernel) (by decide +kernel), rfl, rfl⟩
theorem wn_X0_16 : Cond.classLink RX0 16 RX7 ∈ ax_ws ∧ Cond.instantiable RX7 3 ∈ ax_ws ∧ Cond.initialized RX7 ∈ ax_ws := ⟨kw_in (i := 91) (by decide +kernel) (by decide +kernel), kw_in (i := 93) (by decide +kernel) (by decide +kernel), kw_in (i := 25) (by decide +kernel) (by decide +kernel)⟩
theorem wc_X0_22 : ax_LI RX0 22 yX7_init cX7_init 3 := ⟨kw_in (i := 94) (by decide +kernel) (by decide +kernel), kw_in (i := 95) (by decide +kernel) (by decide +kernel), kw_in (i := 25) (by decide +kernel) (by decide +kernel), kw_in (i := 96) (by decide +kernel) (by decide +kernel), rfl⟩
theorem wy_X7_init : ax_yok yX7_init 1 := ⟨by decide, by decide, by decide +kernel⟩
theorem wn_X0_25 : Cond.classLink RX0 25 RX8 ∈ ax_ws ∧ Cond.instantiable RX8 3 ∈ ax_ws ∧ Cond.initialized RX8 ∈ ax_ws := ⟨kw_in (i := 155) (by decide +kernel) (by decide +kernel), kw_in (i := 156) (by decide +kernel) (by decide +kernel), kw_in (i := 27) (by decide +kernel) (by decide +kernel)⟩
theorem wc_X0_27 : ax_LI RX0 27 yX8_init cX8_init 2 := ⟨kw_in (i := 157) (by decide +kernel) (by decide +kernel), kw_in (i := 158) (by decide +kernel) (by decide +kernel), kw_in (i := 27) (by decide +kernel) (by decide +kernel), kw_in (i := 159) (by decide +kernel) (by decide +kernel), rfl⟩
theorem wy_X8_init : ax_yok yX8_init 0 := ⟨by decide, by decide, by decide +kernel⟩
theorem wi_X0_28 : ax_FF RX0 28 k_rl 2 := ⟨RX0, TX0, 4, rfl, by decide, kw_in (i := 295) (by decide +kernel) (by decide +kernel), rfl, rfl⟩
theorem wq_X0_32 : Cond.classLink RX0 32 "RealmLogins$Home" ∈ ax_ws := kw_in (i := 200) (by decide +kernel) (by decide +kernel)
theorem wi_X0_34 : ax_FF RX0 34 k_rl 3 := ⟨RX0, TX0, 4, rfl, by decide, kw_in (i := 296) (by decide +kernel) (by decide +kernel), rfl, rfl⟩
theorem wn_X0_32 : Cond.classLink RX0 32 RX3 ∈ ax_ws ∧ Cond.instantiable RX3 7 ∈ ax_ws ∧ Cond.initialized RX3 ∈ ax_ws := ⟨kw_in (i := 200) (by decide +kernel) (by decide +kernel), kw_in (i := 202) (by decide +kernel) (by decide +kernel), kw_in (i := 29) (by decide +kernel) (by decide +kernel)⟩
theorem wc_X0_38 : ax_LI RX0 38 yX3_init cX3_init 3 := ⟨kw_in (i := 203) (by decide +kernel) (by decide +kernel), kw_in (i := 204) (by decide +kernel) (by decide +kernel), kw_in (i := 29) (by decide +kernel) (by decide +kernel), kw_in (i := 205) (by decide +kernel) (by decide +kernel), rfl⟩
theorem wy_X3_init : ax_yok yX3_init 1 := ⟨by decide, by decide, by decide +kernel⟩
theorem wo_X10_1 : Cond.methodLink RX10 1 Lib.objectInit ∈ ax_ws ∧ Cond.instanceMethod Lib.objectInit ∈ ax_ws ∧ Cond.code Lib.objectInit ⟨#[0xb1]⟩ 1 none ∈ ax_ws := ⟨kw_in (i := 632) (by decide +kernel) (by decide +kernel), kw_in (i := 41) (by decide +kernel) (by decide +kernel), kw_in (i := 42) (by decide +kernel) (by decide +kernel)⟩
theorem wi_X10_7 : ax_FF RX10 7 k_mo 0 := ⟨RX10, TX10, 20, rfl, by decide, kw_in (i := 633) (by decide +kernel) (by decide +kernel), rfl, rfl⟩
theorem wi_X10_13 : ax_FF RX10 13 k_mo 1 := ⟨RX10, TX10, 20, rfl, by decide, kw_in (i := 634) (by decide +kernel) (by decide +kernel), rfl, rfl⟩
theorem wi_X10_16 : ax_FF RX10 16 k_mo 2 := ⟨RX10, TX10, 20, rfl, by decide, kw_in (i := 635) (by decide +kernel) (by decide +kernel), rfl, rfl⟩
theorem wi_X10_20 : ax_FF RX10 20 k_mo 3 := ⟨RX10, TX10, 20, rfl, by decide, kw_in (i := 636) (by decide +kernel) (by decide +kernel), rfl, rfl⟩
theorem wi_X10_23 : ax_FF RX10 23 k_mo 4 := ⟨RX10, TX10, 20, rfl, by decide, kw_in (i := 637) (by decide +kernel) (by decide +kernel), rfl, rfl⟩
theorem wi_X10_26 : ax_FF RX10 26 k_mo 6 := ⟨RX10, TX10, 20, rfl, by decide, kw_in (i := 639) (by decide +kernel) (by decide +kernel), rfl, rfl⟩
theorem wi_X10_29 : ax_FF RX10 29 k_mo 8 := ⟨RX10, TX10, 20, rfl, by decide, kw_in (i := 641) (by decide +kernel) (by decide +kernel), rfl, rfl⟩
theorem wi_X10_32 : ax_FF RX10 32 k_mo 9 := ⟨RX10, TX10, 20, rfl, by decide, kw_in (i := 642) (by decide +kernel) (by decide +kernel), rfl, rfl⟩
theorem wi_X10_35 : ax_FF RX10 35 k_mo 10 := ⟨RX10, TX10, 20, rfl, by decide, kw_in (i := 643) (by decide +kernel) (by decide +kernel), rfl, rfl⟩
theorem wi_X10_38 : ax_FF RX10 38 k_mo 11 := ⟨RX10, TX10, 20, rfl, by decide, kw_in (i := 644) (by decide +kernel) (by decide +kernel), rfl, rfl⟩
theorem wi_X10_41 : ax_FF RX10 41 k_mo 14 := ⟨RX10, TX10, 20, rfl, by decide, kw_in (i := 647) (by decide +kernel) (by decide +kernel), rfl, rfl⟩
theorem wi_X10_44 : ax_FF RX10 44 k_mo 15 := ⟨RX10, TX10, 20, rfl, by decide, kw_in (i := 648) (by decide +kernel) (by decide +kernel), rfl, rfl⟩
theorem wi_X10_47 : ax_FF RX10 47 k_mo 16 := ⟨RX10, TX10, 20, rfl, by decide, kw_in (i := 649) (by decide +kernel) (by decide +kernel), rfl, rfl⟩
theorem wi_X10_50 : ax_FF RX10 50 k_mo 17 := ⟨RX10, TX10, 20, rfl, by decide, kw_in (i := 650) (by decide +kernel) (by decide +kernel), rfl, rfl⟩
theorem wi_X10_53 : ax_FF RX10 53 k_mo 18 := ⟨RX10, TX10, 20, rfl, by decide, kw_in (i := 651) (by decide +kernel) (by decide +kernel), rfl, rfl⟩
theorem kc_b24N : (Int8.ofInt 24).toInt32 = (nI 24) := by decide
theorem kc_b12N : (Int8.ofInt 12).toInt32 = (nI 12) := by decide
theorem kc_s192 : (Int16.ofInt 192).toInt32 = 192 := by decide
theorem kc_b80 : (Int8.ofInt 80).toInt32 = 80 := by decide
theorem kc_s3072 : (Int16.ofInt 3072).toInt32 = 3072 := by decide
theorem kc_s800 : (Int16.ofInt 800).toInt32 = 800 := by decide
theorem kc_s192N : (Int16.ofInt 192).toInt32 = (nI 192) := by decide
theorem kc_b80N : (Int8.ofInt 80).toInt32 = (nI 80) := by decide
theorem kc_s3072N : (Int16.ofInt 3072).toInt32 = (nI 3072) := by decide
theorem kc_s800N : (Int16.ofInt 800).toInt32 = (nI 800) := by decide
