/-! words of links, by their places in the tables -/
theorem wl_X0_162 : Cond.constant RX0 162 40503 ∈ ax_ws := kw_in (i := 372) (by decide +kernel) (by decide +kernel)
theorem wf_X1_9 : ax_FL RX1 9 k_dg 0 := ⟨RX1, TX1, 1, rfl, by decide, kw_in (i := 56) (by decide +kernel) (by decide +kernel)⟩
theorem wc_X1_13 : ax_NS RX1 13 yX0_mix cX0_mix 4 (some .int) := ⟨⟨"RealmLogins", by decide +kernel⟩, kw_in (i := 370) (by decide +kernel) (by decide +kernel), kw_in (i := 22) (by decide +kernel) (by decide +kernel), kw_in (i := 371) (by decide +kernel) (by decide +kernel)⟩
theorem wy_X0_mix : ax_yok yX0_mix 2 := ⟨by decide, by decide, by decide +kernel⟩
theorem wm_X6_29 : Cond.methodLink RX6 29 Lib.Math.min.name ∈ ax_ws ∧ Cond.static Lib.Math.min.name ∈ ax_ws ∧ Cond.initialized "java/lang/Math" ∈ ax_ws ∧ Cond.code Lib.Math.min.name Lib.Math.min.code 2 (some .int) ∈ ax_ws := ⟨kw_in (i := 363) (by decide +kernel) (by decide +kernel), kw_in (i := 364) (by decide +kernel) (by decide +kernel), kw_in (i := 33) (by decide +kernel) (by decide +kernel), kw_in (i := 365) (by decide +kernel) (by decide +kernel)⟩
theorem wf_X6_15 : ax_FL RX6 15 k_net 1 := ⟨RX6, TX6, 6, rfl, by decide, kw_in (i := 68) (by decide +kernel) (by decide +kernel)⟩
theorem wf_X6_9 : ax_FL RX6 9 k_net 0 := ⟨RX6, TX6, 6, rfl, by decide, kw_in (i := 66) (by decide +kernel) (by decide +kernel)⟩
theorem wm_X6_35 : Cond.methodLink RX6 35 Lib.Math.max.name ∈ ax_ws ∧ Cond.static Lib.Math.max.name ∈ ax_ws ∧ Cond.initialized "java/lang/Math" ∈ ax_ws ∧ Cond.code Lib.Math.max.name Lib.Math.max.code 2 (some .int) ∈ ax_ws := ⟨kw_in (i := 366) (by decide +kernel) (by decide +kernel), kw_in (i := 367) (by decide +kernel) (by decide +kernel), kw_in (i := 33) (by decide +kernel) (by decide +kernel), kw_in (i := 368) (by decide +kernel) (by decide +kernel)⟩
theorem wf_X6_38 : ax_FL RX6 38 k_dg 0 := ⟨RX1, TX1, 1, rfl, by decide, kw_in (i := 59) (by decide +kernel) (by decide +kernel)⟩
theorem wc_X6_41 : ax_LV RX6 41 yX6_keyAt cX6_keyAt 5 (some .int) := ⟨kw_in (i := 384) (by decide +kernel) (by decide +kernel), kw_in (i := 360) (by decide +kernel) (by decide +kernel), kw_in (i := 361) (by decide +kernel) (by decide +kernel), kw_in (i := 23) (by decide +kernel) (by decide +kernel), kw_in (i := 362) (by decide +kernel) (by decide +kernel)⟩
theorem wy_X6_keyAt : ax_yok yX6_keyAt 2 := ⟨by decide, by decide, by decide +kernel⟩
theorem wc_X6_44 : ax_LV RX6 44 yX1_sealFor cX1_sealFor 4 (some .int) := ⟨kw_in (i := 385) (by decide +kernel) (by decide +kernel), kw_in (i := 386) (by decide +kernel) (by decide +kernel), kw_in (i := 387) (by decide +kernel) (by decide +kernel), kw_in (i := 24) (by decide +kernel) (by decide +kernel), kw_in (i := 388) (by decide +kernel) (by decide +kernel)⟩
theorem wy_X1_sealFor : ax_yok yX1_sealFor 2 := ⟨by decide, by decide, by decide +kernel⟩
theorem wf_X6_51 : ax_FL RX6 51 k_net 3 := ⟨RX6, TX6, 6, rfl, by decide, kw_in (i := 72) (by decide +kernel) (by decide +kernel)⟩
theorem wc_X6_47 : ax_LV RX6 47 yX6_isFull cX6_isFull 1 (some .boolean) := ⟨kw_in (i := 377) (by decide +kernel) (by decide +kernel), kw_in (i := 378) (by decide +kernel) (by decide +kernel), kw_in (i := 379) (by decide +kernel) (by decide +kernel), kw_in (i := 23) (by decide +kernel) (by decide +kernel), kw_in (i := 380) (by decide +kernel) (by decide +kernel)⟩
theorem wy_X6_isFull : ax_yok yX6_isFull 0 := ⟨by decide, by decide, by decide +kernel⟩
theorem wf_X6_20 : ax_FL RX6 20 k_net 2 := ⟨RX6, TX6, 6, rfl, by decide, kw_in (i := 70) (by decide +kernel) (by decide +kernel)⟩
theorem wp_X6_51 : ax_FP RX6 51 k_net 3 := ⟨RX6, TX6, 6, rfl, by decide, kw_in (i := 72) (by decide +kernel) (by decide +kernel), rfl⟩
theorem wc_X6_55 : ax_NS RX6 55 yX0_isRequest cX0_isRequest 1 (some .boolean) := ⟨⟨"RealmLogins", by decide +kernel⟩, kw_in (i := 382) (by decide +kernel) (by decide +kernel), kw_in (i := 22) (by decide +kernel) (by decide +kernel), kw_in (i := 383) (by decide +kernel) (by decide +kernel)⟩
theorem wy_X0_isRequest : ax_yok yX0_isRequest 1 := ⟨by decide, by decide, by decide +kernel⟩
theorem wf_X6_25 : ax_FL RX6 25 k_net 5 := ⟨RX6, TX6, 6, rfl, by decide, kw_in (i := 77) (by decide +kernel) (by decide +kernel)⟩
theorem wp_X6_25 : ax_FP RX6 25 k_net 5 := ⟨RX6, TX6, 6, rfl, by decide, kw_in (i := 77) (by decide +kernel) (by decide +kernel), rfl⟩
theorem wf_X5_9 : ax_FL RX5 9 k_ln 0 := ⟨RX5, TX5, 10, rfl, by decide, kw_in (i := 105) (by decide +kernel) (by decide +kernel)⟩
theorem wp_X5_9 : ax_FP RX5 9 k_ln 0 := ⟨RX5, TX5, 10, rfl, by decide, kw_in (i := 105) (by decide +kernel) (by decide +kernel), rfl⟩
theorem wp_X5_15 : ax_FP RX5 15 k_ln 1 := ⟨RX5, TX5, 10, rfl, by decide, kw_in (i := 108) (by decide +kernel) (by decide +kernel), rfl⟩
theorem wp_X5_18 : ax_FP RX5 18 k_ln 6 := ⟨RX5, TX5, 10, rfl, by decide, kw_in (i := 118) (by decide +kernel) (by decide +kernel), rfl⟩
theorem wp_X5_21 : ax_FP RX5 21 k_ln 7 := ⟨RX5, TX5, 10, rfl, by decide, kw_in (i := 120) (by decide +kernel) (by decide +kernel), rfl⟩
theorem wf_X5_15 : ax_FL RX5 15 k_ln 1 := ⟨RX5, TX5, 10, rfl, by decide, kw_in (i := 108) (by decide +kernel) (by decide +kernel)⟩
theorem wc_X5_24 : ax_LV RX5 24 yX5_isPending cX5_isPending 1 (some .boolean) := ⟨kw_in (i := 610) (by decide +kernel) (by decide +kernel), kw_in (i := 352) (by decide +kernel) (by decide +kernel), kw_in (i := 353) (by decide +kernel) (by decide +kernel), kw_in (i := 26) (by decide +kernel) (by decide +kernel), kw_in (i := 354) (by decide +kernel) (by decide +kernel)⟩
theorem wy_X5_isPending : ax_yok yX5_isPending 0 := ⟨by decide, by decide, by decide +kernel⟩
theorem wf_X5_28 : ax_FL RX5 28 k_ln 2 := ⟨RX5, TX5, 10, rfl, by decide, kw_in (i := 112) (by decide +kernel) (by decide +kernel)⟩
theorem wf_X5_18 : ax_FL RX5 18 k_ln 6 := ⟨RX5, TX5, 10, rfl, by decide, kw_in (i := 118) (by decide +kernel) (by decide +kernel)⟩
theorem wf_X5_21 : ax_FL RX5 21 k_ln 7 := ⟨RX5, TX5, 10, rfl, by decide, kw_in (i := 120) (by decide +kernel) (by decide +kernel)⟩
theorem wf_X7_13 : ax_FL RX7 13 k_pt 1 := ⟨RX7, TX7, 3, rfl, by decide, kw_in (i := 145) (by decide +kernel) (by decide +kernel)⟩
theorem wc_X7_53 : ax_LV RX7 53 yX5_isPending cX5_isPending 1 (some .boolean) := ⟨kw_in (i := 351) (by decide +kernel) (by decide +kernel), kw_in (i := 352) (by decide +kernel) (by decide +kernel), kw_in (i := 353) (by decide +kernel) (by decide +kernel), kw_in (i := 26) (by decide +kernel) (by decide +kernel), kw_in (i := 354) (by decide +kernel) (by decide +kernel)⟩
theorem wf_X7_29 : ax_FL RX7 29 k_ln 2 := ⟨RX5, TX5, 10, rfl, by decide, kw_in (i := 111) (by decide +kernel) (by decide +kernel)⟩
theorem wp_X7_17 : ax_FP RX7 17 k_pt 2 := ⟨RX7, TX7, 3, rfl, by decide, kw_in (i := 147) (by decide +kernel) (by decide +kernel), rfl⟩
theorem wc_X7_49 : ax_LV RX7 49 yX7_pendingLineWith cX7_pendingLineWith 3 (some (.object "RealmLogins$Line")) := ⟨kw_in (i := 347) (by decide +kernel) (by decide +kernel), kw_in (i := 348) (by decide +kernel) (by decide +kernel), kw_in (i := 349) (by decide +kernel) (by decide +kernel), kw_in (i := 25) (by decide +kernel) (by decide +kernel), kw_in (i := 350) (by decide +kernel) (by decide +kernel)⟩
theorem wy_X7_pendingLineWith : ax_yok yX7_pendingLineWith 1 := ⟨by decide, by decide, by decide +kernel⟩
theorem wc_X7_45 : ax_LS RX7 45 yX7_idBehind cX7_idBehind 1 (some .int) := ⟨kw_in (i := 344) (by decide +kernel) (by decide +kernel), kw_in (i := 345) (by decide +kernel) (by decide +kernel), kw_in (i := 25) (by decide +kernel) (by decide +kernel), kw_in (i := 346) (by decide +kernel) (by decide +kernel)⟩
theorem wy_X7_idBehind : ax_yok yX7_idBehind 1 := ⟨by decide, by decide, by decide +kernel⟩
theorem wf_X7_17 : ax_FL RX7 17 k_pt 2 := ⟨RX7, TX7, 3, rfl, by decide, kw_in (i := 147) (by decide +kernel) (by decide +kernel)⟩
theorem wf_X7_38 : ax_FL RX7 38 k_ln 8 := ⟨RX5, TX5, 10, rfl, by decide, kw_in (i := 121) (by decide +kernel) (by decide +kernel)⟩
theorem wp_X7_38 : ax_FP RX7 38 k_ln 8 := ⟨RX5, TX5, 10, rfl, by decide, kw_in (i := 121) (by decide +kernel) (by decide +kernel), rfl⟩
theorem wf_X7_57 : ax_FL RX7 57 k_net 4 := ⟨RX6, TX6, 6, rfl, by decide, kw_in (i := 75) (by decide +kernel) (by decide +kernel)⟩
theorem wp_X7_62 : ax_FP RX7 62 k_ln 9 := ⟨RX5, TX5, 10, rfl, by decide, kw_in (i := 122) (by decide +kernel) (by decide +kernel), rfl⟩
theorem wf_X7_32 : ax_FL RX7 32 k_ln 0 := ⟨RX5, TX5, 10, rfl, by decide, kw_in (i := 106) (by decide +kernel) (by decide +kernel)⟩
theorem wf_X7_21 : ax_FL RX7 21 k_pt 0 := ⟨RX7, TX7, 3, rfl, by decide, kw_in (i := 144) (by decide +kernel) (by decide +kernel)⟩
theorem wf_X7_35 : ax_FL RX7 35 k_ln 3 := ⟨RX5, TX5, 10, rfl, by decide, kw_in (i := 113) (by decide +kernel) (by decide +kernel)⟩
theorem wf_X7_75 : ax_FL RX7 75 k_ln 4 := ⟨RX5, TX5, 10, rfl, by decide, kw_in (i := 115) (by decide +kernel) (by decide +kernel)⟩
theorem wf_X7_82 : ax_FL RX7 82 k_ln 6 := ⟨RX5, TX5, 10, rfl, by decide, kw_in (i := 119) (by decide +kernel) (by decide +kernel)⟩
theorem wc_X7_78 : ax_LV RX7 78 yX6_send cX6_send 10 none := ⟨kw_in (i := 373) (by decide +kernel) (by decide +kernel), kw_in (i := 374) (by decide +kernel) (by decide +kernel), kw_in (i := 375) (by decide +kernel) (by decide +kernel), kw_in (i := 23) (by decide +kernel) (by decide +kernel), kw_in (i := 376) (by decide +kernel) (by decide +kernel)⟩
theorem wy_X6_send : ax_yok yX6_send 7 := ⟨by decide, by decide, by decide +kernel⟩
theorem wf_X7_65 : ax_FL RX7 65 k_ln 5 := ⟨RX5, TX5, 10, rfl, by decide, kw_in (i := 117) (by decide +kernel) (by decide +kernel)⟩
theorem wc_X7_68 : ax_LV RX7 68 yX6_keyAt cX6_keyAt 5 (some .int) := ⟨kw_in (i := 359) (by decide +kernel) (by decide +kernel), kw_in (i := 360) (by decide +kernel) (by decide +kernel), kw_in (i := 361) (by decide +kernel) (by decide +kernel), kw_in (i := 23) (by decide +kernel) (by decide +kernel), kw_in (i := 362) (by decide +kernel) (by decide +kernel)⟩
theorem wc_X7_72 : ax_NS RX7 72 yX0_mix cX0_mix 4 (some .int) := ⟨⟨"RealmLogins", by decide +kernel⟩, kw_in (i := 370) (by decide +kernel) (by decide +kernel), kw_in (i := 22) (by decide +kernel) (by decide +kernel), kw_in (i := 371) (by decide +kernel) (by decide +kernel)⟩
theorem wc_X7_25 : ax_LV RX7 25 yX7_newId cX7_newId 3 (some .int) := ⟨kw_in (i := 340) (by decide +kernel) (by decide +kernel), kw_in (i := 341) (by decide +kernel) (by decide +kernel), kw_in (i := 342) (by decide +kernel) (by decide +kernel), kw_in (i := 25) (by decide +kernel) (by decide +kernel), kw_in (i := 343) (by decide +kernel) (by decide +kernel)⟩
theorem wy_X7_newId : ax_yok yX7_newId 0 := ⟨by decide, by decide, by decide +kernel⟩
theorem wp_X7_29 : ax_FP RX7 29 k_ln 2 := ⟨RX5, TX5, 10, rfl, by decide, kw_in (i := 111) (by decide +kernel) (by decide +kernel), rfl⟩
theorem wp_X7_32 : ax_FP RX7 32 k_ln 0 := ⟨RX5, TX5, 10, rfl, by decide, kw_in (i := 106) (by decide +kernel) (by decide +kernel), rfl⟩
theorem wp_X7_35 : ax_FP RX7 35 k_ln 3 := ⟨RX5, TX5, 10, rfl, by decide, kw_in (i := 113) (by decide +kernel) (by decide +kernel), rfl⟩
theorem wc_X7_41 : ax_LV RX7 41 yX7_sendFor cX7_sendFor 4 none := ⟨kw_in (i := 355) (by decide +kernel) (by decide +kernel), kw_in (i := 356) (by decide +kernel) (by decide +kernel), kw_in (i := 357) (by decide +kernel) (by decide +kernel), kw_in (i := 25) (by decide +kernel) (by decide +kernel), kw_in (i := 358) (by decide +kernel) (by decide +kernel)⟩
theorem wy_X7_sendFor : ax_yok yX7_sendFor 2 := ⟨by decide, by decide, by decide +kernel⟩
theorem wf_X7_85 : ax_FL RX7 85 k_dg 0 := ⟨RX1, TX1, 1, rfl, by decide, kw_in (i := 61) (by decide +kernel) (by decide +kernel)⟩
theorem wc_X7_91 : ax_LV RX7 91 yX5_waitsFor cX5_waitsFor 2 (some .boolean) := ⟨kw_in (i := 410) (by decide +kernel) (by decide +kernel), kw_in (i := 411) (by decide +kernel) (by decide +kernel), kw_in (i := 412) (by decide +kernel) (by decide +kernel), kw_in (i := 26) (by decide +kernel) (by decide +kernel), kw_in (i := 413) (by decide +kernel) (by decide +kernel)⟩
theorem wy_X5_waitsFor : ax_yok yX5_waitsFor 1 := ⟨by decide, by decide, by decide +kernel⟩
theorem wc_X7_95 : ax_LV RX7 95 yX6_isRight cX6_isRight 5 (some .boolean) := ⟨kw_in (i := 414) (by decide +kernel) (by decide +kernel), kw_in (i := 415) (by decide +kernel) (by decide +kernel), kw_in (i := 416) (by decide +kernel) (by decide +kernel), kw_in (i := 23) (by decide +kernel) (by decide +kernel), kw_in (i := 417) (by decide +kernel) (by decide +kernel)⟩
theorem wy_X6_isRight : ax_yok yX6_isRight 2 := ⟨by decide, by decide, by decide +kernel⟩
theorem wc_X7_99 : ax_LV RX7 99 yX5_settle cX5_settle 4 none := ⟨kw_in (i := 418) (by decide +kernel) (by decide +kernel), kw_in (i := 419) (by decide +kernel) (by decide +kernel), kw_in (i := 420) (by decide +kernel) (by decide +kernel), kw_in (i := 26) (by decide +kernel) (by decide +kernel), kw_in (i := 421) (by decide +kernel) (by decide +kernel)⟩
theorem wy_X5_settle : ax_yok yX5_settle 3 := ⟨by decide, by decide, by decide +kernel⟩
theorem wf_X7_62 : ax_FL RX7 62 k_ln 9 := ⟨RX5, TX5, 10, rfl, by decide, kw_in (i := 122) (by decide +kernel) (by decide +kernel)⟩
theorem wc_X7_103 : ax_LV RX7 103 yX5_giveUp cX5_giveUp 1 none := ⟨kw_in (i := 553) (by decide +kernel) (by decide +kernel), kw_in (i := 554) (by decide +kernel) (by decide +kernel), kw_in (i := 555) (by decide +kernel) (by decide +kernel), kw_in (i := 26) (by decide +kernel) (by decide +kernel), kw_in (i := 556) (by decide +kernel) (by decide +kernel)⟩
theorem wy_X5_giveUp : ax_yok yX5_giveUp 0 := ⟨by decide, by decide, by decide +kernel⟩
theorem wp_X7_106 : ax_FP RX7 106 k_ln 1 := ⟨RX5, TX5, 10, rfl, by decide, kw_in (i := 110) (by decide +kernel) (by decide +kernel), rfl⟩
theorem wf_X8_13 : ax_FL RX8 13 k_rel 0 := ⟨RX8, TX8, 3, rfl, by decide, kw_in (i := 190) (by decide +kernel) (by decide +kernel)⟩
theorem wf_X8_56 : ax_FL RX8 56 k_en 0 := ⟨RX2, TX2, 7, rfl, by decide, kw_in (i := 168) (by decide +kernel) (by decide +kernel)⟩
theorem wf_X8_60 : ax_FL RX8 60 k_en 1 := ⟨RX2, TX2, 7, rfl, by decide, kw_in (i := 169) (by decide +kernel) (by decide +kernel)⟩
theorem wf_X8_63 : ax_FL RX8 63 k_en 2 := ⟨RX2, TX2, 7, rfl, by decide, kw_in (i := 170) (by decide +kernel) (by decide +kernel)⟩
theorem wf_X8_66 : ax_FL RX8 66 k_en 3 := ⟨RX2, TX2, 7, rfl, by decide, kw_in (i := 171) (by decide +kernel) (by decide +kernel)⟩
theorem wf_X8_69 : ax_FL RX8 69 k_en 4 := ⟨RX2, TX2, 7, rfl, by decide, kw_in (i := 172) (by decide +kernel) (by decide +kernel)⟩
theorem wf_X8_17 : ax_FL RX8 17 k_rel 1 := ⟨RX8, TX8, 3, rfl, by decide, kw_in (i := 191) (by decide +kernel) (by decide +kernel)⟩
theorem wp_X8_17 : ax_FP RX8 17 k_rel 1 := ⟨RX8, TX8, 3, rfl, by decide, kw_in (i := 191) (by decide +kernel) (by decide +kernel), rfl⟩
theorem wp_X8_56 : ax_FP RX8 56 k_en 0 := ⟨RX2, TX2, 7, rfl, by decide, kw_in (i := 168) (by decide +kernel) (by decide +kernel), rfl⟩
theorem wp_X8_60 : ax_FP RX8 60 k_en 1 := ⟨RX2, TX2, 7, rfl, by decide, kw_in (i := 169) (by decide +kernel) (by decide +kernel), rfl⟩
theorem wp_X8_63 : ax_FP RX8 63 k_en 2 := ⟨RX2, TX2, 7, rfl, by decide, kw_in (i := 170) (by decide +kernel) (by decide +kernel), rfl⟩
theorem wp_X8_66 : ax_FP RX8 66 k_en 3 := ⟨RX2, TX2, 7, rfl, by decide, kw_in (i := 171) (by decide +kernel) (by decide +kernel), rfl⟩
theorem wp_X8_69 : ax_FP RX8 69 k_en 4 := ⟨RX2, TX2, 7, rfl, by decide, kw_in (i := 172) (by decide +kernel) (by decide +kernel), rfl⟩
theorem wc_X8_72 : ax_NS RX8 72 yX0_homeOf cX0_homeOf 1 (some .int) := ⟨⟨"RealmLogins", by decide +kernel⟩, kw_in (i := 318) (by decide +kernel) (by decide +kernel), kw_in (i := 22) (by decide +kernel) (by decide +kernel), kw_in (i := 319) (by decide +kernel) (by decide +kernel)⟩
theorem wy_X0_homeOf : ax_yok yX0_homeOf 1 := ⟨by decide, by decide, by decide +kernel⟩
theorem wp_X8_76 : ax_FP RX8 76 k_en 5 := ⟨RX2, TX2, 7, rfl, by decide, kw_in (i := 173) (by decide +kernel) (by decide +kernel), rfl⟩
theorem wf_X8_79 : ax_FL RX8 79 k_rel 2 := ⟨RX8, TX8, 3, rfl, by decide, kw_in (i := 192) (by decide +kernel) (by decide +kernel)⟩
theorem wc_X8_82 : ax_NS RX8 82 yX0_mix cX0_mix 4 (some .int) := ⟨⟨"RealmLogins", by decide +kernel⟩, kw_in (i := 370) (by decide +kernel) (by decide +kernel), kw_in (i := 22) (by decide +kernel) (by decide +kernel), kw_in (i := 371) (by decide +kernel) (by decide +kernel)⟩
theorem wp_X8_86 : ax_FP RX8 86 k_en 6 := ⟨RX2, TX2, 7, rfl, by decide, kw_in (i := 174) (by decide +kernel) (by decide +kernel), rfl⟩
theorem wp_X8_79 : ax_FP RX8 79 k_rel 2 := ⟨RX8, TX8, 3, rfl, by decide, kw_in (i := 192) (by decide +kernel) (by decide +kernel), rfl⟩
theorem wf_X8_76 : ax_FL RX8 76 k_en 5 := ⟨RX2, TX2, 7, rfl, by decide, kw_in (i := 173) (by decide +kernel) (by decide +kernel)⟩
theorem wf_X8_86 : ax_FL RX8 86 k_en 6 := ⟨RX2, TX2, 7, rfl, by decide, kw_in (i := 174) (by decide +kernel) (by decide +kernel)⟩
theorem wc_X8_92 : ax_LV RX8 92 yX6_send cX6_send 10 none := ⟨kw_in (i := 517) (by decide +kernel) (by decide +kernel), kw_in (i := 374) (by decide +kernel) (by decide +kernel), kw_in (i := 375) (by decide +kernel) (by decide +kernel), kw_in (i := 23) (by decide +kernel) (by decide +kernel), kw_in (i := 376) (by decide +kernel) (by decide +kernel)⟩
theorem wc_X8_89 : ax_LV RX8 89 yX6_keyAt cX6_keyAt 5 (some .int) := ⟨kw_in (i := 516) (by decide +kernel) (by decide +kernel), kw_in (i := 360) (by decide +kernel) (by decide +kernel), kw_in (i := 361) (by decide +kernel) (by decide +kernel), kw_in (i := 23) (by decide +kernel) (by decide +kernel), kw_in (i := 362) (by decide +kernel) (by decide +kernel)⟩
theorem wf_X8_22 : ax_FL RX8 22 k_dg 0 := ⟨RX1, TX1, 1, rfl, by decide, kw_in (i := 58) (by decide +kernel) (by decide +kernel)⟩
theorem wc_X8_35 : ax_NS RX8 35 yX0_isRequest cX0_isRequest 1 (some .boolean) := ⟨⟨"RealmLogins", by decide +kernel⟩, kw_in (i := 382) (by decide +kernel) (by decide +kernel), kw_in (i := 22) (by decide +kernel) (by decide +kernel), kw_in (i := 383) (by decide +kernel) (by decide +kernel)⟩
theorem wc_X8_39 : ax_LV RX8 39 yX6_isRight cX6_isRight 5 (some .boolean) := ⟨kw_in (i := 501) (by decide +kernel) (by decide +kernel), kw_in (i := 415) (by decide +kernel) (by decide +kernel), kw_in (i := 416) (by decide +kernel) (by decide +kernel), kw_in (i := 23) (by decide +kernel) (by decide +kernel), kw_in (i := 417) (by decide +kernel) (by decide +kernel)⟩
theorem wc_X8_45 : ax_LV RX8 45 yX8_placeOfEntryFor cX8_placeOfEntryFor 4 (some .int) := ⟨kw_in (i := 502) (by decide +kernel) (by decide +kernel), kw_in (i := 503) (by decide +kernel) (by decide +kernel), kw_in (i := 504) (by decide +kernel) (by decide +kernel), kw_in (i := 27) (by decide +kernel) (by decide +kernel), kw_in (i := 505) (by decide +kernel) (by decide +kernel)⟩
theorem wy_X8_placeOfEntryFor : ax_yok yX8_placeOfEntryFor 1 := ⟨by decide, by decide, by decide +kernel⟩
theorem wc_X8_49 : ax_LV RX8 49 yX8_makeEntry cX8_makeEntry 3 (some .int) := ⟨kw_in (i := 506) (by decide +kernel) (by decide +kernel), kw_in (i := 507) (by decide +kernel) (by decide +kernel), kw_in (i := 508) (by decide +kernel) (by decide +kernel), kw_in (i := 27) (by decide +kernel) (by decide +kernel), kw_in (i := 509) (by decide +kernel) (by decide +kernel)⟩
theorem wy_X8_makeEntry : ax_yok yX8_makeEntry 1 := ⟨by decide, by decide, by decide +kernel⟩
theorem wc_X8_52 : ax_LV RX8 52 yX8_handOnRequest cX8_handOnRequest 6 none := ⟨kw_in (i := 512) (by decide +kernel) (by decide +kernel), kw_in (i := 513) (by decide +kernel) (by decide +kernel), kw_in (i := 514) (by decide +kernel) (by decide +kernel), kw_in (i := 27) (by decide +kernel) (by decide +kernel), kw_in (i := 515) (by decide +kernel) (by decide +kernel)⟩
theorem wy_X8_handOnRequest : ax_yok yX8_handOnRequest 3 := ⟨by decide, by decide, by decide +kernel⟩
theorem wc_X8_96 : ax_NS RX8 96 yX0_isAnswer cX0_isAnswer 1 (some .boolean) := ⟨⟨"RealmLogins", by decide +kernel⟩, kw_in (i := 523) (by decide +kernel) (by decide +kernel), kw_in (i := 22) (by decide +kernel) (by decide +kernel), kw_in (i := 524) (by decide +kernel) (by decide +kernel)⟩
theorem wy_X0_isAnswer : ax_yok yX0_isAnswer 1 := ⟨by decide, by decide, by decide +kernel⟩
theorem wc_X8_28 : ax_LV RX8 28 yX8_hearRequest cX8_hearRequest 6 (some .int) := ⟨kw_in (i := 496) (by decide +kernel) (by decide +kernel), kw_in (i := 497) (by decide +kernel) (by decide +kernel), kw_in (i := 498) (by decide +kernel) (by decide +kernel), kw_in (i := 27) (by decide +kernel) (by decide +kernel), kw_in (i := 499) (by decide +kernel) (by decide +kernel)⟩
theorem wy_X8_hearRequest : ax_yok yX8_hearRequest 2 := ⟨by decide, by decide, by decide +kernel⟩
theorem wc_X8_32 : ax_LV RX8 32 yX8_hearAnswer cX8_hearAnswer 9 (some .int) := ⟨kw_in (i := 518) (by decide +kernel) (by decide +kernel), kw_in (i := 519) (by decide +kernel) (by decide +kernel), kw_in (i := 520) (by decide +kernel) (by decide +kernel), kw_in (i := 27) (by decide +kernel) (by decide +kernel), kw_in (i := 521) (by decide +kernel) (by decide +kernel)⟩
theorem wy_X8_hearAnswer : ax_yok yX8_hearAnswer 2 := ⟨by decide, by decide, by decide +kernel⟩
theorem wf_X9_11 : ax_FL RX9 11 k_se 0 := ⟨RX9, TX9, 4, rfl, by decide, kw_in (i := 213) (by decide +kernel) (by decide +kernel)⟩
theorem wc_X9_26 : ax_LV RX9 26 yX9_isOpenAt cX9_isOpenAt 2 (some .boolean) := ⟨kw_in (i := 480) (by decide +kernel) (by decide +kernel), kw_in (i := 481) (by decide +kernel) (by decide +kernel), kw_in (i := 482) (by decide +kernel) (by decide +kernel), kw_in (i := 30) (by decide +kernel) (by decide +kernel), kw_in (i := 483) (by decide +kernel) (by decide +kernel)⟩
theorem wy_X9_isOpenAt : ax_yok yX9_isOpenAt 1 := ⟨by decide, by decide, by decide +kernel⟩
theorem wf_X9_19 : ax_FL RX9 19 k_se 2 := ⟨RX9, TX9, 4, rfl, by decide, kw_in (i := 215) (by decide +kernel) (by decide +kernel)⟩
theorem wf_X9_15 : ax_FL RX9 15 k_se 1 := ⟨RX9, TX9, 4, rfl, by decide, kw_in (i := 214) (by decide +kernel) (by decide +kernel)⟩
theorem wf_X9_22 : ax_FL RX9 22 k_se 3 := ⟨RX9, TX9, 4, rfl, by decide, kw_in (i := 216) (by decide +kernel) (by decide +kernel)⟩
theorem wp_X9_22 : ax_FP RX9 22 k_se 3 := ⟨RX9, TX9, 4, rfl, by decide, kw_in (i := 216) (by decide +kernel) (by decide +kernel), rfl⟩
theorem wp_X4_27 : ax_FP RX4 27 k_rc 5 := ⟨RX4, TX4, 8, rfl, by decide, kw_in (i := 245) (by decide +kernel) (by decide +kernel), rfl⟩
theorem wp_X4_30 : ax_FP RX4 30 k_rc 6 := ⟨RX4, TX4, 8, rfl, by decide, kw_in (i := 247) (by decide +kernel) (by decide +kernel), rfl⟩
theorem wp_X4_33 : ax_FP RX4 33 k_rc 7 := ⟨RX4, TX4, 8, rfl, by decide, kw_in (i := 249) (by decide +kernel) (by decide +kernel), rfl⟩
theorem wp_X4_9 : ax_FP RX4 9 k_rc 0 := ⟨RX4, TX4, 8, rfl, by decide, kw_in (i := 235) (by decide +kernel) (by decide +kernel), rfl⟩
theorem wp_X4_15 : ax_FP RX4 15 k_rc 1 := ⟨RX4, TX4, 8, rfl, by decide, kw_in (i := 237) (by decide +kernel) (by decide +kernel), rfl⟩
theorem wp_X4_18 : ax_FP RX4 18 k_rc 2 := ⟨RX4, TX4, 8, rfl, by decide, kw_in (i := 239) (by decide +kernel) (by decide +kernel), rfl⟩
theorem wp_X4_21 : ax_FP RX4 21 k_rc 3 := ⟨RX4, TX4, 8, rfl, by decide, kw_in (i := 241) (by decide +kernel) (by decide +kernel), rfl⟩
theorem wp_X4_24 : ax_FP RX4 24 k_rc 4 := ⟨RX4, TX4, 8, rfl, by decide, kw_in (i := 243) (by decide +kernel) (by decide +kernel), rfl⟩
theorem wc_X3_119 : ax_NS RX3 119 yX0_isUser cX0_isUser 1 (some .boolean) := ⟨⟨"RealmLogins", by decide +kernel⟩, kw_in (i := 315) (by decide +kernel) (by decide +kernel), kw_in (i := 22) (by decide +kernel) (by decide +kernel), kw_in (i := 316) (by decide +kernel) (by decide +kernel)⟩
theorem wy_X0_isUser : ax_yok yX0_isUser 1 := ⟨by decide, by decide, by decide +kernel⟩
theorem wf_X3_15 : ax_FL RX3 15 k_hm 2 := ⟨RX3, TX3, 7, rfl, by decide, kw_in (i := 271) (by decide +kernel) (by decide +kernel)⟩
theorem wf_X3_9 : ax_FL RX3 9 k_hm 1 := ⟨RX3, TX3, 7, rfl, by decide, kw_in (i := 269) (by decide +kernel) (by decide +kernel)⟩
theorem wf_X3_31 : ax_FL RX3 31 k_hm 0 := ⟨RX3, TX3, 7, rfl, by decide, kw_in (i := 268) (by decide +kernel) (by decide +kernel)⟩
theorem wc_X3_97 : ax_LV RX3 97 yX6_keyAt cX6_keyAt 5 (some .int) := ⟨kw_in (i := 449) (by decide +kernel) (by decide +kernel), kw_in (i := 360) (by decide +kernel) (by decide +kernel), kw_in (i := 361) (by decide +kernel) (by decide +kernel), kw_in (i := 23) (by decide +kernel) (by decide +kernel), kw_in (i := 362) (by decide +kernel) (by decide +kernel)⟩
theorem wf_X3_86 : ax_FL RX3 86 k_rc 2 := ⟨RX4, TX4, 8, rfl, by decide, kw_in (i := 240) (by decide +kernel) (by decide +kernel)⟩
theorem wc_X3_101 : ax_NS RX3 101 yX0_mix cX0_mix 4 (some .int) := ⟨⟨"RealmLogins", by decide +kernel⟩, kw_in (i := 370) (by decide +kernel) (by decide +kernel), kw_in (i := 22) (by decide +kernel) (by decide +kernel), kw_in (i := 371) (by decide +kernel) (by decide +kernel)⟩
theorem wf_X3_21 : ax_FL RX3 21 k_hm 3 := ⟨RX3, TX3, 7, rfl, by decide, kw_in (i := 273) (by decide +kernel) (by decide +kernel)⟩
theorem wc_X3_104 : ax_LV RX3 104 yX9_leastFreeAddress cX9_leastFreeAddress 2 (some .int) := ⟨kw_in (i := 451) (by decide +kernel) (by decide +kernel), kw_in (i := 452) (by decide +kernel) (by decide +kernel), kw_in (i := 453) (by decide +kernel) (by decide +kernel), kw_in (i := 30) (by decide +kernel) (by decide +kernel), kw_in (i := 454) (by decide +kernel) (by decide +kernel)⟩
theorem wy_X9_leastFreeAddress : ax_yok yX9_leastFreeAddress 0 := ⟨by decide, by decide, by decide +kernel⟩
theorem wf_X3_108 : ax_FL RX3 108 k_rc 3 := ⟨RX4, TX4, 8, rfl, by decide, kw_in (i := 242) (by decide +kernel) (by decide +kernel)⟩
theorem wc_X3_111 : ax_LV RX3 111 yX3_admits cX3_admits 3 (some .boolean) := ⟨kw_in (i := 455) (by decide +kernel) (by decide +kernel), kw_in (i := 456) (by decide +kernel) (by decide +kernel), kw_in (i := 457) (by decide +kernel) (by decide +kernel), kw_in (i := 29) (by decide +kernel) (by decide +kernel), kw_in (i := 458) (by decide +kernel) (by decide +kernel)⟩
theorem wy_X3_admits : ax_yok yX3_admits 2 := ⟨by decide, by decide, by decide +kernel⟩
theorem wc_X3_115 : ax_LV RX3 115 yX9_countOf cX9_countOf 4 (some .int) := ⟨kw_in (i := 464) (by decide +kernel) (by decide +kernel), kw_in (i := 465) (by decide +kernel) (by decide +kernel), kw_in (i := 466) (by decide +kernel) (by decide +kernel), kw_in (i := 30) (by decide +kernel) (by decide +kernel), kw_in (i := 467) (by decide +kernel) (by decide +kernel)⟩
theorem wy_X9_countOf : ax_yok yX9_countOf 1 := ⟨by decide, by decide, by decide +kernel⟩
theorem wf_X3_62 : ax_FL RX3 62 k_hm 5 := ⟨RX3, TX3, 7, rfl, by decide, kw_in (i := 276) (by decide +kernel) (by decide +kernel)⟩
theorem wc_X3_76 : ax_LV RX3 76 yX4_setAnswer cX4_setAnswer 4 none := ⟨kw_in (i := 460) (by decide +kernel) (by decide +kernel), kw_in (i := 461) (by decide +kernel) (by decide +kernel), kw_in (i := 462) (by decide +kernel) (by decide +kernel), kw_in (i := 31) (by decide +kernel) (by decide +kernel), kw_in (i := 463) (by decide +kernel) (by decide +kernel)⟩
theorem wy_X4_setAnswer : ax_yok yX4_setAnswer 3 := ⟨by decide, by decide, by decide +kernel⟩
theorem wf_X3_69 : ax_FL RX3 69 k_rc 0 := ⟨RX4, TX4, 8, rfl, by decide, kw_in (i := 236) (by decide +kernel) (by decide +kernel)⟩
theorem wf_X3_133 : ax_FL RX3 133 k_rc 5 := ⟨RX4, TX4, 8, rfl, by decide, kw_in (i := 246) (by decide +kernel) (by decide +kernel)⟩
theorem wf_X3_126 : ax_FL RX3 126 k_rc 7 := ⟨RX4, TX4, 8, rfl, by decide, kw_in (i := 250) (by decide +kernel) (by decide +kernel)⟩
theorem wf_X3_136 : ax_FL RX3 136 k_rc 6 := ⟨RX4, TX4, 8, rfl, by decide, kw_in (i := 248) (by decide +kernel) (by decide +kernel)⟩
theorem wc_X3_142 : ax_LV RX3 142 yX9_endAndCount cX9_endAndCount 4 none := ⟨kw_in (i := 488) (by decide +kernel) (by decide +kernel), kw_in (i := 489) (by decide +kernel) (by decide +kernel), kw_in (i := 490) (by decide +kernel) (by decide +kernel), kw_in (i := 30) (by decide +kernel) (by decide +kernel), kw_in (i := 491) (by decide +kernel) (by decide +kernel)⟩
theorem wy_X9_endAndCount : ax_yok yX9_endAndCount 2 := ⟨by decide, by decide, by decide +kernel⟩
theorem wc_X3_139 : ax_LV RX3 139 yX9_open cX9_open 4 none := ⟨kw_in (i := 484) (by decide +kernel) (by decide +kernel), kw_in (i := 485) (by decide +kernel) (by decide +kernel), kw_in (i := 486) (by decide +kernel) (by decide +kernel), kw_in (i := 30) (by decide +kernel) (by decide +kernel), kw_in (i := 487) (by decide +kernel) (by decide +kernel)⟩
theorem wy_X9_open : ax_yok yX9_open 3 := ⟨by decide, by decide, by decide +kernel⟩
theorem wc_X3_129 : ax_LV RX3 129 yX9_endAt cX9_endAt 2 none := ⟨kw_in (i := 476) (by decide +kernel) (by decide +kernel), kw_in (i := 477) (by decide +kernel) (by decide +kernel), kw_in (i := 478) (by decide +kernel) (by decide +kernel), kw_in (i := 30) (by decide +kernel) (by decide +kernel), kw_in (i := 479) (by decide +kernel) (by decide +kernel)⟩
theorem wy_X9_endAt : ax_yok yX9_endAt 1 := ⟨by decide, by decide, by decide +kernel⟩
theorem wf_X3_27 : ax_FL RX3 27 k_hm 4 := ⟨RX3, TX3, 7, rfl, by decide, kw_in (i := 275) (by decide +kernel) (by decide +kernel)⟩
theorem wc_X3_122 : ax_LV RX3 122 yX3_carryOut cX3_carryOut 2 none := ⟨kw_in (i := 472) (by decide +kernel) (by decide +kernel), kw_in (i := 473) (by decide +kernel) (by decide +kernel), kw_in (i := 474) (by decide +kernel) (by decide +kernel), kw_in (i := 29) (by decide +kernel) (by decide +kernel), kw_in (i := 475) (by decide +kernel) (by decide +kernel)⟩
theorem wy_X3_carryOut : ax_yok yX3_carryOut 1 := ⟨by decide, by decide, by decide +kernel⟩
theorem wp_X3_62 : ax_FP RX3 62 k_hm 5 := ⟨RX3, TX3, 7, rfl, by decide, kw_in (i := 276) (by decide +kernel) (by decide +kernel), rfl⟩
theorem wf_X3_83 : ax_FL RX3 83 k_rc 1 := ⟨RX4, TX4, 8, rfl, by decide, kw_in (i := 238) (by decide +kernel) (by decide +kernel)⟩
theorem wc_X3_146 : ax_LV RX3 146 yX6_send cX6_send 10 none := ⟨kw_in (i := 440) (by decide +kernel) (by decide +kernel), kw_in (i := 374) (by decide +kernel) (by decide +kernel), kw_in (i := 375) (by decide +kernel) (by decide +kernel), kw_in (i := 23) (by decide +kernel) (by decide +kernel), kw_in (i := 376) (by decide +kernel) (by decide +kernel)⟩
theorem wf_X3_90 : ax_FL RX3 90 k_hm 6 := ⟨RX3, TX3, 7, rfl, by decide, kw_in (i := 277) (by decide +kernel) (by decide +kernel)⟩
theorem wc_X3_93 : ax_LV RX3 93 yX3_sendAnswerOf cX3_sendAnswerOf 3 none := ⟨kw_in (i := 436) (by decide +kernel) (by decide +kernel), kw_in (i := 437) (by decide +kernel) (by decide +kernel), kw_in (i := 438) (by decide +kernel) (by decide +kernel), kw_in (i := 29) (by decide +kernel) (by decide +kernel), kw_in (i := 439) (by decide +kernel) (by decide +kernel)⟩
theorem wy_X3_sendAnswerOf : ax_yok yX3_sendAnswerOf 2 := ⟨by decide, by decide, by decide +kernel⟩
theorem wf_X3_89 : ax_FL RX3 89 k_rc 4 := ⟨RX4, TX4, 8, rfl, by decide, kw_in (i := 244) (by decide +kernel) (by decide +kernel)⟩
theorem wf_X3_36 : ax_FL RX3 36 k_dg 0 := ⟨RX1, TX1, 1, rfl, by decide, kw_in (i := 57) (by decide +kernel) (by decide +kernel)⟩
theorem wc_X3_41 : ax_NS RX3 41 yX0_isRequest cX0_isRequest 1 (some .boolean) := ⟨⟨"RealmLogins", by decide +kernel⟩, kw_in (i := 382) (by decide +kernel) (by decide +kernel), kw_in (i := 22) (by decide +kernel) (by decide +kernel), kw_in (i := 383) (by decide +kernel) (by decide +kernel)⟩
theorem wc_X3_45 : ax_LV RX3 45 yX6_isRight cX6_isRight 5 (some .boolean) := ⟨kw_in (i := 427) (by decide +kernel) (by decide +kernel), kw_in (i := 415) (by decide +kernel) (by decide +kernel), kw_in (i := 416) (by decide +kernel) (by decide +kernel), kw_in (i := 23) (by decide +kernel) (by decide +kernel), kw_in (i := 417) (by decide +kernel) (by decide +kernel)⟩
theorem wf_X3_51 : ax_FL RX3 51 k_net 4 := ⟨RX6, TX6, 6, rfl, by decide, kw_in (i := 74) (by decide +kernel) (by decide +kernel)⟩
theorem wc_X3_54 : ax_LV RX3 54 yX3_latestRecordOf cX3_latestRecordOf 5 (some .int) := ⟨kw_in (i := 428) (by decide +kernel) (by decide +kernel), kw_in (i := 429) (by decide +kernel) (by decide +kernel), kw_in (i := 430) (by decide +kernel) (by decide +kernel), kw_in (i := 29) (by decide +kernel) (by decide +kernel), kw_in (i := 431) (by decide +kernel) (by decide +kernel)⟩
theorem wy_X3_latestRecordOf : ax_yok yX3_latestRecordOf 2 := ⟨by decide, by decide, by decide +kernel⟩
theorem wc_X3_58 : ax_LV RX3 58 yX3_hearAgain cX3_hearAgain 3 (some .int) := ⟨kw_in (i := 432) (by decide +kernel) (by decide +kernel), kw_in (i := 433) (by decide +kernel) (by decide +kernel), kw_in (i := 434) (by decide +kernel) (by decide +kernel), kw_in (i := 29) (by decide +kernel) (by decide +kernel), kw_in (i := 435) (by decide +kernel) (by decide +kernel)⟩
theorem wy_X3_hearAgain : ax_yok yX3_hearAgain 2 := ⟨by decide, by decide, by decide +kernel⟩
theorem wc_X3_80 : ax_LV RX3 80 yX3_addRecord cX3_addRecord 1 none := ⟨kw_in (i := 468) (by decide +kernel) (by decide +kernel), kw_in (i := 469) (by decide +kernel) (by decide +kernel), kw_in (i := 470) (by decide +kernel) (by decide +kernel), kw_in (i := 29) (by decide +kernel) (by decide +kernel), kw_in (i := 471) (by decide +kernel) (by decide +kernel)⟩
theorem wy_X3_addRecord : ax_yok yX3_addRecord 0 := ⟨by decide, by decide, by decide +kernel⟩
theorem wc_X3_65 : ax_LV RX3 65 yX4_takeRequest cX4_takeRequest 3 none := ⟨kw_in (i := 441) (by decide +kernel) (by decide +kernel), kw_in (i := 442) (by decide +kernel) (by decide +kernel), kw_in (i := 443) (by decide +kernel) (by decide +kernel), kw_in (i := 31) (by decide +kernel) (by decide +kernel), kw_in (i := 444) (by decide +kernel) (by decide +kernel)⟩
theorem wy_X4_takeRequest : ax_yok yX4_takeRequest 2 := ⟨by decide, by decide, by decide +kernel⟩
theorem wc_X3_72 : ax_LV RX3 72 yX3_answerAsk cX3_answerAsk 6 none := ⟨kw_in (i := 445) (by decide +kernel) (by decide +kernel), kw_in (i := 446) (by decide +kernel) (by decide +kernel), kw_in (i := 447) (by decide +kernel) (by decide +kernel), kw_in (i := 29) (by decide +kernel) (by decide +kernel), kw_in (i := 448) (by decide +kernel) (by decide +kernel)⟩
theorem wy_X3_answerAsk : ax_yok yX3_answerAsk 3 := ⟨by decide, by decide, by decide +kernel⟩
theorem wc_X3_150 : ax_LV RX3 150 yX9_isOpenAt cX9_isOpenAt 2 (some .boolean) := ⟨kw_in (i := 593) (by decide +kernel) (by decide +kernel), kw_in (i := 481) (by decide +kernel) (by decide +kernel), kw_in (i := 482) (by decide +kernel) (by decide +kernel), kw_in (i := 30) (by decide +kernel) (by decide +kernel), kw_in (i := 483) (by decide +kernel) (by decide +kernel)⟩
theorem wp_X3_69 : ax_FP RX3 69 k_rc 0 := ⟨RX4, TX4, 8, rfl, by decide, kw_in (i := 236) (by decide +kernel) (by decide +kernel), rfl⟩
theorem wp_X3_90 : ax_FP RX3 90 k_hm 6 := ⟨RX3, TX3, 7, rfl, by decide, kw_in (i := 277) (by decide +kernel) (by decide +kernel), rfl⟩
theorem wc_X3_153 : ax_LV RX3 153 yX9_forgetAll cX9_forgetAll 2 none := ⟨kw_in (i := 577) (by decide +kernel) (by decide +kernel), kw_in (i := 578) (by decide +kernel) (by decide +kernel), kw_in (i := 579) (by decide +kernel) (by decide +kernel), kw_in (i := 30) (by decide +kernel) (by decide +kernel), kw_in (i := 580) (by decide +kernel) (by decide +kernel)⟩
theorem wy_X9_forgetAll : ax_yok yX9_forgetAll 0 := ⟨by decide, by decide, by decide +kernel⟩
theorem wf_X3_156 : ax_FL RX3 156 k_se 3 := ⟨RX9, TX9, 4, rfl, by decide, kw_in (i := 217) (by decide +kernel) (by decide +kernel)⟩
theorem wf_X0_18 : ax_FL RX0 18 k_rl 1 := ⟨RX0, TX0, 4, rfl, by decide, kw_in (i := 294) (by decide +kernel) (by decide +kernel)⟩
theorem wf_X0_34 : ax_FL RX0 34 k_rl 3 := ⟨RX0, TX0, 4, rfl, by decide, kw_in (i := 296) (by decide +kernel) (by decide +kernel)⟩
theorem wc_X0_64 : ax_LV RX0 64 yX0_pointAt cX0_pointAt 2 (some (.object "RealmLogins$Point")) := ⟨kw_in (i := 328) (by decide +kernel) (by decide +kernel), kw_in (i := 330) (by decide +kernel) (by decide +kernel), kw_in (i := 1) (by decide +kernel) (by decide +kernel), kw_in (i := 22) (by decide +kernel) (by decide +kernel), kw_in (i := 331) (by decide +kernel) (by decide +kernel)⟩
theorem wy_X0_pointAt : ax_yok yX0_pointAt 1 := ⟨by decide, by decide, by decide +kernel⟩
theorem wf_X0_158 : ax_FL RX0 158 k_pt 1 := ⟨RX7, TX7, 3, rfl, by decide, kw_in (i := 146) (by decide +kernel) (by decide +kernel)⟩
theorem wf_X0_10 : ax_FL RX0 10 k_rl 0 := ⟨RX0, TX0, 4, rfl, by decide, kw_in (i := 293) (by decide +kernel) (by decide +kernel)⟩
theorem wf_X0_39 : ax_FL RX0 39 k_net 0 := ⟨RX6, TX6, 6, rfl, by decide, kw_in (i := 67) (by decide +kernel) (by decide +kernel)⟩
theorem wf_X0_43 : ax_FL RX0 43 k_net 1 := ⟨RX6, TX6, 6, rfl, by decide, kw_in (i := 69) (by decide +kernel) (by decide +kernel)⟩
theorem wc_X0_46 : ax_LS RX0 46 yX0_isUser cX0_isUser 1 (some .boolean) := ⟨kw_in (i := 314) (by decide +kernel) (by decide +kernel), kw_in (i := 315) (by decide +kernel) (by decide +kernel), kw_in (i := 22) (by decide +kernel) (by decide +kernel), kw_in (i := 316) (by decide +kernel) (by decide +kernel)⟩
theorem wc_X0_50 : ax_LS RX0 50 yX0_homeOf cX0_homeOf 1 (some .int) := ⟨kw_in (i := 317) (by decide +kernel) (by decide +kernel), kw_in (i := 318) (by decide +kernel) (by decide +kernel), kw_in (i := 22) (by decide +kernel) (by decide +kernel), kw_in (i := 319) (by decide +kernel) (by decide +kernel)⟩
theorem wc_X0_54 : ax_LV RX0 54 yX0_homeAt cX0_homeAt 3 (some (.object "RealmLogins$Home")) := ⟨kw_in (i := 320) (by decide +kernel) (by decide +kernel), kw_in (i := 322) (by decide +kernel) (by decide +kernel), kw_in (i := 0) (by decide +kernel) (by decide +kernel), kw_in (i := 22) (by decide +kernel) (by decide +kernel), kw_in (i := 323) (by decide +kernel) (by decide +kernel)⟩
theorem wy_X0_homeAt : ax_yok yX0_homeAt 1 := ⟨by decide, by decide, by decide +kernel⟩
theorem wf_X0_58 : ax_FL RX0 58 k_hm 1 := ⟨RX3, TX3, 7, rfl, by decide, kw_in (i := 270) (by decide +kernel) (by decide +kernel)⟩
theorem wf_X0_61 : ax_FL RX0 61 k_hm 2 := ⟨RX3, TX3, 7, rfl, by decide, kw_in (i := 272) (by decide +kernel) (by decide +kernel)⟩
theorem wc_X0_68 : ax_LV RX0 68 yX0_lineAt cX0_lineAt 4 (some (.object "RealmLogins$Line")) := ⟨kw_in (i := 332) (by decide +kernel) (by decide +kernel), kw_in (i := 334) (by decide +kernel) (by decide +kernel), kw_in (i := 2) (by decide +kernel) (by decide +kernel), kw_in (i := 22) (by decide +kernel) (by decide +kernel), kw_in (i := 335) (by decide +kernel) (by decide +kernel)⟩
theorem wy_X0_lineAt : ax_yok yX0_lineAt 2 := ⟨by decide, by decide, by decide +kernel⟩
theorem wf_X0_72 : ax_FL RX0 72 k_ln 0 := ⟨RX5, TX5, 10, rfl, by decide, kw_in (i := 107) (by decide +kernel) (by decide +kernel)⟩
theorem wp_X0_78 : ax_FP RX0 78 k_ln 4 := ⟨RX5, TX5, 10, rfl, by decide, kw_in (i := 114) (by decide +kernel) (by decide +kernel), rfl⟩
theorem wp_X0_81 : ax_FP RX0 81 k_ln 5 := ⟨RX5, TX5, 10, rfl, by decide, kw_in (i := 116) (by decide +kernel) (by decide +kernel), rfl⟩
theorem wp_X0_84 : ax_FP RX0 84 k_ln 1 := ⟨RX5, TX5, 10, rfl, by decide, kw_in (i := 109) (by decide +kernel) (by decide +kernel), rfl⟩
theorem wc_X0_87 : ax_LV RX0 87 yX7_makePending cX7_makePending 5 (some .int) := ⟨kw_in (i := 336) (by decide +kernel) (by decide +kernel), kw_in (i := 337) (by decide +kernel) (by decide +kernel), kw_in (i := 338) (by decide +kernel) (by decide +kernel), kw_in (i := 25) (by decide +kernel) (by decide +kernel), kw_in (i := 339) (by decide +kernel) (by decide +kernel)⟩
theorem wy_X7_makePending : ax_yok yX7_makePending 4 := ⟨by decide, by decide, by decide +kernel⟩
theorem wc_X0_91 : ax_LV RX0 91 yX6_isPlace cX6_isPlace 2 (some .boolean) := ⟨kw_in (i := 398) (by decide +kernel) (by decide +kernel), kw_in (i := 399) (by decide +kernel) (by decide +kernel), kw_in (i := 400) (by decide +kernel) (by decide +kernel), kw_in (i := 23) (by decide +kernel) (by decide +kernel), kw_in (i := 401) (by decide +kernel) (by decide +kernel)⟩
theorem wy_X6_isPlace : ax_yok yX6_isPlace 1 := ⟨by decide, by decide, by decide +kernel⟩
theorem wc_X0_94 : ax_LV RX0 94 yX6_takeOut cX6_takeOut 4 (some (.object "RealmLogins$Datagram")) := ⟨kw_in (i := 402) (by decide +kernel) (by decide +kernel), kw_in (i := 403) (by decide +kernel) (by decide +kernel), kw_in (i := 404) (by decide +kernel) (by decide +kernel), kw_in (i := 23) (by decide +kernel) (by decide +kernel), kw_in (i := 405) (by decide +kernel) (by decide +kernel)⟩
theorem wy_X6_takeOut : ax_yok yX6_takeOut 1 := ⟨by decide, by decide, by decide +kernel⟩
theorem wf_X0_98 : ax_FL RX0 98 k_dg 0 := ⟨RX1, TX1, 1, rfl, by decide, kw_in (i := 60) (by decide +kernel) (by decide +kernel)⟩
theorem wc_X0_103 : ax_LV RX0 103 yX7_hear cX7_hear 6 (some .int) := ⟨kw_in (i := 406) (by decide +kernel) (by decide +kernel), kw_in (i := 407) (by decide +kernel) (by decide +kernel), kw_in (i := 408) (by decide +kernel) (by decide +kernel), kw_in (i := 25) (by decide +kernel) (by decide +kernel), kw_in (i := 409) (by decide +kernel) (by decide +kernel)⟩
theorem wy_X7_hear : ax_yok yX7_hear 2 := ⟨by decide, by decide, by decide +kernel⟩
theorem wc_X0_107 : ax_LV RX0 107 yX3_hear cX3_hear 6 (some .int) := ⟨kw_in (i := 422) (by decide +kernel) (by decide +kernel), kw_in (i := 423) (by decide +kernel) (by decide +kernel), kw_in (i := 424) (by decide +kernel) (by decide +kernel), kw_in (i := 29) (by decide +kernel) (by decide +kernel), kw_in (i := 425) (by decide +kernel) (by decide +kernel)⟩
theorem wy_X3_hear : ax_yok yX3_hear 2 := ⟨by decide, by decide, by decide +kernel⟩
theorem wf_X0_28 : ax_FL RX0 28 k_rl 2 := ⟨RX0, TX0, 4, rfl, by decide, kw_in (i := 295) (by decide +kernel) (by decide +kernel)⟩
theorem wc_X0_108 : ax_LV RX0 108 yX8_hear cX8_hear 4 (some .int) := ⟨kw_in (i := 492) (by decide +kernel) (by decide +kernel), kw_in (i := 493) (by decide +kernel) (by decide +kernel), kw_in (i := 494) (by decide +kernel) (by decide +kernel), kw_in (i := 27) (by decide +kernel) (by decide +kernel), kw_in (i := 495) (by decide +kernel) (by decide +kernel)⟩
theorem wy_X8_hear : ax_yok yX8_hear 2 := ⟨by decide, by decide, by decide +kernel⟩
theorem wf_X0_116 : ax_FL RX0 116 k_net 2 := ⟨RX6, TX6, 6, rfl, by decide, kw_in (i := 71) (by decide +kernel) (by decide +kernel)⟩
theorem wf_X0_142 : ax_FL RX0 142 k_net 3 := ⟨RX6, TX6, 6, rfl, by decide, kw_in (i := 73) (by decide +kernel) (by decide +kernel)⟩
theorem wc_X0_123 : ax_LV RX0 123 yX7_sendAgainOrGiveUp cX7_sendAgainOrGiveUp 6 (some .int) := ⟨kw_in (i := 549) (by decide +kernel) (by decide +kernel), kw_in (i := 550) (by decide +kernel) (by decide +kernel), kw_in (i := 551) (by decide +kernel) (by decide +kernel), kw_in (i := 25) (by decide +kernel) (by decide +kernel), kw_in (i := 552) (by decide +kernel) (by decide +kernel)⟩
theorem wy_X7_sendAgainOrGiveUp : ax_yok yX7_sendAgainOrGiveUp 1 := ⟨by decide, by decide, by decide +kernel⟩
theorem wf_X0_120 : ax_FL RX0 120 k_net 4 := ⟨RX6, TX6, 6, rfl, by decide, kw_in (i := 76) (by decide +kernel) (by decide +kernel)⟩
theorem wp_X0_120 : ax_FP RX0 120 k_net 4 := ⟨RX6, TX6, 6, rfl, by decide, kw_in (i := 76) (by decide +kernel) (by decide +kernel), rfl⟩
theorem wc_X0_127 : ax_LV RX0 127 yX3_makeAllDurable cX3_makeAllDurable 4 (some .int) := ⟨kw_in (i := 561) (by decide +kernel) (by decide +kernel), kw_in (i := 562) (by decide +kernel) (by decide +kernel), kw_in (i := 563) (by decide +kernel) (by decide +kernel), kw_in (i := 29) (by decide +kernel) (by decide +kernel), kw_in (i := 564) (by decide +kernel) (by decide +kernel)⟩
theorem wy_X3_makeAllDurable : ax_yok yX3_makeAllDurable 1 := ⟨by decide, by decide, by decide +kernel⟩
theorem wc_X0_139 : ax_LV RX0 139 yX3_makeEviction cX3_makeEviction 3 (some .boolean) := ⟨kw_in (i := 589) (by decide +kernel) (by decide +kernel), kw_in (i := 590) (by decide +kernel) (by decide +kernel), kw_in (i := 591) (by decide +kernel) (by decide +kernel), kw_in (i := 29) (by decide +kernel) (by decide +kernel), kw_in (i := 592) (by decide +kernel) (by decide +kernel)⟩
theorem wy_X3_makeEviction : ax_yok yX3_makeEviction 1 := ⟨by decide, by decide, by decide +kernel⟩
theorem wf_X0_148 : ax_FL RX0 148 k_hm 3 := ⟨RX3, TX3, 7, rfl, by decide, kw_in (i := 274) (by decide +kernel) (by decide +kernel)⟩
theorem wc_X0_152 : ax_LV RX0 152 yX9_userAt cX9_userAt 2 (some .int) := ⟨kw_in (i := 615) (by decide +kernel) (by decide +kernel), kw_in (i := 616) (by decide +kernel) (by decide +kernel), kw_in (i := 617) (by decide +kernel) (by decide +kernel), kw_in (i := 30) (by decide +kernel) (by decide +kernel), kw_in (i := 618) (by decide +kernel) (by decide +kernel)⟩
theorem wy_X9_userAt : ax_yok yX9_userAt 1 := ⟨by decide, by decide, by decide +kernel⟩
theorem wc_X0_157 : ax_LV RX0 157 yX3_tell cX3_tell 2 (some .int) := ⟨kw_in (i := 623) (by decide +kernel) (by decide +kernel), kw_in (i := 624) (by decide +kernel) (by decide +kernel), kw_in (i := 625) (by decide +kernel) (by decide +kernel), kw_in (i := 29) (by decide +kernel) (by decide +kernel), kw_in (i := 626) (by decide +kernel) (by decide +kernel)⟩
theorem wy_X3_tell : ax_yok yX3_tell 1 := ⟨by decide, by decide, by decide +kernel⟩
theorem wc_X0_145 : ax_LV RX0 145 yX5_tell cX5_tell 3 (some .int) := ⟨kw_in (i := 606) (by decide +kernel) (by decide +kernel), kw_in (i := 607) (by decide +kernel) (by decide +kernel), kw_in (i := 608) (by decide +kernel) (by decide +kernel), kw_in (i := 26) (by decide +kernel) (by decide +kernel), kw_in (i := 609) (by decide +kernel) (by decide +kernel)⟩
theorem wy_X5_tell : ax_yok yX5_tell 1 := ⟨by decide, by decide, by decide +kernel⟩
theorem wc_X0_130 : ax_LV RX0 130 yX7_forgetAll cX7_forgetAll 2 none := ⟨kw_in (i := 569) (by decide +kernel) (by decide +kernel), kw_in (i := 570) (by decide +kernel) (by decide +kernel), kw_in (i := 571) (by decide +kernel) (by decide +kernel), kw_in (i := 25) (by decide +kernel) (by decide +kernel), kw_in (i := 572) (by decide +kernel) (by decide +kernel)⟩
theorem wy_X7_forgetAll : ax_yok yX7_forgetAll 0 := ⟨by decide, by decide, by decide +kernel⟩
theorem wc_X0_133 : ax_LV RX0 133 yX3_forgetWhatIsNotDurable cX3_forgetWhatIsNotDurable 2 none := ⟨kw_in (i := 573) (by decide +kernel) (by decide +kernel), kw_in (i := 574) (by decide +kernel) (by decide +kernel), kw_in (i := 575) (by decide +kernel) (by decide +kernel), kw_in (i := 29) (by decide +kernel) (by decide +kernel), kw_in (i := 576) (by decide +kernel) (by decide +kernel)⟩
theorem wy_X3_forgetWhatIsNotDurable : ax_yok yX3_forgetWhatIsNotDurable 0 := ⟨by decide, by decide, by decide +kernel⟩
theorem wc_X0_136 : ax_LV RX0 136 yX8_forgetEntries cX8_forgetEntries 2 none := ⟨kw_in (i := 581) (by decide +kernel) (by decide +kernel), kw_in (i := 582) (by decide +kernel) (by decide +kernel), kw_in (i := 583) (by decide +kernel) (by decide +kernel), kw_in (i := 27) (by decide +kernel) (by decide +kernel), kw_in (i := 584) (by decide +kernel) (by decide +kernel)⟩
theorem wy_X8_forgetEntries : ax_yok yX8_forgetEntries 0 := ⟨by decide, by decide, by decide +kernel⟩
theorem wl_X10_56 : Cond.constant RX10 56 40503 ∈ ax_ws := kw_in (i := 732) (by decide +kernel) (by decide +kernel)
theorem wc_X10_57 : ax_LS RX10 57 yX10_mix cX10_mix 3 (some .int) := ⟨kw_in (i := 729) (by decide +kernel) (by decide +kernel), kw_in (i := 730) (by decide +kernel) (by decide +kernel), kw_in (i := 32) (by decide +kernel) (by decide +kernel), kw_in (i := 731) (by decide +kernel) (by decide +kernel)⟩
theorem wy_X10_mix : ax_yok yX10_mix 2 := ⟨by decide, by decide, by decide +kernel⟩
theorem wf_X10_13 : ax_FL RX10 13 k_mo 1 := ⟨RX10, TX10, 20, rfl, by decide, kw_in (i := 634) (by decide +kernel) (by decide +kernel)⟩
theorem wf_X10_7 : ax_FL RX10 7 k_mo 0 := ⟨RX10, TX10, 20, rfl, by decide, kw_in (i := 633) (by decide +kernel) (by decide +kernel)⟩
theorem wf_X10_16 : ax_FL RX10 16 k_mo 2 := ⟨RX10, TX10, 20, rfl, by decide, kw_in (i := 635) (by decide +kernel) (by decide +kernel)⟩
theorem wf_X10_20 : ax_FL RX10 20 k_mo 3 := ⟨RX10, TX10, 20, rfl, by decide, kw_in (i := 636) (by decide +kernel) (by decide +kernel)⟩
theorem wf_X10_23 : ax_FL RX10 23 k_mo 4 := ⟨RX10, TX10, 20, rfl, by decide, kw_in (i := 637) (by decide +kernel) (by decide +kernel)⟩
theorem wf_X10_61 : ax_FL RX10 61 k_mo 7 := ⟨RX10, TX10, 20, rfl, by decide, kw_in (i := 640) (by decide +kernel) (by decide +kernel)⟩
theorem wc_X10_65 : ax_LV RX10 65 yX10_keyAt cX10_keyAt 6 (some .int) := ⟨kw_in (i := 722) (by decide +kernel) (by decide +kernel), kw_in (i := 724) (by decide +kernel) (by decide +kernel), kw_in (i := 7) (by decide +kernel) (by decide +kernel), kw_in (i := 32) (by decide +kernel) (by decide +kernel), kw_in (i := 725) (by decide +kernel) (by decide +kernel)⟩
theorem wy_X10_keyAt : ax_yok yX10_keyAt 2 := ⟨by decide, by decide, by decide +kernel⟩
theorem wf_X10_26 : ax_FL RX10 26 k_mo 6 := ⟨RX10, TX10, 20, rfl, by decide, kw_in (i := 639) (by decide +kernel) (by decide +kernel)⟩
theorem wc_X10_68 : ax_LS RX10 68 yX10_request cX10_request 1 (some .boolean) := ⟨kw_in (i := 737) (by decide +kernel) (by decide +kernel), kw_in (i := 738) (by decide +kernel) (by decide +kernel), kw_in (i := 32) (by decide +kernel) (by decide +kernel), kw_in (i := 739) (by decide +kernel) (by decide +kernel)⟩
theorem wy_X10_request : ax_yok yX10_request 1 := ⟨by decide, by decide, by decide +kernel⟩
theorem wc_X10_72 : ax_LS RX10 72 yX10_sealOf cX10_sealOf 7 (some .int) := ⟨kw_in (i := 726) (by decide +kernel) (by decide +kernel), kw_in (i := 727) (by decide +kernel) (by decide +kernel), kw_in (i := 32) (by decide +kernel) (by decide +kernel), kw_in (i := 728) (by decide +kernel) (by decide +kernel)⟩
theorem wy_X10_sealOf : ax_yok yX10_sealOf 6 := ⟨by decide, by decide, by decide +kernel⟩
theorem wp_X10_61 : ax_FP RX10 61 k_mo 7 := ⟨RX10, TX10, 20, rfl, by decide, kw_in (i := 640) (by decide +kernel) (by decide +kernel), rfl⟩
theorem wf_X10_29 : ax_FL RX10 29 k_mo 8 := ⟨RX10, TX10, 20, rfl, by decide, kw_in (i := 641) (by decide +kernel) (by decide +kernel)⟩
theorem wc_X10_76 : ax_LV RX10 76 yX10_inFlight cX10_inFlight 2 (some .boolean) := ⟨kw_in (i := 706) (by decide +kernel) (by decide +kernel), kw_in (i := 708) (by decide +kernel) (by decide +kernel), kw_in (i := 3) (by decide +kernel) (by decide +kernel), kw_in (i := 32) (by decide +kernel) (by decide +kernel), kw_in (i := 709) (by decide +kernel) (by decide +kernel)⟩
theorem wy_X10_inFlight : ax_yok yX10_inFlight 1 := ⟨by decide, by decide, by decide +kernel⟩
theorem wc_X10_79 : ax_LV RX10 79 yX10_takeOut cX10_takeOut 3 none := ⟨kw_in (i := 710) (by decide +kernel) (by decide +kernel), kw_in (i := 712) (by decide +kernel) (by decide +kernel), kw_in (i := 4) (by decide +kernel) (by decide +kernel), kw_in (i := 32) (by decide +kernel) (by decide +kernel), kw_in (i := 713) (by decide +kernel) (by decide +kernel)⟩
theorem wy_X10_takeOut : ax_yok yX10_takeOut 1 := ⟨by decide, by decide, by decide +kernel⟩
theorem wf_X10_32 : ax_FL RX10 32 k_mo 9 := ⟨RX10, TX10, 20, rfl, by decide, kw_in (i := 642) (by decide +kernel) (by decide +kernel)⟩
theorem wc_X10_102 : ax_LV RX10 102 yX10_put cX10_put 10 none := ⟨kw_in (i := 748) (by decide +kernel) (by decide +kernel), kw_in (i := 750) (by decide +kernel) (by decide +kernel), kw_in (i := 11) (by decide +kernel) (by decide +kernel), kw_in (i := 32) (by decide +kernel) (by decide +kernel), kw_in (i := 751) (by decide +kernel) (by decide +kernel)⟩
theorem wy_X10_put : ax_yok yX10_put 7 := ⟨by decide, by decide, by decide +kernel⟩
theorem wf_X10_106 : ax_FL RX10 106 k_mo 5 := ⟨RX10, TX10, 20, rfl, by decide, kw_in (i := 638) (by decide +kernel) (by decide +kernel)⟩
theorem wf_X10_35 : ax_FL RX10 35 k_mo 10 := ⟨RX10, TX10, 20, rfl, by decide, kw_in (i := 643) (by decide +kernel) (by decide +kernel)⟩
theorem wc_X10_99 : ax_LV RX10 99 yX10_sendLine cX10_sendLine 8 none := ⟨kw_in (i := 814) (by decide +kernel) (by decide +kernel), kw_in (i := 816) (by decide +kernel) (by decide +kernel), kw_in (i := 20) (by decide +kernel) (by decide +kernel), kw_in (i := 32) (by decide +kernel) (by decide +kernel), kw_in (i := 817) (by decide +kernel) (by decide +kernel)⟩
theorem wy_X10_sendLine : ax_yok yX10_sendLine 1 := ⟨by decide, by decide, by decide +kernel⟩
theorem wc_X10_96 : ax_LV RX10 96 yX10_pending cX10_pending 2 (some .boolean) := ⟨kw_in (i := 810) (by decide +kernel) (by decide +kernel), kw_in (i := 812) (by decide +kernel) (by decide +kernel), kw_in (i := 19) (by decide +kernel) (by decide +kernel), kw_in (i := 32) (by decide +kernel) (by decide +kernel), kw_in (i := 813) (by decide +kernel) (by decide +kernel)⟩
theorem wy_X10_pending : ax_yok yX10_pending 1 := ⟨by decide, by decide, by decide +kernel⟩
theorem wc_X10_109 : ax_LS RX10 109 yX10_noLine cX10_noLine 2 (some .boolean) := ⟨kw_in (i := 803) (by decide +kernel) (by decide +kernel), kw_in (i := 804) (by decide +kernel) (by decide +kernel), kw_in (i := 32) (by decide +kernel) (by decide +kernel), kw_in (i := 805) (by decide +kernel) (by decide +kernel)⟩
theorem wy_X10_noLine : ax_yok yX10_noLine 2 := ⟨by decide, by decide, by decide +kernel⟩
theorem wc_X10_113 : ax_LV RX10 113 yX10_start cX10_start 9 none := ⟨kw_in (i := 806) (by decide +kernel) (by decide +kernel), kw_in (i := 808) (by decide +kernel) (by decide +kernel), kw_in (i := 18) (by decide +kernel) (by decide +kernel), kw_in (i := 32) (by decide +kernel) (by decide +kernel), kw_in (i := 809) (by decide +kernel) (by decide +kernel)⟩
theorem wy_X10_start : ax_yok yX10_start 3 := ⟨by decide, by decide, by decide +kernel⟩
theorem wp_X10_106 : ax_FP RX10 106 k_mo 5 := ⟨RX10, TX10, 20, rfl, by decide, kw_in (i := 638) (by decide +kernel) (by decide +kernel), rfl⟩
theorem wc_X10_117 : ax_LV RX10 117 yX10_right cX10_right 3 (some .boolean) := ⟨kw_in (i := 718) (by decide +kernel) (by decide +kernel), kw_in (i := 720) (by decide +kernel) (by decide +kernel), kw_in (i := 6) (by decide +kernel) (by decide +kernel), kw_in (i := 32) (by decide +kernel) (by decide +kernel), kw_in (i := 721) (by decide +kernel) (by decide +kernel)⟩
theorem wy_X10_right : ax_yok yX10_right 1 := ⟨by decide, by decide, by decide +kernel⟩
theorem wf_X10_41 : ax_FL RX10 41 k_mo 14 := ⟨RX10, TX10, 20, rfl, by decide, kw_in (i := 647) (by decide +kernel) (by decide +kernel)⟩
theorem wf_X10_44 : ax_FL RX10 44 k_mo 15 := ⟨RX10, TX10, 20, rfl, by decide, kw_in (i := 648) (by decide +kernel) (by decide +kernel)⟩
theorem wf_X10_50 : ax_FL RX10 50 k_mo 17 := ⟨RX10, TX10, 20, rfl, by decide, kw_in (i := 650) (by decide +kernel) (by decide +kernel)⟩
theorem wf_X10_53 : ax_FL RX10 53 k_mo 18 := ⟨RX10, TX10, 20, rfl, by decide, kw_in (i := 651) (by decide +kernel) (by decide +kernel)⟩
theorem wf_X10_129 : ax_FL RX10 129 k_mo 19 := ⟨RX10, TX10, 20, rfl, by decide, kw_in (i := 652) (by decide +kernel) (by decide +kernel)⟩
theorem wp_X10_129 : ax_FP RX10 129 k_mo 19 := ⟨RX10, TX10, 20, rfl, by decide, kw_in (i := 652) (by decide +kernel) (by decide +kernel), rfl⟩
theorem wc_X10_148 : ax_LV RX10 148 yX10_result cX10_result 5 none := ⟨kw_in (i := 760) (by decide +kernel) (by decide +kernel), kw_in (i := 762) (by decide +kernel) (by decide +kernel), kw_in (i := 14) (by decide +kernel) (by decide +kernel), kw_in (i := 32) (by decide +kernel) (by decide +kernel), kw_in (i := 763) (by decide +kernel) (by decide +kernel)⟩
theorem wy_X10_result : ax_yok yX10_result 4 := ⟨by decide, by decide, by decide +kernel⟩
theorem wc_X10_132 : ax_LV RX10 132 yX10_known cX10_known 6 (some .int) := ⟨kw_in (i := 740) (by decide +kernel) (by decide +kernel), kw_in (i := 742) (by decide +kernel) (by decide +kernel), kw_in (i := 9) (by decide +kernel) (by decide +kernel), kw_in (i := 32) (by decide +kernel) (by decide +kernel), kw_in (i := 743) (by decide +kernel) (by decide +kernel)⟩
theorem wy_X10_known : ax_yok yX10_known 1 := ⟨by decide, by decide, by decide +kernel⟩
theorem wf_X10_47 : ax_FL RX10 47 k_mo 16 := ⟨RX10, TX10, 20, rfl, by decide, kw_in (i := 649) (by decide +kernel) (by decide +kernel)⟩
theorem wc_X10_135 : ax_LV RX10 135 yX10_answer cX10_answer 4 none := ⟨kw_in (i := 744) (by decide +kernel) (by decide +kernel), kw_in (i := 746) (by decide +kernel) (by decide +kernel), kw_in (i := 10) (by decide +kernel) (by decide +kernel), kw_in (i := 32) (by decide +kernel) (by decide +kernel), kw_in (i := 747) (by decide +kernel) (by decide +kernel)⟩
theorem wy_X10_answer : ax_yok yX10_answer 2 := ⟨by decide, by decide, by decide +kernel⟩
theorem wc_X10_145 : ax_LV RX10 145 yX10_close cX10_close 3 none := ⟨kw_in (i := 764) (by decide +kernel) (by decide +kernel), kw_in (i := 766) (by decide +kernel) (by decide +kernel), kw_in (i := 15) (by decide +kernel) (by decide +kernel), kw_in (i := 32) (by decide +kernel) (by decide +kernel), kw_in (i := 767) (by decide +kernel) (by decide +kernel)⟩
theorem wy_X10_close : ax_yok yX10_close 1 := ⟨by decide, by decide, by decide +kernel⟩
theorem wc_X10_142 : ax_LV RX10 142 yX10_ask cX10_ask 9 none := ⟨kw_in (i := 756) (by decide +kernel) (by decide +kernel), kw_in (i := 758) (by decide +kernel) (by decide +kernel), kw_in (i := 13) (by decide +kernel) (by decide +kernel), kw_in (i := 32) (by decide +kernel) (by decide +kernel), kw_in (i := 759) (by decide +kernel) (by decide +kernel)⟩
theorem wy_X10_ask : ax_yok yX10_ask 2 := ⟨by decide, by decide, by decide +kernel⟩
theorem wc_X10_139 : ax_LV RX10 139 yX10_replay cX10_replay 5 none := ⟨kw_in (i := 752) (by decide +kernel) (by decide +kernel), kw_in (i := 754) (by decide +kernel) (by decide +kernel), kw_in (i := 12) (by decide +kernel) (by decide +kernel), kw_in (i := 32) (by decide +kernel) (by decide +kernel), kw_in (i := 755) (by decide +kernel) (by decide +kernel)⟩
theorem wy_X10_replay : ax_yok yX10_replay 1 := ⟨by decide, by decide, by decide +kernel⟩
theorem wf_X10_123 : ax_FL RX10 123 k_mo 12 := ⟨RX10, TX10, 20, rfl, by decide, kw_in (i := 645) (by decide +kernel) (by decide +kernel)⟩
theorem wp_X10_120 : ax_FP RX10 120 k_mo 13 := ⟨RX10, TX10, 20, rfl, by decide, kw_in (i := 646) (by decide +kernel) (by decide +kernel), rfl⟩
theorem kc_b31 : (Int8.ofInt 31).toInt32 = 31 := by decide
theorem kc_i5 : Int32.ofInt 5 = 5 := by decide
theorem kc_b13 : (Int8.ofInt 13).toInt32 = 13 := by decide
theorem kc_i0 : Int32.ofInt 0 = 0 := by decide
theorem kc_b12 : (Int8.ofInt 12).toInt32 = 12 := by decide
theorem kc_i1 : Int32.ofInt 1 = 1 := by decide
theorem kc_i3 : Int32.ofInt 3 = 3 := by decide
theorem kc_i2 : Int32.ofInt 2 = 2 := by decide
theorem kc_i4 : Int32.ofInt 4 = 4 := by decide
theorem kc_i0N : Int32.ofInt 0 = (nI 0) := by decide
theorem kc_i1N : Int32.ofInt 1 = (nI 1) := by decide
theorem kc_i3N : Int32.ofInt 3 = (nI 3) := by decide
theorem kc_i4N : Int32.ofInt 4 = (nI 4) := by decide
theorem kc_b7 : (Int8.ofInt 7).toInt32 = 7 := by decide
theorem kc_b6 : (Int8.ofInt 6).toInt32 = 6 := by decide
theorem kc_b7N : (Int8.ofInt 7).toInt32 = (nI 7) := by decide
theorem kc_b6N : (Int8.ofInt 6).toInt32 = (nI 6) := by decide
theorem kc_i5N : Int32.ofInt 5 = (nI 5) := by decide
theorem kc_b24 : (Int8.ofInt 24).toInt32 = 24 := by decide
theorem kc_i2N : Int32.ofInt 2 = (nI 2) := by decide
theorem kc_im1 : Int32.ofInt (-1) = (-1) := by decide
theorem kc_b8 : (Int8.ofInt 8).toInt32 = 8 := by decide
theorem kc_b8N : (Int8.ofInt 8).toInt32 = (nI 8) := by decide
theorem kc_b20 : (Int8.ofInt 20).toInt32 = 20 := by decide
theorem kc_b40 : (Int8.ofInt 40).toInt32 = 40 := by decide
theorem kc_b10 : (Int8.ofInt 10).toInt32 = 10 := by decide
theorem kc_b11 : (Int8.ofInt 11).toInt32 = 11 := by decide
theorem kc_b10N : (Int8.ofInt 10).toInt32 = (nI 10) := by decide
theorem kc_b9 : (Int8.ofInt 9).toInt32 = 9 := by decide
theorem kc_b9N : (Int8.ofInt 9).toInt32 = (nI 9) := by decide
theorem kc_b40N : (Int8.ofInt 40).toInt32 = (nI 40) := by decide
theorem kc_s400 : (Int16.ofInt 400).toInt32 = 400 := by decide
theorem kc_s400N : (Int16.ofInt 400).toInt32 = (nI 400) := by decide
