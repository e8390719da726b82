
/-- entry i is the one of the request in q -/
def xc_ec (C : ax_I) (q : Nat) (i : Nat) : Bool := decide (¬ C (71 + i) 0 = 0 ∧ C (71 + i) 1 = C q 6 ∧ C (71 + i) 2 = C q 0 ∧ C (71 + i) 3 = C q 1 ∧ C (71 + i) 4 = C q 2)
def xc_place (C : ax_I) (q : Nat) : Option Nat := kw_first (xc_ec C q) 0 8
def xc_me (C : ax_I) (q j : Nat) : ax_I :=
  ax_u (ax_u (ax_u (ax_u (ax_u (ax_u (ax_u (ax_u (ax_u C 69 1 (nI j)) (71 + j) 0 1) (71 + j) 1 (C q 6)) (71 + j) 2 (C q 0)) (71 + j) 3 (C q 1)) (71 + j) 4 (C q 2)) (71 + j) 5 (3 + (C q 3 &&& 1))) (71 + j) 6 (xa_mix (C q 2) (C 69 2))) 69 2 (C 69 2 + 1)
def xc_hb (C : ax_I) (q E : Nat) : Int32 := if C E 2 = 0 then C q 4 ^^^ (xa_mix (xc_key C 2 (C E 1)) (C E 4) ^^^ xa_mix (xc_key C 2 (C E 5)) (C E 6)) else C q 4
def xc_ho (C : ax_I) (P : ax_P) (q j : Nat) : ax_I := xc_snd C P 2 (C (71 + j) 5) (C (71 + j) 2) (nI j) (C (71 + j) 6) (C q 3) (xc_hb C q (71 + j))
abbrev xc_rq (x : Int32) : Prop := x = 0 ∨ x = 3
abbrev xc_an (x : Int32) : Prop := x = 1 ∨ x = 2 ∨ x = 4
abbrev xc_hac (C : ax_I) (d j : Nat) : Prop := ¬ C (71 + j) 0 = 0 ∧ C (71 + j) 5 = C (d + 1) 6 ∧ xc_right C d (C (71 + j) 6)
def xc_ha (C : ax_I) (P : ax_P) (d j : Nat) : ax_I := if xc_hac C d j then xc_snd C P 2 (C (71 + j) 1) (C (d + 1) 0) (C (71 + j) 3) (C (71 + j) 4) (C (d + 1) 3) (C (d + 1) 4) else C
def xc_fe (C : ax_I) (i f : Nat) : ax_I := match f with
  | 0 => C
  | g + 1 => xc_fe (ax_u C (71 + i) 0 0) (i + 1) g
theorem kw_nm1 (j : Nat) (h : j < 2 ^ 31) : ¬ nI j = -1 := by
  intro e
  have h1 := congrArg Int32.toInt e
  rw [nI_toInt h] at h1
  have h2 : (-1 : Int32).toInt = -1 := rfl
  omega

section RE
variable {l : Launch} {D : va_G} {aC : Nat → ClassId} {b : Nat} {C M : ax_I} {P : ax_P}
set_option maxRecDepth 20000 in
set_option maxHeartbeats 4000000 in
theorem ct_place (hps : kw_ps P) {d : Nat} (hdg : kw_dg d) : kw_C l D aC b yX8_placeOfEntryFor cX8_placeOfEntryFor 4 (some .int) 1 [.inr (.inl 69), .inr (.inl (d + 1))] C M P (some (.inl (xc_io (xc_place C (d + 1))))) C M P := by
  refine ax_body (own := RX8) (ini := false) (by decide) rfl (fun h => by cases h) (Nat.le_of_ble_eq_true rfl) ?_
  have hq1 := hdg.2.2
  have hq0 := hdg.2.1
  have loop : ∀ i, i ≤ 8 → kw_first (xc_ec C (d + 1)) i (8 - i) = kw_first (xc_ec C (d + 1)) 0 8 → ax_G l D aC b RX8 cX8_placeOfEntryFor 4 (some .int) false (kw_rm 1) 191 (ax_F D aC b 191 0 0 (kw_R (some (.inl (xc_io (xc_place C (d + 1))))) kw_K kw_L (kw_gl C M) P)) (fun _ => True) 2 [(2, .inl (nI i)), (0, .inr (.inl 69)), (1, .inr (.inl (d + 1)))] [] 0 0 kw_K kw_L (kw_gl C M) P := by
    refine kw_loopB 8 (fun i hiN ih hf => ?_)
    refine qa_iload_n (pc1 := 3) dX8_placeOfEntryFor_2 rfl rfl rfl ?_
    refine qa_bipush (pc1 := 5) dX8_placeOfEntryFor_3 (v := (nI 8)) kc_b8N rfl ?_
    refine qn_ic_ge (tgt := 71) (pc1 := 8) dX8_placeOfEntryFor_5 rfl rfl (by omega) (by omega) (fun h5 => ?_) (fun h5 => ?_)
    · refine qa_iconst (pc1 := 72) dX8_placeOfEntryFor_71 (v := (-1)) kc_im1 rfl ?_
      exact qa_iret dX8_placeOfEntryFor_72 rfl (vp_nar_int _) (by rw [xc_place, ← hf, kw_first_e (by omega)]; rfl) rfl rfl rfl
    · have hi : i < 8 := by omega
      refine qa_aload_n (pc1 := 9) dX8_placeOfEntryFor_8 rfl rfl rfl ?_
      refine qa_getP (pc1 := 12) dX8_placeOfEntryFor_9 rfl wf_X8_13 rfl ko_rel (by omega) (kp_ens hps) ?_
      refine qa_iload_n (pc1 := 13) dX8_placeOfEntryFor_12 rfl rfl rfl ?_
      refine qa_aald (pc1 := 14) dX8_placeOfEntryFor_13 rfl ka_ens rfl (by omega) (by omega) (kp_en hps (by assumption)) ?_
      refine qa_astore_n (pc1 := 15) dX8_placeOfEntryFor_14 rfl (by decide) rfl ?_
      refine qa_aload_n (pc1 := 16) dX8_placeOfEntryFor_15 rfl rfl rfl ?_
      refine qc_getI (pc1 := 19) dX8_placeOfEntryFor_16 rfl wf_X8_56 rfl (ko_en _ (by assumption)) (by omega) (by omega) ?_
      refine qa_if_eq (tgt := 65) (pc1 := 22) dX8_placeOfEntryFor_19 rfl rfl (fun h19 => ?_) (fun h19 => ?_)
      · refine qa_iincN (pc1 := 68) dX8_placeOfEntryFor_65 rfl (by decide) rfl ?_
        refine qa_goto (tgt := 2) dX8_placeOfEntryFor_68 rfl ?_
        exact qa_ls (by exact (kw_lsc rfl (kw_lsc rfl (kw_lsc rfl kw_lsn)))) (ih (by omega) ((kw_first_f (by omega) (by simp only [xc_ec, decide_eq_true_eq]; grind)).symm.trans hf))
      · refine qa_aload_n (pc1 := 23) dX8_placeOfEntryFor_22 rfl rfl rfl ?_
        refine qc_getI (pc1 := 26) dX8_placeOfEntryFor_23 rfl wf_X8_60 rfl (ko_en _ (by assumption)) (by omega) (by omega) ?_
        refine qa_aload_n (pc1 := 27) dX8_placeOfEntryFor_26 rfl rfl rfl ?_
        refine qa_bipush (pc1 := 29) dX8_placeOfEntryFor_27 (v := (nI 6)) kc_b6N rfl ?_
        refine qc_iald (pc1 := 30) dX8_placeOfEntryFor_29 rfl (ka_pa _ (by assumption)) rfl (by omega) (by omega) (by decide) ?_
        refine qa_ic_ne (tgt := 65) (pc1 := 33) dX8_placeOfEntryFor_30 rfl rfl (fun h30 => ?_) (fun h30 => ?_)
        · refine qa_iincN (pc1 := 68) dX8_placeOfEntryFor_65 rfl (by decide) rfl ?_
          refine qa_goto (tgt := 2) dX8_placeOfEntryFor_68 rfl ?_
          exact qa_ls (by exact (kw_lsc rfl (kw_lsc rfl (kw_lsc rfl kw_lsn)))) (ih (by omega) ((kw_first_f (by omega) (by simp only [xc_ec, decide_eq_true_eq]; grind)).symm.trans hf))
        · refine qa_aload_n (pc1 := 34) dX8_placeOfEntryFor_33 rfl rfl rfl ?_
          refine qc_getI (pc1 := 37) dX8_placeOfEntryFor_34 rfl wf_X8_63 rfl (ko_en _ (by assumption)) (by omega) (by omega) ?_
          refine qa_aload_n (pc1 := 38) dX8_placeOfEntryFor_37 rfl rfl rfl ?_
          refine qa_iconst (pc1 := 39) dX8_placeOfEntryFor_38 (v := (nI 0)) kc_i0N rfl ?_
          refine qc_iald (pc1 := 40) dX8_placeOfEntryFor_39 rfl (ka_pa _ (by assumption)) rfl (by omega) (by omega) (by decide) ?_
          refine qa_ic_ne (tgt := 65) (pc1 := 43) dX8_placeOfEntryFor_40 rfl rfl (fun h40 => ?_) (fun h40 => ?_)
          · refine qa_iincN (pc1 := 68) dX8_placeOfEntryFor_65 rfl (by decide) rfl ?_
            refine qa_goto (tgt := 2) dX8_placeOfEntryFor_68 rfl ?_
            exact qa_ls (by exact (kw_lsc rfl (kw_lsc rfl (kw_lsc rfl kw_lsn)))) (ih (by omega) ((kw_first_f (by omega) (by simp only [xc_ec, decide_eq_true_eq]; grind)).symm.trans hf))
          · refine qa_aload_n (pc1 := 44) dX8_placeOfEntryFor_43 rfl rfl rfl ?_
            refine qc_getI (pc1 := 47) dX8_placeOfEntryFor_44 rfl wf_X8_66 rfl (ko_en _ (by assumption)) (by omega) (by omega) ?_
            refine qa_aload_n (pc1 := 48) dX8_placeOfEntryFor_47 rfl rfl rfl ?_
            refine qa_iconst (pc1 := 49) dX8_placeOfEntryFor_48 (v := (nI 1)) kc_i1N rfl ?_
            refine qc_iald (pc1 := 50) dX8_placeOfEntryFor_49 rfl (ka_pa _ (by assumption)) rfl (by omega) (by omega) (by decide) ?_
            refine qa_ic_ne (tgt := 65) (pc1 := 53) dX8_placeOfEntryFor_50 rfl rfl (fun h50 => ?_) (fun h50 => ?_)
            · refine qa_iincN (pc1 := 68) dX8_placeOfEntryFor_65 rfl (by decide) rfl ?_
              refine qa_goto (tgt := 2) dX8_placeOfEntryFor_68 rfl ?_
              exact qa_ls (by exact (kw_lsc rfl (kw_lsc rfl (kw_lsc rfl kw_lsn)))) (ih (by omega) ((kw_first_f (by omega) (by simp only [xc_ec, decide_eq_true_eq]; grind)).symm.trans hf))
            · refine qa_aload_n (pc1 := 54) dX8_placeOfEntryFor_53 rfl rfl rfl ?_
              refine qc_getI (pc1 := 57) dX8_placeOfEntryFor_54 rfl wf_X8_69 rfl (ko_en _ (by assumption)) (by omega) (by omega) ?_
              refine qa_aload_n (pc1 := 58) dX8_placeOfEntryFor_57 rfl rfl rfl ?_
              refine qa_iconst (pc1 := 59) dX8_placeOfEntryFor_58 (v := (nI 2)) kc_i2N rfl ?_
              refine qc_iald (pc1 := 60) dX8_placeOfEntryFor_59 rfl (ka_pa _ (by assumption)) rfl (by omega) (by omega) (by decide) ?_
              refine qa_ic_ne (tgt := 65) (pc1 := 63) dX8_placeOfEntryFor_60 rfl rfl (fun h60 => ?_) (fun h60 => ?_)
              · refine qa_iincN (pc1 := 68) dX8_placeOfEntryFor_65 rfl (by decide) rfl ?_
                refine qa_goto (tgt := 2) dX8_placeOfEntryFor_68 rfl ?_
                exact qa_ls (by exact (kw_lsc rfl (kw_lsc rfl (kw_lsc rfl kw_lsn)))) (ih (by omega) ((kw_first_f (by omega) (by simp only [xc_ec, decide_eq_true_eq]; grind)).symm.trans hf))
              · refine qa_iload_n (pc1 := 64) dX8_placeOfEntryFor_63 rfl rfl rfl ?_
                exact qa_iret dX8_placeOfEntryFor_64 rfl (vp_nar_int _) (by rw [xc_place, ← hf, kw_first_t (by omega) (by simp only [xc_ec, decide_eq_true_eq]; grind)]; rfl) rfl rfl rfl
  refine qa_iconst (pc1 := 1) dX8_placeOfEntryFor_0 (v := (nI 0)) kc_i0N rfl ?_
  refine qa_istore_n (pc1 := 2) dX8_placeOfEntryFor_1 rfl (by decide) rfl ?_
  exact qa_ls (by exact (kw_lsc rfl (kw_lsc rfl (kw_lsc rfl kw_lsn)))) (loop 0 (Nat.zero_le _) rfl)
set_option maxRecDepth 20000 in
set_option maxHeartbeats 4000000 in
theorem ct_makeEntry (hps : kw_ps P) {d j : Nat} (hdg : kw_dg d) (hj : j < 8) (hl : xc_nx (C 69 1) = nI j) : kw_C l D aC b yX8_makeEntry cX8_makeEntry 3 (some .int) 2 [.inr (.inl 69), .inr (.inl (d + 1))] C M P (some (.inl (nI j))) (xc_me C (d + 1) j) M P := by
  refine ax_body (own := RX8) (ini := false) (by decide) rfl (fun h => by cases h) (Nat.le_of_ble_eq_true rfl) ?_
  have hq1 := hdg.2.2
  have hq0 := hdg.2.1
  have e1 : ¬ d + 1 = 71 + j := by omega
  have e2 : ¬ d + 1 = 69 := by omega
  have e3 : ¬ 69 = 71 + j := by omega
  refine qa_aload_n (pc1 := 1) dX8_makeEntry_0 rfl rfl rfl ?_
  refine qa_aload_n (pc1 := 2) dX8_makeEntry_1 rfl rfl rfl ?_
  refine qc_getI (pc1 := 5) dX8_makeEntry_2 rfl wf_X8_17 rfl ko_rel (by omega) (by omega) ?_
  refine qa_iconst (pc1 := 6) dX8_makeEntry_5 (v := 1) kc_i1 rfl ?_
  refine qa_iadd (pc1 := 7) dX8_makeEntry_6 rfl ?_
  refine qa_bipush (pc1 := 9) dX8_makeEntry_7 (v := 8) kc_b8 rfl ?_
  refine qa_irem (pc1 := 10) dX8_makeEntry_9 (by decide) rfl ?_
  refine qa_top hl ?_
  refine qc_putI (pc1 := 13) dX8_makeEntry_10 rfl wp_X8_17 rfl rfl rfl ko_rel (by omega) (by omega) ?_
  refine qa_aload_n (pc1 := 14) dX8_makeEntry_13 rfl rfl rfl ?_
  refine qa_getP (pc1 := 17) dX8_makeEntry_14 rfl wf_X8_13 rfl ko_rel (by omega) (kp_ens hps) ?_
  refine qa_aload_n (pc1 := 18) dX8_makeEntry_17 rfl rfl rfl ?_
  refine qc_getI (pc1 := 21) dX8_makeEntry_18 rfl wf_X8_17 rfl ko_rel (by omega) (by omega) ?_
  refine qa_top ax_u_at ?_
  refine qa_aald (pc1 := 22) dX8_makeEntry_21 rfl ka_ens rfl (by omega) (by omega) (kp_en hps (by assumption)) ?_
  refine qa_astore_n (pc1 := 23) dX8_makeEntry_22 rfl (by decide) rfl ?_
  refine qa_aload_n (pc1 := 24) dX8_makeEntry_23 rfl rfl rfl ?_
  refine qa_iconst (pc1 := 25) dX8_makeEntry_24 (v := 1) kc_i1 rfl ?_
  refine qc_putI (pc1 := 28) dX8_makeEntry_25 rfl wp_X8_56 rfl (by decide) rfl (ko_en _ (by assumption)) (by omega) (by omega) ?_
  refine qa_aload_n (pc1 := 29) dX8_makeEntry_28 rfl rfl rfl ?_
  refine qa_aload_n (pc1 := 30) dX8_makeEntry_29 rfl rfl rfl ?_
  refine qa_bipush (pc1 := 32) dX8_makeEntry_30 (v := (nI 6)) kc_b6N rfl ?_
  refine qc_iald (pc1 := 33) dX8_makeEntry_32 rfl (ka_pa _ (by assumption)) rfl (by omega) (by omega) (by decide) ?_
  refine qa_top (show _ = C (d + 1) 6 from by simp [ax_u, e1, e2, e3]) ?_
  refine qc_putI (pc1 := 36) dX8_makeEntry_33 rfl wp_X8_60 rfl rfl rfl (ko_en _ (by assumption)) (by omega) (by omega) ?_
  refine qa_aload_n (pc1 := 37) dX8_makeEntry_36 rfl rfl rfl ?_
  refine qa_aload_n (pc1 := 38) dX8_makeEntry_37 rfl rfl rfl ?_
  refine qa_iconst (pc1 := 39) dX8_makeEntry_38 (v := (nI 0)) kc_i0N rfl ?_
  refine qc_iald (pc1 := 40) dX8_makeEntry_39 rfl (ka_pa _ (by assumption)) rfl (by omega) (by omega) (by decide) ?_
  refine qa_top (show _ = C (d + 1) 0 from by simp [ax_u, e1, e2, e3]) ?_
  refine qc_putI (pc1 := 43) dX8_makeEntry_40 rfl wp_X8_63 rfl rfl rfl (ko_en _ (by assumption)) (by omega) (by omega) ?_
  refine qa_aload_n (pc1 := 44) dX8_makeEntry_43 rfl rfl rfl ?_
  refine qa_aload_n (pc1 := 45) dX8_makeEntry_44 rfl rfl rfl ?_
  refine qa_iconst (pc1 := 46) dX8_makeEntry_45 (v := (nI 1)) kc_i1N rfl ?_
  refine qc_iald (pc1 := 47) dX8_makeEntry_46 rfl (ka_pa _ (by assumption)) rfl (by omega) (by omega) (by decide) ?_
  refine qa_top (show _ = C (d + 1) 1 from by simp [ax_u, e1, e2, e3]) ?_
  refine qc_putI (pc1 := 50) dX8_makeEntry_47 rfl wp_X8_66 rfl rfl rfl (ko_en _ (by assumption)) (by omega) (by omega) ?_
  refine qa_aload_n (pc1 := 51) dX8_makeEntry_50 rfl rfl rfl ?_
  refine qa_aload_n (pc1 := 52) dX8_makeEntry_51 rfl rfl rfl ?_
  refine qa_iconst (pc1 := 53) dX8_makeEntry_52 (v := (nI 2)) kc_i2N rfl ?_
  refine qc_iald (pc1 := 54) dX8_makeEntry_53 rfl (ka_pa _ (by assumption)) rfl (by omega) (by omega) (by decide) ?_
  refine qa_top (show _ = C (d + 1) 2 from by simp [ax_u, e1, e2, e3]) ?_
  refine qc_putI (pc1 := 57) dX8_makeEntry_54 rfl wp_X8_69 rfl rfl rfl (ko_en _ (by assumption)) (by omega) (by omega) ?_
  refine qa_aload_n (pc1 := 58) dX8_makeEntry_57 rfl rfl rfl ?_
  refine qa_aload_n (pc1 := 59) dX8_makeEntry_58 rfl rfl rfl ?_
  refine qa_iconst (pc1 := 60) dX8_makeEntry_59 (v := (nI 3)) kc_i3N rfl ?_
  refine qc_iald (pc1 := 61) dX8_makeEntry_60 rfl (ka_pa _ (by assumption)) rfl (by omega) (by omega) (by decide) ?_
  refine qa_top (show _ = C (d + 1) 3 from by simp [ax_u, e1, e2, e3]) ?_
  refine qa_callTi (pc1 := 64) dX8_makeEntry_61 rfl (ct_homeOf _) wc_X8_72 wy_X0_homeOf rfl rfl rfl ?_
  refine qc_putI (pc1 := 67) dX8_makeEntry_64 rfl wp_X8_76 rfl rfl rfl (ko_en _ (by assumption)) (by omega) (by omega) ?_
  refine qa_aload_n (pc1 := 68) dX8_makeEntry_67 rfl rfl rfl ?_
  refine qa_aload_n (pc1 := 69) dX8_makeEntry_68 rfl rfl rfl ?_
  refine qc_getI (pc1 := 72) dX8_makeEntry_69 rfl wf_X8_69 rfl (ko_en _ (by assumption)) (by omega) (by omega) ?_
  refine qa_top (show _ = C (d + 1) 2 from by simp [ax_u, e1, e2, e3]) ?_
  refine qa_aload_n (pc1 := 73) dX8_makeEntry_72 rfl rfl rfl ?_
  refine qc_getI (pc1 := 76) dX8_makeEntry_73 rfl wf_X8_79 rfl ko_rel (by omega) (by omega) ?_
  refine qa_top (show _ = C 69 2 from by simp [ax_u, e1, e2, e3]) ?_
  refine qa_callTi (pc1 := 79) dX8_makeEntry_76 rfl (ct_mix _ _) wc_X8_82 wy_X0_mix rfl rfl rfl ?_
  refine qc_putI (pc1 := 82) dX8_makeEntry_79 rfl wp_X8_86 rfl rfl rfl (ko_en _ (by assumption)) (by omega) (by omega) ?_
  refine qa_aload_n (pc1 := 83) dX8_makeEntry_82 rfl rfl rfl ?_
  refine qa_dup (pc1 := 84) dX8_makeEntry_83 rfl ?_
  refine qc_getI (pc1 := 87) dX8_makeEntry_84 rfl wf_X8_79 rfl ko_rel (by omega) (by omega) ?_
  refine qa_top (show _ = C 69 2 from by simp [ax_u, e1, e2, e3]) ?_
  refine qa_iconst (pc1 := 88) dX8_makeEntry_87 (v := 1) kc_i1 rfl ?_
  refine qa_iadd (pc1 := 89) dX8_makeEntry_88 rfl ?_
  refine qc_putI (pc1 := 92) dX8_makeEntry_89 rfl wp_X8_79 rfl rfl rfl ko_rel (by omega) (by omega) ?_
  refine qa_aload_n (pc1 := 93) dX8_makeEntry_92 rfl rfl rfl ?_
  refine qc_getI (pc1 := 96) dX8_makeEntry_93 rfl wf_X8_17 rfl ko_rel (by omega) (by omega) ?_
  refine qa_top (show _ = nI j from by simp [ax_u, e1, e2, e3]) ?_
  exact qa_iret dX8_makeEntry_96 rfl (vp_nar_int _) rfl rfl rfl rfl
set_option maxRecDepth 20000 in
set_option maxHeartbeats 4000000 in
theorem ct_handOn (hps : kw_ps P) (hk : xc_nok C) {d j : Nat} (hdg : kw_dg d) (hj : j < 8) : kw_C l D aC b yX8_handOnRequest cX8_handOnRequest 6 none 5 [.inr (.inl 69), .inr (.inl (d + 1)), .inl (nI j), .inr (.inl 2)] C M P none (xc_ho C P (d + 1) j) M P := by
  refine ax_body (own := RX8) (ini := false) (by decide) rfl (fun h => by cases h) (Nat.le_of_ble_eq_true rfl) ?_
  have hq1 := hdg.2.2
  have hq0 := hdg.2.1
  refine qa_aload_n (pc1 := 1) dX8_handOnRequest_0 rfl rfl rfl ?_
  refine qa_getP (pc1 := 4) dX8_handOnRequest_1 rfl wf_X8_13 rfl ko_rel (by omega) (kp_ens hps) ?_
  refine qa_iload_n (pc1 := 5) dX8_handOnRequest_4 rfl rfl rfl ?_
  refine qa_aald (pc1 := 6) dX8_handOnRequest_5 rfl ka_ens rfl (by omega) (by omega) (kp_en hps (by assumption)) ?_
  refine qa_astore (pc1 := 8) dX8_handOnRequest_6 (by decide) rfl ?_
  refine qa_aload_n (pc1 := 9) dX8_handOnRequest_8 rfl rfl rfl ?_
  refine qa_iconst (pc1 := 10) dX8_handOnRequest_9 (v := (nI 4)) kc_i4N rfl ?_
  refine qc_iald (pc1 := 11) dX8_handOnRequest_10 rfl (ka_pa _ (by assumption)) rfl (by omega) (by omega) (by decide) ?_
  refine qa_istore (pc1 := 13) dX8_handOnRequest_11 (by decide) rfl ?_
  refine qa_aload (pc1 := 15) dX8_handOnRequest_13 rfl rfl ?_
  refine qc_getI (pc1 := 18) dX8_handOnRequest_15 rfl wf_X8_63 rfl (ko_en _ (by assumption)) (by omega) (by omega) ?_
  refine qa_if_ne (tgt := 63) (pc1 := 21) dX8_handOnRequest_18 rfl rfl (fun h18 => ?_) (fun h18 => ?_)
  · refine qa_aload_n (pc1 := 64) dX8_handOnRequest_63 rfl rfl rfl ?_
    refine qa_iconst (pc1 := 65) dX8_handOnRequest_64 (v := 2) kc_i2 rfl ?_
    refine qa_aload (pc1 := 67) dX8_handOnRequest_65 rfl rfl ?_
    refine qc_getI (pc1 := 70) dX8_handOnRequest_67 rfl wf_X8_76 rfl (ko_en _ (by assumption)) (by omega) (by omega) ?_
    refine qa_aload (pc1 := 72) dX8_handOnRequest_70 rfl rfl ?_
    refine qc_getI (pc1 := 75) dX8_handOnRequest_72 rfl wf_X8_63 rfl (ko_en _ (by assumption)) (by omega) (by omega) ?_
    refine qa_iload_n (pc1 := 76) dX8_handOnRequest_75 rfl rfl rfl ?_
    refine qa_aload (pc1 := 78) dX8_handOnRequest_76 rfl rfl ?_
    refine qc_getI (pc1 := 81) dX8_handOnRequest_78 rfl wf_X8_86 rfl (ko_en _ (by assumption)) (by omega) (by omega) ?_
    refine qa_aload_n (pc1 := 82) dX8_handOnRequest_81 rfl rfl rfl ?_
    refine qa_iconst (pc1 := 83) dX8_handOnRequest_82 (v := (nI 3)) kc_i3N rfl ?_
    refine qc_iald (pc1 := 84) dX8_handOnRequest_83 rfl (ka_pa _ (by assumption)) rfl (by omega) (by omega) (by decide) ?_
    refine qa_iload (pc1 := 86) dX8_handOnRequest_84 rfl rfl ?_
    refine qa_callVv (pc1 := 89) dX8_handOnRequest_86 rfl (ct_snd hps (by assumption) _ _ _ _ _ _ _) wc_X8_92 wy_X6_send rfl rfl (ci := k_net) rfl ko_net (by omega) rfl ?_
    exact qa_vret dX8_handOnRequest_89 rfl rfl (by simp only [xc_ho, xc_hb]; grind) rfl rfl
  · refine qa_iload (pc1 := 23) dX8_handOnRequest_21 rfl rfl ?_
    refine qa_aload_n (pc1 := 24) dX8_handOnRequest_23 rfl rfl rfl ?_
    refine qa_iconst (pc1 := 25) dX8_handOnRequest_24 (v := 2) kc_i2 rfl ?_
    refine qa_aload (pc1 := 27) dX8_handOnRequest_25 rfl rfl ?_
    refine qc_getI (pc1 := 30) dX8_handOnRequest_27 rfl wf_X8_60 rfl (ko_en _ (by assumption)) (by omega) (by omega) ?_
    refine qa_callVi (pc1 := 33) dX8_handOnRequest_30 rfl (ct_keyAt hps _ _) wc_X8_89 wy_X6_keyAt rfl rfl (ci := k_net) rfl ko_net (by omega) rfl ?_
    refine qa_aload (pc1 := 35) dX8_handOnRequest_33 rfl rfl ?_
    refine qc_getI (pc1 := 38) dX8_handOnRequest_35 rfl wf_X8_69 rfl (ko_en _ (by assumption)) (by omega) (by omega) ?_
    refine qa_callTi (pc1 := 41) dX8_handOnRequest_38 rfl (ct_mix _ _) wc_X8_82 wy_X0_mix rfl rfl rfl ?_
    refine qa_aload_n (pc1 := 42) dX8_handOnRequest_41 rfl rfl rfl ?_
    refine qa_iconst (pc1 := 43) dX8_handOnRequest_42 (v := 2) kc_i2 rfl ?_
    refine qa_aload (pc1 := 45) dX8_handOnRequest_43 rfl rfl ?_
    refine qc_getI (pc1 := 48) dX8_handOnRequest_45 rfl wf_X8_76 rfl (ko_en _ (by assumption)) (by omega) (by omega) ?_
    refine qa_callVi (pc1 := 51) dX8_handOnRequest_48 rfl (ct_keyAt hps _ _) wc_X8_89 wy_X6_keyAt rfl rfl (ci := k_net) rfl ko_net (by omega) rfl ?_
    refine qa_aload (pc1 := 53) dX8_handOnRequest_51 rfl rfl ?_
    refine qc_getI (pc1 := 56) dX8_handOnRequest_53 rfl wf_X8_86 rfl (ko_en _ (by assumption)) (by omega) (by omega) ?_
    refine qa_callTi (pc1 := 59) dX8_handOnRequest_56 rfl (ct_mix _ _) wc_X8_82 wy_X0_mix rfl rfl rfl ?_
    refine qa_ixor (pc1 := 60) dX8_handOnRequest_59 rfl ?_
    refine qa_ixor (pc1 := 61) dX8_handOnRequest_60 rfl ?_
    refine qa_istore (pc1 := 63) dX8_handOnRequest_61 (by decide) rfl ?_
    refine qa_aload_n (pc1 := 64) dX8_handOnRequest_63 rfl rfl rfl ?_
    refine qa_iconst (pc1 := 65) dX8_handOnRequest_64 (v := 2) kc_i2 rfl ?_
    refine qa_aload (pc1 := 67) dX8_handOnRequest_65 rfl rfl ?_
    refine qc_getI (pc1 := 70) dX8_handOnRequest_67 rfl wf_X8_76 rfl (ko_en _ (by assumption)) (by omega) (by omega) ?_
    refine qa_aload (pc1 := 72) dX8_handOnRequest_70 rfl rfl ?_
    refine qc_getI (pc1 := 75) dX8_handOnRequest_72 rfl wf_X8_63 rfl (ko_en _ (by assumption)) (by omega) (by omega) ?_
    refine qa_iload_n (pc1 := 76) dX8_handOnRequest_75 rfl rfl rfl ?_
    refine qa_aload (pc1 := 78) dX8_handOnRequest_76 rfl rfl ?_
    refine qc_getI (pc1 := 81) dX8_handOnRequest_78 rfl wf_X8_86 rfl (ko_en _ (by assumption)) (by omega) (by omega) ?_
    refine qa_aload_n (pc1 := 82) dX8_handOnRequest_81 rfl rfl rfl ?_
    refine qa_iconst (pc1 := 83) dX8_handOnRequest_82 (v := (nI 3)) kc_i3N rfl ?_
    refine qc_iald (pc1 := 84) dX8_handOnRequest_83 rfl (ka_pa _ (by assumption)) rfl (by omega) (by omega) (by decide) ?_
    refine qa_iload (pc1 := 86) dX8_handOnRequest_84 rfl rfl ?_
    refine qa_callVv (pc1 := 89) dX8_handOnRequest_86 rfl (ct_snd hps (by assumption) _ _ _ _ _ _ _) wc_X8_92 wy_X6_send rfl rfl (ci := k_net) rfl ko_net (by omega) rfl ?_
    exact qa_vret dX8_handOnRequest_89 rfl rfl (by simp only [xc_ho, xc_hb]; grind) rfl rfl
set_option maxRecDepth 20000 in
set_option maxHeartbeats 4000000 in
theorem ct_hrq0 (hps : kw_ps P) {d : Nat} (hdg : kw_dg d) (h : ¬ (xc_rq (C (d + 1) 0) ∧ xc_right C d (C (d + 1) 2))) : kw_C l D aC b yX8_hearRequest cX8_hearRequest 6 (some .int) 6 [.inr (.inl 69), .inr (.inl d), .inr (.inl 2)] C M P (some (.inl 0)) C M P := by
  refine ax_body (own := RX8) (ini := false) (by decide) rfl (fun h => by cases h) (Nat.le_of_ble_eq_true rfl) ?_
  have hq1 := hdg.2.2
  have hq0 := hdg.2.1
  refine qa_aload_n (pc1 := 1) dX8_hearRequest_0 rfl rfl rfl ?_
  refine qa_getP (pc1 := 4) dX8_hearRequest_1 rfl wf_X8_22 rfl (ko_dg _ (by assumption)) (by omega) (kp_pa hps (by assumption)) ?_
  refine qa_astore_n (pc1 := 5) dX8_hearRequest_4 rfl (by decide) rfl ?_
  refine qa_aload_n (pc1 := 6) dX8_hearRequest_5 rfl rfl rfl ?_
  refine qa_iconst (pc1 := 7) dX8_hearRequest_6 (v := (nI 0)) kc_i0N rfl ?_
  refine qc_iald (pc1 := 8) dX8_hearRequest_7 rfl (ka_pa _ (by assumption)) rfl (by omega) (by omega) (by decide) ?_
  refine qa_callTi (pc1 := 11) dX8_hearRequest_8 rfl (ct_isRequest _) wc_X8_35 wy_X0_isRequest rfl rfl rfl ?_
  refine qb_if_eq (tgt := 25) (pc1 := 14) dX8_hearRequest_11 rfl rfl (fun h11 => ?_) (fun h11 => ?_)
  · refine qa_iconst (pc1 := 26) dX8_hearRequest_25 (v := 0) kc_i0 rfl ?_
    exact qa_iret dX8_hearRequest_26 rfl (vp_nar_int _) rfl rfl rfl rfl
  · refine qa_aload_n (pc1 := 15) dX8_hearRequest_14 rfl rfl rfl ?_
    refine qa_aload_n (pc1 := 16) dX8_hearRequest_15 rfl rfl rfl ?_
    refine qa_aload_n (pc1 := 17) dX8_hearRequest_16 rfl rfl rfl ?_
    refine qa_iconst (pc1 := 18) dX8_hearRequest_17 (v := (nI 2)) kc_i2N rfl ?_
    refine qc_iald (pc1 := 19) dX8_hearRequest_18 rfl (ka_pa _ (by assumption)) rfl (by omega) (by omega) (by decide) ?_
    refine qa_callVi (pc1 := 22) dX8_hearRequest_19 rfl (ct_isRight hps (by assumption) _) wc_X8_39 wy_X6_isRight rfl rfl (ci := k_net) rfl ko_net (by omega) rfl ?_
    refine qb_if_ne (tgt := 27) (pc1 := 25) dX8_hearRequest_22 rfl rfl (fun h22 => ?_) (fun h22 => ?_)
    · exact absurd ⟨h11, h22⟩ h
    · refine qa_iconst (pc1 := 26) dX8_hearRequest_25 (v := 0) kc_i0 rfl ?_
      exact qa_iret dX8_hearRequest_26 rfl (vp_nar_int _) rfl rfl rfl rfl
theorem xc_me_ok {C : ax_I} {q j : Nat} (hk : xc_nok C) : xc_nok (xc_me C q j) := by
  have e : xc_me C q j 2 3 = C 2 3 := by simp [xc_me, ax_u, show ¬ 2 = 71 + j from by omega]
  unfold xc_nok xc_n; rw [e]; exact hk
set_option maxRecDepth 20000 in
set_option maxHeartbeats 4000000 in
theorem ct_hrq1 (hps : kw_ps P) (hk : xc_nok C) {d j : Nat} (hdg : kw_dg d) (h : (xc_rq (C (d + 1) 0) ∧ xc_right C d (C (d + 1) 2))) (hpl : xc_place C (d + 1) = none) (hj : j < 8) (hl : xc_nx (C 69 1) = nI j) : kw_C l D aC b yX8_hearRequest cX8_hearRequest 6 (some .int) 6 [.inr (.inl 69), .inr (.inl d), .inr (.inl 2)] C M P (some (.inl 1)) (xc_ho (xc_me C (d + 1) j) P (d + 1) j) M P := by
  refine ax_body (own := RX8) (ini := false) (by decide) rfl (fun h => by cases h) (Nat.le_of_ble_eq_true rfl) ?_
  have hq1 := hdg.2.2
  have hq0 := hdg.2.1
  have hk1 := xc_me_ok (q := d + 1) (j := j) hk
  refine qa_aload_n (pc1 := 1) dX8_hearRequest_0 rfl rfl rfl ?_
  refine qa_getP (pc1 := 4) dX8_hearRequest_1 rfl wf_X8_22 rfl (ko_dg _ (by assumption)) (by omega) (kp_pa hps (by assumption)) ?_
  refine qa_astore_n (pc1 := 5) dX8_hearRequest_4 rfl (by decide) rfl ?_
  refine qa_aload_n (pc1 := 6) dX8_hearRequest_5 rfl rfl rfl ?_
  refine qa_iconst (pc1 := 7) dX8_hearRequest_6 (v := (nI 0)) kc_i0N rfl ?_
  refine qc_iald (pc1 := 8) dX8_hearRequest_7 rfl (ka_pa _ (by assumption)) rfl (by omega) (by omega) (by decide) ?_
  refine qa_callTi (pc1 := 11) dX8_hearRequest_8 rfl (ct_isRequest _) wc_X8_35 wy_X0_isRequest rfl rfl rfl ?_
  refine qf_if_eq (tgt := 25) (pc1 := 14) dX8_hearRequest_11 rfl rfl (kw_b1.mpr h.1) ?_
  refine qa_aload_n (pc1 := 15) dX8_hearRequest_14 rfl rfl rfl ?_
  refine qa_aload_n (pc1 := 16) dX8_hearRequest_15 rfl rfl rfl ?_
  refine qa_aload_n (pc1 := 17) dX8_hearRequest_16 rfl rfl rfl ?_
  refine qa_iconst (pc1 := 18) dX8_hearRequest_17 (v := (nI 2)) kc_i2N rfl ?_
  refine qc_iald (pc1 := 19) dX8_hearRequest_18 rfl (ka_pa _ (by assumption)) rfl (by omega) (by omega) (by decide) ?_
  refine qa_callVi (pc1 := 22) dX8_hearRequest_19 rfl (ct_isRight hps (by assumption) _) wc_X8_39 wy_X6_isRight rfl rfl (ci := k_net) rfl ko_net (by omega) rfl ?_
  refine qt_if_ne (tgt := 27) dX8_hearRequest_22 rfl (kw_b1.mpr h.2) ?_
  refine qa_aload_n (pc1 := 28) dX8_hearRequest_27 rfl rfl rfl ?_
  refine qa_aload_n (pc1 := 29) dX8_hearRequest_28 rfl rfl rfl ?_
  refine qa_callVi (pc1 := 32) dX8_hearRequest_29 rfl (ct_place hps (by assumption)) wc_X8_45 wy_X8_placeOfEntryFor rfl rfl (ci := k_rel) rfl ko_rel (by omega) rfl ?_
  refine qa_top (show _ = (-1 : Int32) from by rw [hpl]; rfl) ?_
  refine qa_istore (pc1 := 34) dX8_hearRequest_32 (by decide) rfl ?_
  refine qa_iload (pc1 := 36) dX8_hearRequest_34 rfl rfl ?_
  refine qa_iconst (pc1 := 37) dX8_hearRequest_36 (v := (-1)) kc_im1 rfl ?_
  refine qt_ic_eq (tgt := 44) dX8_hearRequest_37 rfl rfl ?_
  refine qa_iconst (pc1 := 45) dX8_hearRequest_44 (v := 0) kc_i0 rfl ?_
  refine qa_istore (pc1 := 47) dX8_hearRequest_45 (by decide) rfl ?_
  refine qa_iload (pc1 := 49) dX8_hearRequest_47 rfl rfl ?_
  refine qf_if_ne (tgt := 59) (pc1 := 52) dX8_hearRequest_49 rfl rfl rfl ?_
  refine qa_aload_n (pc1 := 53) dX8_hearRequest_52 rfl rfl rfl ?_
  refine qa_aload_n (pc1 := 54) dX8_hearRequest_53 rfl rfl rfl ?_
  refine qa_callVi (pc1 := 57) dX8_hearRequest_54 rfl (ct_makeEntry hps (by assumption) (by assumption) (by assumption)) wc_X8_49 wy_X8_makeEntry rfl rfl (ci := k_rel) rfl ko_rel (by omega) rfl ?_
  refine qa_istore (pc1 := 59) dX8_hearRequest_57 (by decide) rfl ?_
  refine qa_aload_n (pc1 := 60) dX8_hearRequest_59 rfl rfl rfl ?_
  refine qa_aload_n (pc1 := 61) dX8_hearRequest_60 rfl rfl rfl ?_
  refine qa_iload (pc1 := 63) dX8_hearRequest_61 rfl rfl ?_
  refine qa_aload_n (pc1 := 64) dX8_hearRequest_63 rfl rfl rfl ?_
  refine qa_callVv (pc1 := 67) dX8_hearRequest_64 rfl (ct_handOn hps (by assumption) (by assumption) (by assumption)) wc_X8_52 wy_X8_handOnRequest rfl rfl (ci := k_rel) rfl ko_rel (by omega) rfl ?_
  refine qa_iload (pc1 := 69) dX8_hearRequest_67 rfl rfl ?_
  refine qt_if_eq (tgt := 76) dX8_hearRequest_69 rfl rfl ?_
  refine qa_iconst (pc1 := 77) dX8_hearRequest_76 (v := 1) kc_i1 rfl ?_
  exact qa_iret dX8_hearRequest_77 rfl (vp_nar_int _) rfl rfl rfl rfl
set_option maxRecDepth 20000 in
set_option maxHeartbeats 4000000 in
theorem ct_hrq2 (hps : kw_ps P) (hk : xc_nok C) {d j : Nat} (hdg : kw_dg d) (h : (xc_rq (C (d + 1) 0) ∧ xc_right C d (C (d + 1) 2))) (hpl : xc_place C (d + 1) = some j) : kw_C l D aC b yX8_hearRequest cX8_hearRequest 6 (some .int) 6 [.inr (.inl 69), .inr (.inl d), .inr (.inl 2)] C M P (some (.inl 2)) (xc_ho C P (d + 1) j) M P := by
  refine ax_body (own := RX8) (ini := false) (by decide) rfl (fun h => by cases h) (Nat.le_of_ble_eq_true rfl) ?_
  have hq1 := hdg.2.2
  have hq0 := hdg.2.1
  have hj : j < 8 := by have := (kw_first_some hpl).2.1; omega
  refine qa_aload_n (pc1 := 1) dX8_hearRequest_0 rfl rfl rfl ?_
  refine qa_getP (pc1 := 4) dX8_hearRequest_1 rfl wf_X8_22 rfl (ko_dg _ (by assumption)) (by omega) (kp_pa hps (by assumption)) ?_
  refine qa_astore_n (pc1 := 5) dX8_hearRequest_4 rfl (by decide) rfl ?_
  refine qa_aload_n (pc1 := 6) dX8_hearRequest_5 rfl rfl rfl ?_
  refine qa_iconst (pc1 := 7) dX8_hearRequest_6 (v := (nI 0)) kc_i0N rfl ?_
  refine qc_iald (pc1 := 8) dX8_hearRequest_7 rfl (ka_pa _ (by assumption)) rfl (by omega) (by omega) (by decide) ?_
  refine qa_callTi (pc1 := 11) dX8_hearRequest_8 rfl (ct_isRequest _) wc_X8_35 wy_X0_isRequest rfl rfl rfl ?_
  refine qf_if_eq (tgt := 25) (pc1 := 14) dX8_hearRequest_11 rfl rfl (kw_b1.mpr h.1) ?_
  refine qa_aload_n (pc1 := 15) dX8_hearRequest_14 rfl rfl rfl ?_
  refine qa_aload_n (pc1 := 16) dX8_hearRequest_15 rfl rfl rfl ?_
  refine qa_aload_n (pc1 := 17) dX8_hearRequest_16 rfl rfl rfl ?_
  refine qa_iconst (pc1 := 18) dX8_hearRequest_17 (v := (nI 2)) kc_i2N rfl ?_
  refine qc_iald (pc1 := 19) dX8_hearRequest_18 rfl (ka_pa _ (by assumption)) rfl (by omega) (by omega) (by decide) ?_
  refine qa_callVi (pc1 := 22) dX8_hearRequest_19 rfl (ct_isRight hps (by assumption) _) wc_X8_39 wy_X6_isRight rfl rfl (ci := k_net) rfl ko_net (by omega) rfl ?_
  refine qt_if_ne (tgt := 27) dX8_hearRequest_22 rfl (kw_b1.mpr h.2) ?_
  refine qa_aload_n (pc1 := 28) dX8_hearRequest_27 rfl rfl rfl ?_
  refine qa_aload_n (pc1 := 29) dX8_hearRequest_28 rfl rfl rfl ?_
  refine qa_callVi (pc1 := 32) dX8_hearRequest_29 rfl (ct_place hps (by assumption)) wc_X8_45 wy_X8_placeOfEntryFor rfl rfl (ci := k_rel) rfl ko_rel (by omega) rfl ?_
  refine qa_top (show _ = nI j from by rw [hpl]; rfl) ?_
  refine qa_istore (pc1 := 34) dX8_hearRequest_32 (by decide) rfl ?_
  refine qa_iload (pc1 := 36) dX8_hearRequest_34 rfl rfl ?_
  refine qa_iconst (pc1 := 37) dX8_hearRequest_36 (v := (-1)) kc_im1 rfl ?_
  refine qf_ic_eq (tgt := 44) (pc1 := 40) dX8_hearRequest_37 rfl rfl (kw_nm1 j (by omega)) ?_
  refine qa_iconst (pc1 := 41) dX8_hearRequest_40 (v := 1) kc_i1 rfl ?_
  refine qa_goto (tgt := 45) dX8_hearRequest_41 rfl ?_
  refine qa_istore (pc1 := 47) dX8_hearRequest_45 (by decide) rfl ?_
  refine qa_iload (pc1 := 49) dX8_hearRequest_47 rfl rfl ?_
  refine qt_if_ne (tgt := 59) dX8_hearRequest_49 rfl (by decide) ?_
  refine qa_aload_n (pc1 := 60) dX8_hearRequest_59 rfl rfl rfl ?_
  refine qa_aload_n (pc1 := 61) dX8_hearRequest_60 rfl rfl rfl ?_
  refine qa_iload (pc1 := 63) dX8_hearRequest_61 rfl rfl ?_
  refine qa_aload_n (pc1 := 64) dX8_hearRequest_63 rfl rfl rfl ?_
  refine qa_callVv (pc1 := 67) dX8_hearRequest_64 rfl (ct_handOn hps (by assumption) (by assumption) (by assumption)) wc_X8_52 wy_X8_handOnRequest rfl rfl (ci := k_rel) rfl ko_rel (by omega) rfl ?_
  refine qa_iload (pc1 := 69) dX8_hearRequest_67 rfl rfl ?_
  refine qf_if_eq (tgt := 76) (pc1 := 72) dX8_hearRequest_69 rfl rfl (by decide) ?_
  refine qa_iconst (pc1 := 73) dX8_hearRequest_72 (v := 2) kc_i2 rfl ?_
  refine qa_goto (tgt := 77) dX8_hearRequest_73 rfl ?_
  exact qa_iret dX8_hearRequest_77 rfl (vp_nar_int _) rfl rfl rfl rfl
set_option maxRecDepth 20000 in
set_option maxHeartbeats 4000000 in
theorem ct_han0 (hps : kw_ps P) {d : Nat} (hdg : kw_dg d) (h : ¬ (xc_an (C (d + 1) 0) ∧ ¬ C (d + 1) 1 < 0 ∧ C (d + 1) 1 < 8)) : kw_C l D aC b yX8_hearAnswer cX8_hearAnswer 9 (some .int) 6 [.inr (.inl 69), .inr (.inl d), .inr (.inl 2)] C M P (some (.inl 0)) C M P := by
  refine ax_body (own := RX8) (ini := false) (by decide) rfl (fun h => by cases h) (Nat.le_of_ble_eq_true rfl) ?_
  have hq1 := hdg.2.2
  have hq0 := hdg.2.1
  refine qa_aload_n (pc1 := 1) dX8_hearAnswer_0 rfl rfl rfl ?_
  refine qa_getP (pc1 := 4) dX8_hearAnswer_1 rfl wf_X8_22 rfl (ko_dg _ (by assumption)) (by omega) (kp_pa hps (by assumption)) ?_
  refine qa_astore_n (pc1 := 5) dX8_hearAnswer_4 rfl (by decide) rfl ?_
  refine qa_aload_n (pc1 := 6) dX8_hearAnswer_5 rfl rfl rfl ?_
  refine qa_iconst (pc1 := 7) dX8_hearAnswer_6 (v := (nI 0)) kc_i0N rfl ?_
  refine qc_iald (pc1 := 8) dX8_hearAnswer_7 rfl (ka_pa _ (by assumption)) rfl (by omega) (by omega) (by decide) ?_
  refine qa_istore (pc1 := 10) dX8_hearAnswer_8 (by decide) rfl ?_
  refine qa_aload_n (pc1 := 11) dX8_hearAnswer_10 rfl rfl rfl ?_
  refine qa_iconst (pc1 := 12) dX8_hearAnswer_11 (v := (nI 1)) kc_i1N rfl ?_
  refine qc_iald (pc1 := 13) dX8_hearAnswer_12 rfl (ka_pa _ (by assumption)) rfl (by omega) (by omega) (by decide) ?_
  refine qa_istore (pc1 := 15) dX8_hearAnswer_13 (by decide) rfl ?_
  refine qa_iload (pc1 := 17) dX8_hearAnswer_15 rfl rfl ?_
  refine qa_callTi (pc1 := 20) dX8_hearAnswer_17 rfl (ct_isAnswer _) wc_X8_96 wy_X0_isAnswer rfl rfl rfl ?_
  refine qb_if_eq (tgt := 35) (pc1 := 23) dX8_hearAnswer_20 rfl rfl (fun h20 => ?_) (fun h20 => ?_)
  · refine qa_iconst (pc1 := 36) dX8_hearAnswer_35 (v := 0) kc_i0 rfl ?_
    exact qa_iret dX8_hearAnswer_36 rfl (vp_nar_int _) rfl rfl rfl rfl
  · refine qa_iload (pc1 := 25) dX8_hearAnswer_23 rfl rfl ?_
    refine qa_if_lt (tgt := 35) (pc1 := 28) dX8_hearAnswer_25 rfl rfl (fun h25 => ?_) (fun h25 => ?_)
    · refine qa_iconst (pc1 := 36) dX8_hearAnswer_35 (v := 0) kc_i0 rfl ?_
      exact qa_iret dX8_hearAnswer_36 rfl (vp_nar_int _) rfl rfl rfl rfl
    · refine qa_iload (pc1 := 30) dX8_hearAnswer_28 rfl rfl ?_
      refine qa_bipush (pc1 := 32) dX8_hearAnswer_30 (v := 8) kc_b8 rfl ?_
      refine qa_ic_lt (tgt := 37) (pc1 := 35) dX8_hearAnswer_32 rfl rfl (fun h32 => ?_) (fun h32 => ?_)
      · exact absurd ⟨h20, h25, h32⟩ h
      · refine qa_iconst (pc1 := 36) dX8_hearAnswer_35 (v := 0) kc_i0 rfl ?_
        exact qa_iret dX8_hearAnswer_36 rfl (vp_nar_int _) rfl rfl rfl rfl
set_option maxRecDepth 20000 in
set_option maxHeartbeats 4000000 in
theorem ct_han1 (hps : kw_ps P) (hk : xc_nok C) {d j : Nat} (hdg : kw_dg d) (h : xc_an (C (d + 1) 0)) (hj : j < 8) (hpl : C (d + 1) 1 = nI j) : kw_C l D aC b yX8_hearAnswer cX8_hearAnswer 9 (some .int) 6 [.inr (.inl 69), .inr (.inl d), .inr (.inl 2)] C M P (some (.inl (kw_b (xc_hac C d j)))) (xc_ha C P d j) M P := by
  refine ax_body (own := RX8) (ini := false) (by decide) rfl (fun h => by cases h) (Nat.le_of_ble_eq_true rfl) ?_
  have hq1 := hdg.2.2
  have hq0 := hdg.2.1
  refine qa_aload_n (pc1 := 1) dX8_hearAnswer_0 rfl rfl rfl ?_
  refine qa_getP (pc1 := 4) dX8_hearAnswer_1 rfl wf_X8_22 rfl (ko_dg _ (by assumption)) (by omega) (kp_pa hps (by assumption)) ?_
  refine qa_astore_n (pc1 := 5) dX8_hearAnswer_4 rfl (by decide) rfl ?_
  refine qa_aload_n (pc1 := 6) dX8_hearAnswer_5 rfl rfl rfl ?_
  refine qa_iconst (pc1 := 7) dX8_hearAnswer_6 (v := (nI 0)) kc_i0N rfl ?_
  refine qc_iald (pc1 := 8) dX8_hearAnswer_7 rfl (ka_pa _ (by assumption)) rfl (by omega) (by omega) (by decide) ?_
  refine qa_istore (pc1 := 10) dX8_hearAnswer_8 (by decide) rfl ?_
  refine qa_aload_n (pc1 := 11) dX8_hearAnswer_10 rfl rfl rfl ?_
  refine qa_iconst (pc1 := 12) dX8_hearAnswer_11 (v := (nI 1)) kc_i1N rfl ?_
  refine qc_iald (pc1 := 13) dX8_hearAnswer_12 rfl (ka_pa _ (by assumption)) rfl (by omega) (by omega) (by decide) ?_
  refine qa_top hpl ?_
  refine qa_istore (pc1 := 15) dX8_hearAnswer_13 (by decide) rfl ?_
  refine qa_iload (pc1 := 17) dX8_hearAnswer_15 rfl rfl ?_
  refine qa_callTi (pc1 := 20) dX8_hearAnswer_17 rfl (ct_isAnswer _) wc_X8_96 wy_X0_isAnswer rfl rfl rfl ?_
  refine qf_if_eq (tgt := 35) (pc1 := 23) dX8_hearAnswer_20 rfl rfl (kw_b1.mpr h) ?_
  refine qa_iload (pc1 := 25) dX8_hearAnswer_23 rfl rfl ?_
  refine qn_if_lt (tgt := 35) (pc1 := 28) dX8_hearAnswer_25 rfl rfl (by omega) ?_
  refine qa_iload (pc1 := 30) dX8_hearAnswer_28 rfl rfl ?_
  refine qa_bipush (pc1 := 32) dX8_hearAnswer_30 (v := 8) kc_b8 rfl ?_
  refine qt_ic_lt (tgt := 37) dX8_hearAnswer_32 rfl (nI_lt (b := 8) hj (by decide)) ?_
  refine qa_aload_n (pc1 := 38) dX8_hearAnswer_37 rfl rfl rfl ?_
  refine qa_getP (pc1 := 41) dX8_hearAnswer_38 rfl wf_X8_13 rfl ko_rel (by omega) (kp_ens hps) ?_
  refine qa_iload (pc1 := 43) dX8_hearAnswer_41 rfl rfl ?_
  refine qa_aald (pc1 := 44) dX8_hearAnswer_43 rfl ka_ens rfl (by omega) (by omega) (kp_en hps (by assumption)) ?_
  refine qa_astore (pc1 := 46) dX8_hearAnswer_44 (by decide) rfl ?_
  refine qa_aload (pc1 := 48) dX8_hearAnswer_46 rfl rfl ?_
  refine qc_getI (pc1 := 51) dX8_hearAnswer_48 rfl wf_X8_56 rfl (ko_en _ (by assumption)) (by omega) (by omega) ?_
  refine qa_if_eq (tgt := 79) (pc1 := 54) dX8_hearAnswer_51 rfl rfl (fun h51 => ?_) (fun h51 => ?_)
  · refine qa_iconst (pc1 := 80) dX8_hearAnswer_79 (v := 0) kc_i0 rfl ?_
    exact qa_iret dX8_hearAnswer_80 rfl (vp_nar_int _) (by simp only [kw_b, xc_hac]; grind) (by simp only [xc_ha, xc_hac]; grind) rfl rfl
  · refine qa_aload (pc1 := 56) dX8_hearAnswer_54 rfl rfl ?_
    refine qc_getI (pc1 := 59) dX8_hearAnswer_56 rfl wf_X8_76 rfl (ko_en _ (by assumption)) (by omega) (by omega) ?_
    refine qa_aload_n (pc1 := 60) dX8_hearAnswer_59 rfl rfl rfl ?_
    refine qa_bipush (pc1 := 62) dX8_hearAnswer_60 (v := (nI 6)) kc_b6N rfl ?_
    refine qc_iald (pc1 := 63) dX8_hearAnswer_62 rfl (ka_pa _ (by assumption)) rfl (by omega) (by omega) (by decide) ?_
    refine qa_ic_ne (tgt := 79) (pc1 := 66) dX8_hearAnswer_63 rfl rfl (fun h63 => ?_) (fun h63 => ?_)
    · refine qa_iconst (pc1 := 80) dX8_hearAnswer_79 (v := 0) kc_i0 rfl ?_
      exact qa_iret dX8_hearAnswer_80 rfl (vp_nar_int _) (by simp only [kw_b, xc_hac]; grind) (by simp only [xc_ha, xc_hac]; grind) rfl rfl
    · refine qa_aload_n (pc1 := 67) dX8_hearAnswer_66 rfl rfl rfl ?_
      refine qa_aload_n (pc1 := 68) dX8_hearAnswer_67 rfl rfl rfl ?_
      refine qa_aload (pc1 := 70) dX8_hearAnswer_68 rfl rfl ?_
      refine qc_getI (pc1 := 73) dX8_hearAnswer_70 rfl wf_X8_86 rfl (ko_en _ (by assumption)) (by omega) (by omega) ?_
      refine qa_callVi (pc1 := 76) dX8_hearAnswer_73 rfl (ct_isRight hps (by assumption) _) wc_X8_39 wy_X6_isRight rfl rfl (ci := k_net) rfl ko_net (by omega) rfl ?_
      refine qb_if_ne (tgt := 81) (pc1 := 79) dX8_hearAnswer_76 rfl rfl (fun h76 => ?_) (fun h76 => ?_)
      · refine qa_aload_n (pc1 := 82) dX8_hearAnswer_81 rfl rfl rfl ?_
        refine qa_iconst (pc1 := 83) dX8_hearAnswer_82 (v := (nI 3)) kc_i3N rfl ?_
        refine qc_iald (pc1 := 84) dX8_hearAnswer_83 rfl (ka_pa _ (by assumption)) rfl (by omega) (by omega) (by decide) ?_
        refine qa_istore (pc1 := 86) dX8_hearAnswer_84 (by decide) rfl ?_
        refine qa_aload_n (pc1 := 87) dX8_hearAnswer_86 rfl rfl rfl ?_
        refine qa_iconst (pc1 := 88) dX8_hearAnswer_87 (v := (nI 4)) kc_i4N rfl ?_
        refine qc_iald (pc1 := 89) dX8_hearAnswer_88 rfl (ka_pa _ (by assumption)) rfl (by omega) (by omega) (by decide) ?_
        refine qa_istore (pc1 := 91) dX8_hearAnswer_89 (by decide) rfl ?_
        refine qa_aload_n (pc1 := 92) dX8_hearAnswer_91 rfl rfl rfl ?_
        refine qa_iconst (pc1 := 93) dX8_hearAnswer_92 (v := 2) kc_i2 rfl ?_
        refine qa_aload (pc1 := 95) dX8_hearAnswer_93 rfl rfl ?_
        refine qc_getI (pc1 := 98) dX8_hearAnswer_95 rfl wf_X8_60 rfl (ko_en _ (by assumption)) (by omega) (by omega) ?_
        refine qa_iload (pc1 := 100) dX8_hearAnswer_98 rfl rfl ?_
        refine qa_aload (pc1 := 102) dX8_hearAnswer_100 rfl rfl ?_
        refine qc_getI (pc1 := 105) dX8_hearAnswer_102 rfl wf_X8_66 rfl (ko_en _ (by assumption)) (by omega) (by omega) ?_
        refine qa_aload (pc1 := 107) dX8_hearAnswer_105 rfl rfl ?_
        refine qc_getI (pc1 := 110) dX8_hearAnswer_107 rfl wf_X8_69 rfl (ko_en _ (by assumption)) (by omega) (by omega) ?_
        refine qa_iload (pc1 := 112) dX8_hearAnswer_110 rfl rfl ?_
        refine qa_iload (pc1 := 114) dX8_hearAnswer_112 rfl rfl ?_
        refine qa_callVv (pc1 := 117) dX8_hearAnswer_114 rfl (ct_snd hps (by assumption) _ _ _ _ _ _ _) wc_X8_92 wy_X6_send rfl rfl (ci := k_net) rfl ko_net (by omega) rfl ?_
        refine qa_iconst (pc1 := 118) dX8_hearAnswer_117 (v := 1) kc_i1 rfl ?_
        exact qa_iret dX8_hearAnswer_118 rfl (vp_nar_int _) (by simp only [kw_b, xc_hac]; grind) (by simp only [xc_ha, xc_hac]; grind) rfl rfl
      · refine qa_iconst (pc1 := 80) dX8_hearAnswer_79 (v := 0) kc_i0 rfl ?_
        exact qa_iret dX8_hearAnswer_80 rfl (vp_nar_int _) (by simp only [kw_b, xc_hac]; grind) (by simp only [xc_ha, xc_hac]; grind) rfl rfl
set_option maxRecDepth 20000 in
set_option maxHeartbeats 4000000 in
theorem ct_rhr (hps : kw_ps P) {d : Nat} {v : Int32} {C1 : ax_I} (hdg : kw_dg d) (h : C (d + 1) 6 < 2) (hM : kw_C l D aC b yX8_hearRequest cX8_hearRequest 6 (some .int) 6 [.inr (.inl 69), .inr (.inl d), .inr (.inl 2)] C M P (some (.inl v)) C1 M P) : kw_C l D aC b yX8_hear cX8_hear 4 (some .int) 7 [.inr (.inl 69), .inr (.inl d), .inr (.inl 2)] C M P (some (.inl v)) C1 M P := by
  refine ax_body (own := RX8) (ini := false) (by decide) rfl (fun h => by cases h) (Nat.le_of_ble_eq_true rfl) ?_
  have hq1 := hdg.2.2
  have hq0 := hdg.2.1
  refine qa_aload_n (pc1 := 1) dX8_hear_0 rfl rfl rfl ?_
  refine qa_getP (pc1 := 4) dX8_hear_1 rfl wf_X8_22 rfl (ko_dg _ (by assumption)) (by omega) (kp_pa hps (by assumption)) ?_
  refine qa_bipush (pc1 := 6) dX8_hear_4 (v := (nI 6)) kc_b6N rfl ?_
  refine qc_iald (pc1 := 7) dX8_hear_6 rfl (ka_pa _ (by assumption)) rfl (by omega) (by omega) (by decide) ?_
  refine qa_iconst (pc1 := 8) dX8_hear_7 (v := 2) kc_i2 rfl ?_
  refine qf_ic_ge (tgt := 15) (pc1 := 11) dX8_hear_8 rfl rfl (by rw [Int32.le_iff_toInt_le]; rw [Int32.lt_iff_toInt_lt] at h; omega) ?_
  refine qa_iconst (pc1 := 12) dX8_hear_11 (v := 1) kc_i1 rfl ?_
  refine qa_goto (tgt := 16) dX8_hear_12 rfl ?_
  refine qa_istore_n (pc1 := 17) dX8_hear_16 rfl (by decide) rfl ?_
  refine qa_iload_n (pc1 := 18) dX8_hear_17 rfl rfl rfl ?_
  refine qf_if_eq (tgt := 30) (pc1 := 21) dX8_hear_18 rfl rfl (by decide) ?_
  refine qa_aload_n (pc1 := 22) dX8_hear_21 rfl rfl rfl ?_
  refine qa_aload_n (pc1 := 23) dX8_hear_22 rfl rfl rfl ?_
  refine qa_aload_n (pc1 := 24) dX8_hear_23 rfl rfl rfl ?_
  refine qa_callVi (pc1 := 27) dX8_hear_24 rfl hM wc_X8_28 wy_X8_hearRequest rfl rfl (ci := k_rel) rfl ko_rel (by omega) rfl ?_
  refine qa_goto (tgt := 36) dX8_hear_27 rfl ?_
  exact qa_iret dX8_hear_36 rfl (vp_nar_int _) rfl rfl rfl rfl
set_option maxRecDepth 20000 in
set_option maxHeartbeats 4000000 in
theorem ct_rha (hps : kw_ps P) {d : Nat} {v : Int32} {C1 : ax_I} (hdg : kw_dg d) (h : ¬ C (d + 1) 6 < 2) (hM : kw_C l D aC b yX8_hearAnswer cX8_hearAnswer 9 (some .int) 6 [.inr (.inl 69), .inr (.inl d), .inr (.inl 2)] C M P (some (.inl v)) C1 M P) : kw_C l D aC b yX8_hear cX8_hear 4 (some .int) 7 [.inr (.inl 69), .inr (.inl d), .inr (.inl 2)] C M P (some (.inl v)) C1 M P := by
  refine ax_body (own := RX8) (ini := false) (by decide) rfl (fun h => by cases h) (Nat.le_of_ble_eq_true rfl) ?_
  have hq1 := hdg.2.2
  have hq0 := hdg.2.1
  refine qa_aload_n (pc1 := 1) dX8_hear_0 rfl rfl rfl ?_
  refine qa_getP (pc1 := 4) dX8_hear_1 rfl wf_X8_22 rfl (ko_dg _ (by assumption)) (by omega) (kp_pa hps (by assumption)) ?_
  refine qa_bipush (pc1 := 6) dX8_hear_4 (v := (nI 6)) kc_b6N rfl ?_
  refine qc_iald (pc1 := 7) dX8_hear_6 rfl (ka_pa _ (by assumption)) rfl (by omega) (by omega) (by decide) ?_
  refine qa_iconst (pc1 := 8) dX8_hear_7 (v := 2) kc_i2 rfl ?_
  refine qt_ic_ge (tgt := 15) dX8_hear_8 rfl (by rw [Int32.le_iff_toInt_le]; rw [Int32.lt_iff_toInt_lt] at h; omega) ?_
  refine qa_iconst (pc1 := 16) dX8_hear_15 (v := 0) kc_i0 rfl ?_
  refine qa_istore_n (pc1 := 17) dX8_hear_16 rfl (by decide) rfl ?_
  refine qa_iload_n (pc1 := 18) dX8_hear_17 rfl rfl rfl ?_
  refine qt_if_eq (tgt := 30) dX8_hear_18 rfl rfl ?_
  refine qa_aload_n (pc1 := 31) dX8_hear_30 rfl rfl rfl ?_
  refine qa_aload_n (pc1 := 32) dX8_hear_31 rfl rfl rfl ?_
  refine qa_aload_n (pc1 := 33) dX8_hear_32 rfl rfl rfl ?_
  refine qa_callVi (pc1 := 36) dX8_hear_33 rfl hM wc_X8_32 wy_X8_hearAnswer rfl rfl (ci := k_rel) rfl ko_rel (by omega) rfl ?_
  exact qa_iret dX8_hear_36 rfl (vp_nar_int _) rfl rfl rfl rfl
set_option maxRecDepth 20000 in
set_option maxHeartbeats 4000000 in
theorem ct_forgetE (hps : kw_ps P) : kw_C l D aC b yX8_forgetEntries cX8_forgetEntries 2 none 1 [.inr (.inl 69)] C M P none (ax_u (xc_fe C 0 8) 69 1 (-1)) M P := by
  refine ax_body (own := RX8) (ini := false) (by decide) rfl (fun h => by cases h) (Nat.le_of_ble_eq_true rfl) ?_
  have loop : ∀ i, i ≤ 8 → ∀ C1 : ax_I, xc_fe C1 i (8 - i) = xc_fe C 0 8 → ax_G l D aC b RX8 cX8_forgetEntries 2 none false (kw_rm 1) 191 (ax_F D aC b 191 0 0 (kw_R none kw_K kw_L (kw_gl (ax_u (xc_fe C 0 8) 69 1 (-1)) M) P)) (fun _ => True) 2 [(1, .inl (nI i)), (0, .inr (.inl 69))] [] 0 0 kw_K kw_L (kw_gl C1 M) P := by
    refine kw_loopB 8 (fun i hiN ih C1 hf => ?_)
    refine qa_iload_n (pc1 := 3) dX8_forgetEntries_2 rfl rfl rfl ?_
    refine qa_bipush (pc1 := 5) dX8_forgetEntries_3 (v := (nI 8)) kc_b8N rfl ?_
    refine qn_ic_ge (tgt := 24) (pc1 := 8) dX8_forgetEntries_5 rfl rfl (by omega) (by omega) (fun h5 => ?_) (fun h5 => ?_)
    · refine qa_aload_n (pc1 := 25) dX8_forgetEntries_24 rfl rfl rfl ?_
      refine qa_iconst (pc1 := 26) dX8_forgetEntries_25 (v := (-1)) kc_im1 rfl ?_
      refine qc_putI (pc1 := 29) dX8_forgetEntries_26 rfl wp_X8_17 rfl rfl rfl ko_rel (by omega) (by omega) ?_
      exact qa_vret dX8_forgetEntries_29 rfl rfl (by rw [← hf, show 8 - i = 0 from by omega]; rfl) rfl rfl
    · have hi : i < 8 := by omega
      refine qa_aload_n (pc1 := 9) dX8_forgetEntries_8 rfl rfl rfl ?_
      refine qa_getP (pc1 := 12) dX8_forgetEntries_9 rfl wf_X8_13 rfl ko_rel (by omega) (kp_ens hps) ?_
      refine qa_iload_n (pc1 := 13) dX8_forgetEntries_12 rfl rfl rfl ?_
      refine qa_aald (pc1 := 14) dX8_forgetEntries_13 rfl ka_ens rfl (by omega) (by omega) (kp_en hps (by assumption)) ?_
      refine qa_iconst (pc1 := 15) dX8_forgetEntries_14 (v := 0) kc_i0 rfl ?_
      refine qc_putI (pc1 := 18) dX8_forgetEntries_15 rfl wp_X8_56 rfl (by decide) rfl (ko_en _ (by assumption)) (by omega) (by omega) ?_
      refine qa_iincN (pc1 := 21) dX8_forgetEntries_18 rfl (by decide) rfl ?_
      refine qa_goto (tgt := 2) dX8_forgetEntries_21 rfl ?_
      exact qa_ls (by exact (kw_lsc rfl (kw_lsc rfl kw_lsn))) (ih (by omega) _ (by rw [← hf, show 8 - i = (8 - (i + 1)) + 1 from by omega]; rfl))
  refine qa_iconst (pc1 := 1) dX8_forgetEntries_0 (v := (nI 0)) kc_i0N rfl ?_
  refine qa_istore_n (pc1 := 2) dX8_forgetEntries_1 rfl (by decide) rfl ?_
  exact qa_ls (by exact (kw_lsc rfl (kw_lsc rfl kw_lsn))) (loop 0 (Nat.zero_le _) _ rfl)
end RE
