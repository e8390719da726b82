
def xr_fhn (M : ax_I) (x : Int32) (s0 c : Nat) : Int32 := match kw_first (xr_hc M x s0) s0 (c - s0) with
  | none => 0
  | some _ => 1
def xr_fhm (M : ax_I) (x : Int32) (s0 c : Nat) : ax_I := match kw_first (xr_hc M x s0) s0 (c - s0) with
  | none => M
  | some e => xr_fh M e
def xr_dl (M : ax_I) (kk n : Nat) : ax_I := xr_take (xr_got M kk 8) kk n
theorem xr_dl_g {M : ax_I} {kk n j : Nat} (hj : j < 8) : xr_dl M kk n 183 j = M 182 (8 * kk + j) := by
  simp [xr_dl, xr_take, xr_ti, xr_got, ax_u, hj]
def xc_cpy (C : ax_I) (x z : Nat) : ax_I := fun a j => if a = z ∧ j < 8 then C x j else C a j
theorem xc_cpy_gl {C M : ax_I} {x z : Nat} (hx : x < 176) (hz : z < 176) : (fun a j => if a = z then va_cpy (kw_gl C M x) (kw_gl C M z) (nI 0).toNatClampNeg (nI 0).toNatClampNeg (nI 8).toNatClampNeg j else kw_gl C M a j) = kw_gl (xc_cpy C x z) M := by
  rw [nI_clamp (by decide), nI_clamp (by decide)]
  funext a j
  by_cases e : a = z
  · subst e
    by_cases f : j < 8 <;> simp [va_cpy, kw_gl, xc_cpy, hx, hz, f]
  · by_cases f : a < 176 <;> simp [kw_gl, xc_cpy, e, f]
def xc_copy1 (C : ax_I) (P : ax_P) (kk n : Nat) : ax_I := ax_u (xc_cpy C (P 5 kk + 1) (P 5 n + 1)) 2 3 (nI (n + 1))

section REFE
variable {l : Launch} {D : va_G} {aC : Nat → ClassId} {b : Nat} {C M : ax_I} {P : ax_P}
set_option maxRecDepth 20000 in
set_option maxHeartbeats 4000000 in
theorem rt_fp0 (hps : kw_ps P) (x : Int32) (hl : xr_lk (M 183 7) (M 183 6)) (hq : ¬ xr_rq M) : kw_C l D aC b yX10_fromPoint cX10_fromPoint 7 (some .int) 6 [.inr (.inl 176), .inl x] C M P (some (.inl 0)) C M P := by
  refine ax_body (own := RX10) (ini := false) (by decide) rfl (fun h => by cases h) (Nat.le_of_ble_eq_true rfl) ?_
  refine qa_aload_n (pc1 := 1) dX10_fromPoint_0 rfl rfl rfl ?_
  refine qa_getP (pc1 := 4) dX10_fromPoint_1 rfl wf_X10_29 rfl ko_mo (by omega) (show P 176 8 = 183 from kp_mo hps (by decide : kw_mo 8 ≠ 0)) ?_
  refine qa_iconst (pc1 := 5) dX10_fromPoint_4 (v := (nI 0)) kc_i0N rfl ?_
  refine qr_iald (pc1 := 6) dX10_fromPoint_5 rfl ka_m183 rfl (by omega) (by omega) (by decide) ?_
  refine qa_callSi (pc1 := 9) dX10_fromPoint_6 rfl (rt_request _) wc_X10_68 wy_X10_request rfl rfl rfl ?_
  refine qb_if_eq (tgt := 25) (pc1 := 12) dX10_fromPoint_9 rfl rfl (fun h9 => ?_) (fun h9 => ?_)
  · refine qa_iconst (pc1 := 26) dX10_fromPoint_25 (v := 0) kc_i0 rfl ?_
    exact qa_iret dX10_fromPoint_26 rfl (vp_nar_int _) rfl rfl rfl rfl
  · refine qa_aload_n (pc1 := 13) dX10_fromPoint_12 rfl rfl rfl ?_
    refine qa_aload_n (pc1 := 14) dX10_fromPoint_13 rfl rfl rfl ?_
    refine qa_getP (pc1 := 17) dX10_fromPoint_14 rfl wf_X10_29 rfl ko_mo (by omega) (show P 176 8 = 183 from kp_mo hps (by decide : kw_mo 8 ≠ 0)) ?_
    refine qa_iconst (pc1 := 18) dX10_fromPoint_17 (v := (nI 2)) kc_i2N rfl ?_
    refine qr_iald (pc1 := 19) dX10_fromPoint_18 rfl ka_m183 rfl (by omega) (by omega) (by decide) ?_
    refine qa_callVi (pc1 := 22) dX10_fromPoint_19 rfl (rt_right hps _ (by assumption)) wc_X10_117 wy_X10_right rfl rfl (ci := k_mo) rfl ko_mo (by omega) rfl ?_
    refine qb_if_ne (tgt := 27) (pc1 := 25) dX10_fromPoint_22 rfl rfl (fun h22 => ?_) (fun h22 => ?_)
    · exact absurd ⟨h9, h22⟩ hq
    · refine qa_iconst (pc1 := 26) dX10_fromPoint_25 (v := 0) kc_i0 rfl ?_
      exact qa_iret dX10_fromPoint_26 rfl (vp_nar_int _) rfl rfl rfl rfl
set_option maxRecDepth 20000 in
set_option maxHeartbeats 4000000 in
theorem rt_fpl {F : List Frame → Array Value → State → State → Prop} (hps : kw_ps P) {c : Nat} (hc : M 176 12 = nI c) (hc5 : c ≤ 512) (x E : Int32) (k148 : ax_G l D aC b RX10 cX10_fromPoint 7 (some .int) false (kw_rm 6) 191 F (fun _ => True) 148 [(2, .inl E), (0, .inr (.inl 176)), (1, .inl x)] [] 0 0 kw_K kw_L (kw_gl C M) P) : ∀ e, e ≤ c → ∀ acc : Int32, kw_lst (xr_fc M x) e (c - e) acc = E → ax_G l D aC b RX10 cX10_fromPoint 7 (some .int) false (kw_rm 6) 191 F (fun _ => True) 34 [(3, .inl (nI e)), (2, .inl acc), (0, .inr (.inl 176)), (1, .inl x)] [] 0 0 kw_K kw_L (kw_gl C M) P := by
  refine kw_loop c (fun e ih hec acc hf => ?_)
  refine qa_iload_n (pc1 := 35) dX10_fromPoint_34 rfl rfl rfl ?_
  refine qa_aload_n (pc1 := 36) dX10_fromPoint_35 rfl rfl rfl ?_
  refine qr_getI (pc1 := 39) dX10_fromPoint_36 rfl wf_X10_123 rfl ko_mo (by omega) (by omega) ?_
  refine qa_top hc ?_
  refine qn_ic_ge (tgt := 148) (pc1 := 42) dX10_fromPoint_39 rfl rfl (by omega) (by omega) (fun h39 => ?_) (fun h39 => ?_)
  · have e1 : acc = E := by rw [← hf, show c - e = 0 from by omega]; rfl
    subst e1
    exact qa_ls (by exact (kw_lsc rfl (kw_lsc rfl (kw_lsc rfl kw_lsn)))) k148
  · have he5 : e < 512 := by omega
    refine qa_bipush (pc1 := 44) dX10_fromPoint_42 (v := (nI 6)) kc_b6N rfl ?_
    refine qa_iload_n (pc1 := 45) dX10_fromPoint_44 rfl rfl rfl ?_
    refine qn_imul (pc1 := 46) dX10_fromPoint_45 rfl ?_
    refine qa_istore (pc1 := 48) dX10_fromPoint_46 (by decide) rfl ?_
    refine qa_aload_n (pc1 := 49) dX10_fromPoint_48 rfl rfl rfl ?_
    refine qa_getP (pc1 := 52) dX10_fromPoint_49 rfl wf_X10_38 rfl ko_mo (by omega) (show P 176 11 = 186 from kp_mo hps (by decide : kw_mo 11 ≠ 0)) ?_
    refine qa_iload (pc1 := 54) dX10_fromPoint_52 rfl rfl ?_
    refine qr_iald (pc1 := 55) dX10_fromPoint_54 rfl ka_m186 rfl (by omega) (by omega) (by omega) ?_
    refine qa_iload_n (pc1 := 56) dX10_fromPoint_55 rfl rfl rfl ?_
    refine qa_ic_ne (tgt := 117) (pc1 := 59) dX10_fromPoint_56 rfl rfl (fun h56 => ?_) (fun h56 => ?_)
    · refine qa_iconst (pc1 := 118) dX10_fromPoint_117 (v := 0) kc_i0 rfl ?_
      refine qa_istore (pc1 := 120) dX10_fromPoint_118 (by decide) rfl ?_
      refine qa_iload (pc1 := 122) dX10_fromPoint_120 rfl rfl ?_
      refine qa_if_eq (tgt := 140) (pc1 := 125) dX10_fromPoint_122 rfl rfl (fun h122 => ?_) (fun h122 => ?_)
      · refine qa_iload_n (pc1 := 141) dX10_fromPoint_140 rfl rfl rfl ?_
        refine qa_istore_n (pc1 := 142) dX10_fromPoint_141 rfl (by decide) rfl ?_
        refine qa_iincN (pc1 := 145) dX10_fromPoint_142 rfl (by decide) rfl ?_
        refine qa_goto (tgt := 34) dX10_fromPoint_145 rfl ?_
        exact qa_ls (by exact (kw_lsc rfl (kw_lsc rfl (kw_lsc rfl (kw_lsc rfl kw_lsn))))) (ih (by omega) (by omega) _ (by rw [← hf, show c - e = (c - (e + 1)) + 1 from by omega, kw_lst]; congr 1; clear ih hf; simp only [xr_fc, decide_eq_true_eq]; grind))
      · refine qa_iload_n (pc1 := 126) dX10_fromPoint_125 rfl rfl rfl ?_
        refine qa_aload_n (pc1 := 127) dX10_fromPoint_126 rfl rfl rfl ?_
        refine qr_getI (pc1 := 130) dX10_fromPoint_127 rfl wf_X10_123 rfl ko_mo (by omega) (by omega) ?_
        refine qa_bipush (pc1 := 132) dX10_fromPoint_130 (v := 8) kc_b8 rfl ?_
        refine qa_isub (pc1 := 133) dX10_fromPoint_132 rfl ?_
        refine qa_ic_lt (tgt := 140) (pc1 := 136) dX10_fromPoint_133 rfl rfl (fun h133 => ?_) (fun h133 => ?_)
        · refine qa_iload_n (pc1 := 141) dX10_fromPoint_140 rfl rfl rfl ?_
          refine qa_istore_n (pc1 := 142) dX10_fromPoint_141 rfl (by decide) rfl ?_
          refine qa_iincN (pc1 := 145) dX10_fromPoint_142 rfl (by decide) rfl ?_
          refine qa_goto (tgt := 34) dX10_fromPoint_145 rfl ?_
          exact qa_ls (by exact (kw_lsc rfl (kw_lsc rfl (kw_lsc rfl (kw_lsc rfl kw_lsn))))) (ih (by omega) (by omega) _ (by rw [← hf, show c - e = (c - (e + 1)) + 1 from by omega, kw_lst]; congr 1; clear ih hf; simp only [xr_fc, decide_eq_true_eq]; grind))
        · refine qa_iload_n (pc1 := 137) dX10_fromPoint_136 rfl rfl rfl ?_
          refine qa_goto (tgt := 141) dX10_fromPoint_137 rfl ?_
          refine qa_istore_n (pc1 := 142) dX10_fromPoint_141 rfl (by decide) rfl ?_
          refine qa_iincN (pc1 := 145) dX10_fromPoint_142 rfl (by decide) rfl ?_
          refine qa_goto (tgt := 34) dX10_fromPoint_145 rfl ?_
          exact qa_ls (by exact (kw_lsc rfl (kw_lsc rfl (kw_lsc rfl (kw_lsc rfl kw_lsn))))) (ih (by omega) (by omega) _ (by rw [← hf, show c - e = (c - (e + 1)) + 1 from by omega, kw_lst]; congr 1; clear ih hf; simp only [xr_fc, decide_eq_true_eq]; grind))
    · refine qa_aload_n (pc1 := 60) dX10_fromPoint_59 rfl rfl rfl ?_
      refine qa_getP (pc1 := 63) dX10_fromPoint_60 rfl wf_X10_38 rfl ko_mo (by omega) (show P 176 11 = 186 from kp_mo hps (by decide : kw_mo 11 ≠ 0)) ?_
      refine qa_iload (pc1 := 65) dX10_fromPoint_63 rfl rfl ?_
      refine qa_iconst (pc1 := 66) dX10_fromPoint_65 (v := (nI 1)) kc_i1N rfl ?_
      refine qn_iadd (pc1 := 67) dX10_fromPoint_66 rfl ?_
      refine qr_iald (pc1 := 68) dX10_fromPoint_67 rfl ka_m186 rfl (by omega) (by omega) (by omega) ?_
      refine qa_aload_n (pc1 := 69) dX10_fromPoint_68 rfl rfl rfl ?_
      refine qa_getP (pc1 := 72) dX10_fromPoint_69 rfl wf_X10_29 rfl ko_mo (by omega) (show P 176 8 = 183 from kp_mo hps (by decide : kw_mo 8 ≠ 0)) ?_
      refine qa_iconst (pc1 := 73) dX10_fromPoint_72 (v := (nI 0)) kc_i0N rfl ?_
      refine qr_iald (pc1 := 74) dX10_fromPoint_73 rfl ka_m183 rfl (by omega) (by omega) (by decide) ?_
      refine qa_ic_ne (tgt := 117) (pc1 := 77) dX10_fromPoint_74 rfl rfl (fun h74 => ?_) (fun h74 => ?_)
      · refine qa_iconst (pc1 := 118) dX10_fromPoint_117 (v := 0) kc_i0 rfl ?_
        refine qa_istore (pc1 := 120) dX10_fromPoint_118 (by decide) rfl ?_
        refine qa_iload (pc1 := 122) dX10_fromPoint_120 rfl rfl ?_
        refine qa_if_eq (tgt := 140) (pc1 := 125) dX10_fromPoint_122 rfl rfl (fun h122 => ?_) (fun h122 => ?_)
        · refine qa_iload_n (pc1 := 141) dX10_fromPoint_140 rfl rfl rfl ?_
          refine qa_istore_n (pc1 := 142) dX10_fromPoint_141 rfl (by decide) rfl ?_
          refine qa_iincN (pc1 := 145) dX10_fromPoint_142 rfl (by decide) rfl ?_
          refine qa_goto (tgt := 34) dX10_fromPoint_145 rfl ?_
          exact qa_ls (by exact (kw_lsc rfl (kw_lsc rfl (kw_lsc rfl (kw_lsc rfl kw_lsn))))) (ih (by omega) (by omega) _ (by rw [← hf, show c - e = (c - (e + 1)) + 1 from by omega, kw_lst]; congr 1; clear ih hf; simp only [xr_fc, decide_eq_true_eq]; grind))
        · refine qa_iload_n (pc1 := 126) dX10_fromPoint_125 rfl rfl rfl ?_
          refine qa_aload_n (pc1 := 127) dX10_fromPoint_126 rfl rfl rfl ?_
          refine qr_getI (pc1 := 130) dX10_fromPoint_127 rfl wf_X10_123 rfl ko_mo (by omega) (by omega) ?_
          refine qa_bipush (pc1 := 132) dX10_fromPoint_130 (v := 8) kc_b8 rfl ?_
          refine qa_isub (pc1 := 133) dX10_fromPoint_132 rfl ?_
          refine qa_ic_lt (tgt := 140) (pc1 := 136) dX10_fromPoint_133 rfl rfl (fun h133 => ?_) (fun h133 => ?_)
          · refine qa_iload_n (pc1 := 141) dX10_fromPoint_140 rfl rfl rfl ?_
            refine qa_istore_n (pc1 := 142) dX10_fromPoint_141 rfl (by decide) rfl ?_
            refine qa_iincN (pc1 := 145) dX10_fromPoint_142 rfl (by decide) rfl ?_
            refine qa_goto (tgt := 34) dX10_fromPoint_145 rfl ?_
            exact qa_ls (by exact (kw_lsc rfl (kw_lsc rfl (kw_lsc rfl (kw_lsc rfl kw_lsn))))) (ih (by omega) (by omega) _ (by rw [← hf, show c - e = (c - (e + 1)) + 1 from by omega, kw_lst]; congr 1; clear ih hf; simp only [xr_fc, decide_eq_true_eq]; grind))
          · refine qa_iload_n (pc1 := 137) dX10_fromPoint_136 rfl rfl rfl ?_
            refine qa_goto (tgt := 141) dX10_fromPoint_137 rfl ?_
            refine qa_istore_n (pc1 := 142) dX10_fromPoint_141 rfl (by decide) rfl ?_
            refine qa_iincN (pc1 := 145) dX10_fromPoint_142 rfl (by decide) rfl ?_
            refine qa_goto (tgt := 34) dX10_fromPoint_145 rfl ?_
            exact qa_ls (by exact (kw_lsc rfl (kw_lsc rfl (kw_lsc rfl (kw_lsc rfl kw_lsn))))) (ih (by omega) (by omega) _ (by rw [← hf, show c - e = (c - (e + 1)) + 1 from by omega, kw_lst]; congr 1; clear ih hf; simp only [xr_fc, decide_eq_true_eq]; grind))
      · refine qa_aload_n (pc1 := 78) dX10_fromPoint_77 rfl rfl rfl ?_
        refine qa_getP (pc1 := 81) dX10_fromPoint_78 rfl wf_X10_38 rfl ko_mo (by omega) (show P 176 11 = 186 from kp_mo hps (by decide : kw_mo 11 ≠ 0)) ?_
        refine qa_iload (pc1 := 83) dX10_fromPoint_81 rfl rfl ?_
        refine qa_iconst (pc1 := 84) dX10_fromPoint_83 (v := (nI 2)) kc_i2N rfl ?_
        refine qn_iadd (pc1 := 85) dX10_fromPoint_84 rfl ?_
        refine qr_iald (pc1 := 86) dX10_fromPoint_85 rfl ka_m186 rfl (by omega) (by omega) (by omega) ?_
        refine qa_aload_n (pc1 := 87) dX10_fromPoint_86 rfl rfl rfl ?_
        refine qa_getP (pc1 := 90) dX10_fromPoint_87 rfl wf_X10_29 rfl ko_mo (by omega) (show P 176 8 = 183 from kp_mo hps (by decide : kw_mo 8 ≠ 0)) ?_
        refine qa_iconst (pc1 := 91) dX10_fromPoint_90 (v := (nI 1)) kc_i1N rfl ?_
        refine qr_iald (pc1 := 92) dX10_fromPoint_91 rfl ka_m183 rfl (by omega) (by omega) (by decide) ?_
        refine qa_ic_ne (tgt := 117) (pc1 := 95) dX10_fromPoint_92 rfl rfl (fun h92 => ?_) (fun h92 => ?_)
        · refine qa_iconst (pc1 := 118) dX10_fromPoint_117 (v := 0) kc_i0 rfl ?_
          refine qa_istore (pc1 := 120) dX10_fromPoint_118 (by decide) rfl ?_
          refine qa_iload (pc1 := 122) dX10_fromPoint_120 rfl rfl ?_
          refine qa_if_eq (tgt := 140) (pc1 := 125) dX10_fromPoint_122 rfl rfl (fun h122 => ?_) (fun h122 => ?_)
          · refine qa_iload_n (pc1 := 141) dX10_fromPoint_140 rfl rfl rfl ?_
            refine qa_istore_n (pc1 := 142) dX10_fromPoint_141 rfl (by decide) rfl ?_
            refine qa_iincN (pc1 := 145) dX10_fromPoint_142 rfl (by decide) rfl ?_
            refine qa_goto (tgt := 34) dX10_fromPoint_145 rfl ?_
            exact qa_ls (by exact (kw_lsc rfl (kw_lsc rfl (kw_lsc rfl (kw_lsc rfl kw_lsn))))) (ih (by omega) (by omega) _ (by rw [← hf, show c - e = (c - (e + 1)) + 1 from by omega, kw_lst]; congr 1; clear ih hf; simp only [xr_fc, decide_eq_true_eq]; grind))
          · refine qa_iload_n (pc1 := 126) dX10_fromPoint_125 rfl rfl rfl ?_
            refine qa_aload_n (pc1 := 127) dX10_fromPoint_126 rfl rfl rfl ?_
            refine qr_getI (pc1 := 130) dX10_fromPoint_127 rfl wf_X10_123 rfl ko_mo (by omega) (by omega) ?_
            refine qa_bipush (pc1 := 132) dX10_fromPoint_130 (v := 8) kc_b8 rfl ?_
            refine qa_isub (pc1 := 133) dX10_fromPoint_132 rfl ?_
            refine qa_ic_lt (tgt := 140) (pc1 := 136) dX10_fromPoint_133 rfl rfl (fun h133 => ?_) (fun h133 => ?_)
            · refine qa_iload_n (pc1 := 141) dX10_fromPoint_140 rfl rfl rfl ?_
              refine qa_istore_n (pc1 := 142) dX10_fromPoint_141 rfl (by decide) rfl ?_
              refine qa_iincN (pc1 := 145) dX10_fromPoint_142 rfl (by decide) rfl ?_
              refine qa_goto (tgt := 34) dX10_fromPoint_145 rfl ?_
              exact qa_ls (by exact (kw_lsc rfl (kw_lsc rfl (kw_lsc rfl (kw_lsc rfl kw_lsn))))) (ih (by omega) (by omega) _ (by rw [← hf, show c - e = (c - (e + 1)) + 1 from by omega, kw_lst]; congr 1; clear ih hf; simp only [xr_fc, decide_eq_true_eq]; grind))
            · refine qa_iload_n (pc1 := 137) dX10_fromPoint_136 rfl rfl rfl ?_
              refine qa_goto (tgt := 141) dX10_fromPoint_137 rfl ?_
              refine qa_istore_n (pc1 := 142) dX10_fromPoint_141 rfl (by decide) rfl ?_
              refine qa_iincN (pc1 := 145) dX10_fromPoint_142 rfl (by decide) rfl ?_
              refine qa_goto (tgt := 34) dX10_fromPoint_145 rfl ?_
              exact qa_ls (by exact (kw_lsc rfl (kw_lsc rfl (kw_lsc rfl (kw_lsc rfl kw_lsn))))) (ih (by omega) (by omega) _ (by rw [← hf, show c - e = (c - (e + 1)) + 1 from by omega, kw_lst]; congr 1; clear ih hf; simp only [xr_fc, decide_eq_true_eq]; grind))
        · refine qa_aload_n (pc1 := 96) dX10_fromPoint_95 rfl rfl rfl ?_
          refine qa_getP (pc1 := 99) dX10_fromPoint_96 rfl wf_X10_38 rfl ko_mo (by omega) (show P 176 11 = 186 from kp_mo hps (by decide : kw_mo 11 ≠ 0)) ?_
          refine qa_iload (pc1 := 101) dX10_fromPoint_99 rfl rfl ?_
          refine qa_iconst (pc1 := 102) dX10_fromPoint_101 (v := (nI 3)) kc_i3N rfl ?_
          refine qn_iadd (pc1 := 103) dX10_fromPoint_102 rfl ?_
          refine qr_iald (pc1 := 104) dX10_fromPoint_103 rfl ka_m186 rfl (by omega) (by omega) (by omega) ?_
          refine qa_aload_n (pc1 := 105) dX10_fromPoint_104 rfl rfl rfl ?_
          refine qa_getP (pc1 := 108) dX10_fromPoint_105 rfl wf_X10_29 rfl ko_mo (by omega) (show P 176 8 = 183 from kp_mo hps (by decide : kw_mo 8 ≠ 0)) ?_
          refine qa_iconst (pc1 := 109) dX10_fromPoint_108 (v := (nI 2)) kc_i2N rfl ?_
          refine qr_iald (pc1 := 110) dX10_fromPoint_109 rfl ka_m183 rfl (by omega) (by omega) (by decide) ?_
          refine qa_ic_ne (tgt := 117) (pc1 := 113) dX10_fromPoint_110 rfl rfl (fun h110 => ?_) (fun h110 => ?_)
          · refine qa_iconst (pc1 := 118) dX10_fromPoint_117 (v := 0) kc_i0 rfl ?_
            refine qa_istore (pc1 := 120) dX10_fromPoint_118 (by decide) rfl ?_
            refine qa_iload (pc1 := 122) dX10_fromPoint_120 rfl rfl ?_
            refine qa_if_eq (tgt := 140) (pc1 := 125) dX10_fromPoint_122 rfl rfl (fun h122 => ?_) (fun h122 => ?_)
            · refine qa_iload_n (pc1 := 141) dX10_fromPoint_140 rfl rfl rfl ?_
              refine qa_istore_n (pc1 := 142) dX10_fromPoint_141 rfl (by decide) rfl ?_
              refine qa_iincN (pc1 := 145) dX10_fromPoint_142 rfl (by decide) rfl ?_
              refine qa_goto (tgt := 34) dX10_fromPoint_145 rfl ?_
              exact qa_ls (by exact (kw_lsc rfl (kw_lsc rfl (kw_lsc rfl (kw_lsc rfl kw_lsn))))) (ih (by omega) (by omega) _ (by rw [← hf, show c - e = (c - (e + 1)) + 1 from by omega, kw_lst]; congr 1; clear ih hf; simp only [xr_fc, decide_eq_true_eq]; grind))
            · refine qa_iload_n (pc1 := 126) dX10_fromPoint_125 rfl rfl rfl ?_
              refine qa_aload_n (pc1 := 127) dX10_fromPoint_126 rfl rfl rfl ?_
              refine qr_getI (pc1 := 130) dX10_fromPoint_127 rfl wf_X10_123 rfl ko_mo (by omega) (by omega) ?_
              refine qa_bipush (pc1 := 132) dX10_fromPoint_130 (v := 8) kc_b8 rfl ?_
              refine qa_isub (pc1 := 133) dX10_fromPoint_132 rfl ?_
              refine qa_ic_lt (tgt := 140) (pc1 := 136) dX10_fromPoint_133 rfl rfl (fun h133 => ?_) (fun h133 => ?_)
              · refine qa_iload_n (pc1 := 141) dX10_fromPoint_140 rfl rfl rfl ?_
                refine qa_istore_n (pc1 := 142) dX10_fromPoint_141 rfl (by decide) rfl ?_
                refine qa_iincN (pc1 := 145) dX10_fromPoint_142 rfl (by decide) rfl ?_
                refine qa_goto (tgt := 34) dX10_fromPoint_145 rfl ?_
                exact qa_ls (by exact (kw_lsc rfl (kw_lsc rfl (kw_lsc rfl (kw_lsc rfl kw_lsn))))) (ih (by omega) (by omega) _ (by rw [← hf, show c - e = (c - (e + 1)) + 1 from by omega, kw_lst]; congr 1; clear ih hf; simp only [xr_fc, decide_eq_true_eq]; grind))
              · refine qa_iload_n (pc1 := 137) dX10_fromPoint_136 rfl rfl rfl ?_
                refine qa_goto (tgt := 141) dX10_fromPoint_137 rfl ?_
                refine qa_istore_n (pc1 := 142) dX10_fromPoint_141 rfl (by decide) rfl ?_
                refine qa_iincN (pc1 := 145) dX10_fromPoint_142 rfl (by decide) rfl ?_
                refine qa_goto (tgt := 34) dX10_fromPoint_145 rfl ?_
                exact qa_ls (by exact (kw_lsc rfl (kw_lsc rfl (kw_lsc rfl (kw_lsc rfl kw_lsn))))) (ih (by omega) (by omega) _ (by rw [← hf, show c - e = (c - (e + 1)) + 1 from by omega, kw_lst]; congr 1; clear ih hf; simp only [xr_fc, decide_eq_true_eq]; grind))
          · refine qa_iconst (pc1 := 114) dX10_fromPoint_113 (v := 1) kc_i1 rfl ?_
            refine qa_goto (tgt := 118) dX10_fromPoint_114 rfl ?_
            refine qa_istore (pc1 := 120) dX10_fromPoint_118 (by decide) rfl ?_
            refine qa_iload (pc1 := 122) dX10_fromPoint_120 rfl rfl ?_
            refine qa_if_eq (tgt := 140) (pc1 := 125) dX10_fromPoint_122 rfl rfl (fun h122 => ?_) (fun h122 => ?_)
            · refine qa_iload_n (pc1 := 141) dX10_fromPoint_140 rfl rfl rfl ?_
              refine qa_istore_n (pc1 := 142) dX10_fromPoint_141 rfl (by decide) rfl ?_
              refine qa_iincN (pc1 := 145) dX10_fromPoint_142 rfl (by decide) rfl ?_
              refine qa_goto (tgt := 34) dX10_fromPoint_145 rfl ?_
              exact qa_ls (by exact (kw_lsc rfl (kw_lsc rfl (kw_lsc rfl (kw_lsc rfl kw_lsn))))) (ih (by omega) (by omega) _ (by rw [← hf, show c - e = (c - (e + 1)) + 1 from by omega, kw_lst]; congr 1; clear ih hf; simp only [xr_fc, decide_eq_true_eq]; grind))
            · refine qa_iload_n (pc1 := 126) dX10_fromPoint_125 rfl rfl rfl ?_
              refine qa_aload_n (pc1 := 127) dX10_fromPoint_126 rfl rfl rfl ?_
              refine qr_getI (pc1 := 130) dX10_fromPoint_127 rfl wf_X10_123 rfl ko_mo (by omega) (by omega) ?_
              refine qa_bipush (pc1 := 132) dX10_fromPoint_130 (v := 8) kc_b8 rfl ?_
              refine qa_isub (pc1 := 133) dX10_fromPoint_132 rfl ?_
              refine qa_ic_lt (tgt := 140) (pc1 := 136) dX10_fromPoint_133 rfl rfl (fun h133 => ?_) (fun h133 => ?_)
              · refine qa_iload_n (pc1 := 141) dX10_fromPoint_140 rfl rfl rfl ?_
                refine qa_istore_n (pc1 := 142) dX10_fromPoint_141 rfl (by decide) rfl ?_
                refine qa_iincN (pc1 := 145) dX10_fromPoint_142 rfl (by decide) rfl ?_
                refine qa_goto (tgt := 34) dX10_fromPoint_145 rfl ?_
                exact qa_ls (by exact (kw_lsc rfl (kw_lsc rfl (kw_lsc rfl (kw_lsc rfl kw_lsn))))) (ih (by omega) (by omega) _ (by rw [← hf, show c - e = (c - (e + 1)) + 1 from by omega, kw_lst]; congr 1; clear ih hf; simp only [xr_fc, decide_eq_true_eq]; grind))
              · refine qa_iload_n (pc1 := 137) dX10_fromPoint_136 rfl rfl rfl ?_
                refine qa_goto (tgt := 141) dX10_fromPoint_137 rfl ?_
                refine qa_istore_n (pc1 := 142) dX10_fromPoint_141 rfl (by decide) rfl ?_
                refine qa_iincN (pc1 := 145) dX10_fromPoint_142 rfl (by decide) rfl ?_
                refine qa_goto (tgt := 34) dX10_fromPoint_145 rfl ?_
                exact qa_ls (by exact (kw_lsc rfl (kw_lsc rfl (kw_lsc rfl (kw_lsc rfl kw_lsn))))) (ih (by omega) (by omega) _ (by rw [← hf, show c - e = (c - (e + 1)) + 1 from by omega, kw_lst]; congr 1; clear ih hf; simp only [xr_fc, decide_eq_true_eq]; grind))
set_option maxRecDepth 20000 in
set_option maxHeartbeats 4000000 in
theorem rt_fp1 (hps : kw_ps P) (hk : xr_nok M) {c s0 : Nat} (hc : M 176 12 = nI c) (hs0 : M 176 13 = nI s0) (hsc : s0 ≤ c) (x : Int32) (hl : xr_lk (M 183 7) (M 183 6)) (hq : xr_rq M) (hlx : xr_lk 2 x) (hc5 : c < 512) (he : kw_lst (xr_fc M x) s0 (c - s0) (-1) = -1) (hlh : xr_lk 2 (xr_mk M x c 186 (6 * c + 4))) : kw_C l D aC b yX10_fromPoint cX10_fromPoint 7 (some .int) 6 [.inr (.inl 176), .inl x] C M P (some (.inl 1)) C (xr_ho (xr_mk M x c) x c s0) P := by
  refine ax_body (own := RX10) (ini := false) (by decide) rfl (fun h => by cases h) (Nat.le_of_ble_eq_true rfl) ?_
  have k148 : ax_G l D aC b RX10 cX10_fromPoint 7 (some .int) false (kw_rm 6) 191 (ax_F D aC b 191 0 0 (kw_R (some (.inl 1)) kw_K kw_L (kw_gl C (xr_ho (xr_mk M x c) x c s0)) P)) (fun _ => True) 148 [(2, .inl (-1)), (0, .inr (.inl 176)), (1, .inl x)] [] 0 0 kw_K kw_L (kw_gl C M) P := by
    refine qa_iload_n (pc1 := 149) dX10_fromPoint_148 rfl rfl rfl ?_
    refine qt_if_lt (tgt := 156) dX10_fromPoint_149 rfl (by decide) ?_
    refine qa_iconst (pc1 := 157) dX10_fromPoint_156 (v := 0) kc_i0 rfl ?_
    refine qa_istore_n (pc1 := 158) dX10_fromPoint_157 rfl (by decide) rfl ?_
    refine qa_iload_n (pc1 := 159) dX10_fromPoint_158 rfl rfl rfl ?_
    refine qf_if_ne (tgt := 274) (pc1 := 162) dX10_fromPoint_159 rfl rfl rfl ?_
    refine qa_aload_n (pc1 := 163) dX10_fromPoint_162 rfl rfl rfl ?_
    refine qr_getI (pc1 := 166) dX10_fromPoint_163 rfl wf_X10_123 rfl ko_mo (by omega) (by omega) ?_
    refine qa_top hc ?_
    refine qa_istore_n (pc1 := 167) dX10_fromPoint_166 rfl (by decide) rfl ?_
    refine qa_bipush (pc1 := 169) dX10_fromPoint_167 (v := (nI 6)) kc_b6N rfl ?_
    refine qa_iload_n (pc1 := 170) dX10_fromPoint_169 rfl rfl rfl ?_
    refine qn_imul (pc1 := 171) dX10_fromPoint_170 rfl ?_
    refine qa_istore (pc1 := 173) dX10_fromPoint_171 (by decide) rfl ?_
    refine qa_aload_n (pc1 := 174) dX10_fromPoint_173 rfl rfl rfl ?_
    refine qa_getP (pc1 := 177) dX10_fromPoint_174 rfl wf_X10_38 rfl ko_mo (by omega) (show P 176 11 = 186 from kp_mo hps (by decide : kw_mo 11 ≠ 0)) ?_
    refine qa_iload (pc1 := 179) dX10_fromPoint_177 rfl rfl ?_
    refine qa_iload_n (pc1 := 180) dX10_fromPoint_179 rfl rfl rfl ?_
    refine qr_iast (pc1 := 181) dX10_fromPoint_180 rfl ka_m186 rfl (by omega) (by omega) (by omega) ?_
    refine qa_aload_n (pc1 := 182) dX10_fromPoint_181 rfl rfl rfl ?_
    refine qa_getP (pc1 := 185) dX10_fromPoint_182 rfl wf_X10_38 rfl ko_mo (by omega) (show P 176 11 = 186 from kp_mo hps (by decide : kw_mo 11 ≠ 0)) ?_
    refine qa_iload (pc1 := 187) dX10_fromPoint_185 rfl rfl ?_
    refine qa_iconst (pc1 := 188) dX10_fromPoint_187 (v := (nI 1)) kc_i1N rfl ?_
    refine qn_iadd (pc1 := 189) dX10_fromPoint_188 rfl ?_
    refine qa_aload_n (pc1 := 190) dX10_fromPoint_189 rfl rfl rfl ?_
    refine qa_getP (pc1 := 193) dX10_fromPoint_190 rfl wf_X10_29 rfl ko_mo (by omega) (show P 176 8 = 183 from kp_mo hps (by decide : kw_mo 8 ≠ 0)) ?_
    refine qa_iconst (pc1 := 194) dX10_fromPoint_193 (v := (nI 0)) kc_i0N rfl ?_
    refine qr_iald (pc1 := 195) dX10_fromPoint_194 rfl ka_m183 rfl (by omega) (by omega) (by decide) ?_
    refine qa_top (show _ = M 183 0 from by simp [ax_u]) ?_
    refine qr_iast (pc1 := 196) dX10_fromPoint_195 rfl ka_m186 rfl (by omega) (by omega) (by omega) ?_
    refine qa_aload_n (pc1 := 197) dX10_fromPoint_196 rfl rfl rfl ?_
    refine qa_getP (pc1 := 200) dX10_fromPoint_197 rfl wf_X10_38 rfl ko_mo (by omega) (show P 176 11 = 186 from kp_mo hps (by decide : kw_mo 11 ≠ 0)) ?_
    refine qa_iload (pc1 := 202) dX10_fromPoint_200 rfl rfl ?_
    refine qa_iconst (pc1 := 203) dX10_fromPoint_202 (v := (nI 2)) kc_i2N rfl ?_
    refine qn_iadd (pc1 := 204) dX10_fromPoint_203 rfl ?_
    refine qa_aload_n (pc1 := 205) dX10_fromPoint_204 rfl rfl rfl ?_
    refine qa_getP (pc1 := 208) dX10_fromPoint_205 rfl wf_X10_29 rfl ko_mo (by omega) (show P 176 8 = 183 from kp_mo hps (by decide : kw_mo 8 ≠ 0)) ?_
    refine qa_iconst (pc1 := 209) dX10_fromPoint_208 (v := (nI 1)) kc_i1N rfl ?_
    refine qr_iald (pc1 := 210) dX10_fromPoint_209 rfl ka_m183 rfl (by omega) (by omega) (by decide) ?_
    refine qa_top (show _ = M 183 1 from by simp [ax_u]) ?_
    refine qr_iast (pc1 := 211) dX10_fromPoint_210 rfl ka_m186 rfl (by omega) (by omega) (by omega) ?_
    refine qa_aload_n (pc1 := 212) dX10_fromPoint_211 rfl rfl rfl ?_
    refine qa_getP (pc1 := 215) dX10_fromPoint_212 rfl wf_X10_38 rfl ko_mo (by omega) (show P 176 11 = 186 from kp_mo hps (by decide : kw_mo 11 ≠ 0)) ?_
    refine qa_iload (pc1 := 217) dX10_fromPoint_215 rfl rfl ?_
    refine qa_iconst (pc1 := 218) dX10_fromPoint_217 (v := (nI 3)) kc_i3N rfl ?_
    refine qn_iadd (pc1 := 219) dX10_fromPoint_218 rfl ?_
    refine qa_aload_n (pc1 := 220) dX10_fromPoint_219 rfl rfl rfl ?_
    refine qa_getP (pc1 := 223) dX10_fromPoint_220 rfl wf_X10_29 rfl ko_mo (by omega) (show P 176 8 = 183 from kp_mo hps (by decide : kw_mo 8 ≠ 0)) ?_
    refine qa_iconst (pc1 := 224) dX10_fromPoint_223 (v := (nI 2)) kc_i2N rfl ?_
    refine qr_iald (pc1 := 225) dX10_fromPoint_224 rfl ka_m183 rfl (by omega) (by omega) (by decide) ?_
    refine qa_top (show _ = M 183 2 from by simp [ax_u]) ?_
    refine qr_iast (pc1 := 226) dX10_fromPoint_225 rfl ka_m186 rfl (by omega) (by omega) (by omega) ?_
    refine qa_aload_n (pc1 := 227) dX10_fromPoint_226 rfl rfl rfl ?_
    refine qa_getP (pc1 := 230) dX10_fromPoint_227 rfl wf_X10_38 rfl ko_mo (by omega) (show P 176 11 = 186 from kp_mo hps (by decide : kw_mo 11 ≠ 0)) ?_
    refine qa_iload (pc1 := 232) dX10_fromPoint_230 rfl rfl ?_
    refine qa_iconst (pc1 := 233) dX10_fromPoint_232 (v := (nI 4)) kc_i4N rfl ?_
    refine qn_iadd (pc1 := 234) dX10_fromPoint_233 rfl ?_
    refine qa_iconst (pc1 := 235) dX10_fromPoint_234 (v := 3) kc_i3 rfl ?_
    refine qa_aload_n (pc1 := 236) dX10_fromPoint_235 rfl rfl rfl ?_
    refine qa_getP (pc1 := 239) dX10_fromPoint_236 rfl wf_X10_29 rfl ko_mo (by omega) (show P 176 8 = 183 from kp_mo hps (by decide : kw_mo 8 ≠ 0)) ?_
    refine qa_iconst (pc1 := 240) dX10_fromPoint_239 (v := (nI 3)) kc_i3N rfl ?_
    refine qr_iald (pc1 := 241) dX10_fromPoint_240 rfl ka_m183 rfl (by omega) (by omega) (by decide) ?_
    refine qa_top (show _ = M 183 3 from by simp [ax_u]) ?_
    refine qa_iconst (pc1 := 242) dX10_fromPoint_241 (v := 1) kc_i1 rfl ?_
    refine qa_iand (pc1 := 243) dX10_fromPoint_242 rfl ?_
    refine qa_iadd (pc1 := 244) dX10_fromPoint_243 rfl ?_
    refine qr_iast (pc1 := 245) dX10_fromPoint_244 rfl ka_m186 rfl (by omega) (by omega) (by omega) ?_
    refine qa_aload_n (pc1 := 246) dX10_fromPoint_245 rfl rfl rfl ?_
    refine qa_getP (pc1 := 249) dX10_fromPoint_246 rfl wf_X10_38 rfl ko_mo (by omega) (show P 176 11 = 186 from kp_mo hps (by decide : kw_mo 11 ≠ 0)) ?_
    refine qa_iload (pc1 := 251) dX10_fromPoint_249 rfl rfl ?_
    refine qa_iconst (pc1 := 252) dX10_fromPoint_251 (v := (nI 5)) kc_i5N rfl ?_
    refine qn_iadd (pc1 := 253) dX10_fromPoint_252 rfl ?_
    refine qa_aload_n (pc1 := 254) dX10_fromPoint_253 rfl rfl rfl ?_
    refine qa_getP (pc1 := 257) dX10_fromPoint_254 rfl wf_X10_29 rfl ko_mo (by omega) (show P 176 8 = 183 from kp_mo hps (by decide : kw_mo 8 ≠ 0)) ?_
    refine qa_iconst (pc1 := 258) dX10_fromPoint_257 (v := (nI 2)) kc_i2N rfl ?_
    refine qr_iald (pc1 := 259) dX10_fromPoint_258 rfl ka_m183 rfl (by omega) (by omega) (by decide) ?_
    refine qa_iload_n (pc1 := 260) dX10_fromPoint_259 rfl rfl rfl ?_
    refine qa_callSi (pc1 := 263) dX10_fromPoint_260 rfl (rt_mix _ _) wc_X10_57 wy_X10_mix rfl rfl rfl ?_
    refine qr_iast (pc1 := 264) dX10_fromPoint_263 rfl ka_m186 rfl (by omega) (by omega) (by omega) ?_
    refine qa_aload_n (pc1 := 265) dX10_fromPoint_264 rfl rfl rfl ?_
    refine qa_dup (pc1 := 266) dX10_fromPoint_265 rfl ?_
    refine qr_getI (pc1 := 269) dX10_fromPoint_266 rfl wf_X10_123 rfl ko_mo (by omega) (by omega) ?_
    refine qa_top (show _ = nI c from by simp [ax_u, hc]) ?_
    refine qa_iconst (pc1 := 270) dX10_fromPoint_269 (v := (nI 1)) kc_i1N rfl ?_
    refine qn_iadd (pc1 := 271) dX10_fromPoint_270 rfl ?_
    refine qr_putI (pc1 := 274) dX10_fromPoint_271 rfl wp_X10_123 rfl rfl rfl ko_mo (by omega) (by omega) ?_
    change ax_G l D aC b RX10 cX10_fromPoint 7 (some .int) false (kw_rm 6) 191 _ (fun _ => True) 274 _ _ 0 0 kw_K kw_L (kw_gl C (xr_mk M x c)) P
    have hk1 := xr_mk_ok (x := x) (c := c) hk
    refine qa_aload_n (pc1 := 275) dX10_fromPoint_274 rfl rfl rfl ?_
    refine qa_getP (pc1 := 278) dX10_fromPoint_275 rfl wf_X10_38 rfl ko_mo (by omega) (show P 176 11 = 186 from kp_mo hps (by decide : kw_mo 11 ≠ 0)) ?_
    refine qa_bipush (pc1 := 280) dX10_fromPoint_278 (v := (nI 6)) kc_b6N rfl ?_
    refine qa_iload_n (pc1 := 281) dX10_fromPoint_280 rfl rfl rfl ?_
    refine qn_imul (pc1 := 282) dX10_fromPoint_281 rfl ?_
    refine qa_iconst (pc1 := 283) dX10_fromPoint_282 (v := (nI 4)) kc_i4N rfl ?_
    refine qn_iadd (pc1 := 284) dX10_fromPoint_283 rfl ?_
    refine qr_iald (pc1 := 285) dX10_fromPoint_284 rfl ka_m186 rfl (by omega) (by omega) (by omega) ?_
    refine qa_istore (pc1 := 287) dX10_fromPoint_285 (by decide) rfl ?_
    refine qa_aload_n (pc1 := 288) dX10_fromPoint_287 rfl rfl rfl ?_
    refine qa_getP (pc1 := 291) dX10_fromPoint_288 rfl wf_X10_38 rfl ko_mo (by omega) (show P 176 11 = 186 from kp_mo hps (by decide : kw_mo 11 ≠ 0)) ?_
    refine qa_bipush (pc1 := 293) dX10_fromPoint_291 (v := (nI 6)) kc_b6N rfl ?_
    refine qa_iload_n (pc1 := 294) dX10_fromPoint_293 rfl rfl rfl ?_
    refine qn_imul (pc1 := 295) dX10_fromPoint_294 rfl ?_
    refine qa_iconst (pc1 := 296) dX10_fromPoint_295 (v := (nI 5)) kc_i5N rfl ?_
    refine qn_iadd (pc1 := 297) dX10_fromPoint_296 rfl ?_
    refine qr_iald (pc1 := 298) dX10_fromPoint_297 rfl ka_m186 rfl (by omega) (by omega) (by omega) ?_
    refine qa_istore (pc1 := 300) dX10_fromPoint_298 (by decide) rfl ?_
    refine qa_aload_n (pc1 := 301) dX10_fromPoint_300 rfl rfl rfl ?_
    refine qa_getP (pc1 := 304) dX10_fromPoint_301 rfl wf_X10_29 rfl ko_mo (by omega) (show P 176 8 = 183 from kp_mo hps (by decide : kw_mo 8 ≠ 0)) ?_
    refine qa_iconst (pc1 := 305) dX10_fromPoint_304 (v := (nI 4)) kc_i4N rfl ?_
    refine qr_iald (pc1 := 306) dX10_fromPoint_305 rfl ka_m183 rfl (by omega) (by omega) (by decide) ?_
    refine qa_istore (pc1 := 308) dX10_fromPoint_306 (by decide) rfl ?_
    refine qa_aload_n (pc1 := 309) dX10_fromPoint_308 rfl rfl rfl ?_
    refine qa_getP (pc1 := 312) dX10_fromPoint_309 rfl wf_X10_29 rfl ko_mo (by omega) (show P 176 8 = 183 from kp_mo hps (by decide : kw_mo 8 ≠ 0)) ?_
    refine qa_iconst (pc1 := 313) dX10_fromPoint_312 (v := (nI 0)) kc_i0N rfl ?_
    refine qr_iald (pc1 := 314) dX10_fromPoint_313 rfl ka_m183 rfl (by omega) (by omega) (by decide) ?_
    refine qa_if_ne (tgt := 350) (pc1 := 317) dX10_fromPoint_314 rfl rfl (fun h314 => ?_) (fun h314 => ?_)
    · refine qa_aload_n (pc1 := 351) dX10_fromPoint_350 rfl rfl rfl ?_
      refine qa_iconst (pc1 := 352) dX10_fromPoint_351 (v := 2) kc_i2 rfl ?_
      refine qa_iload (pc1 := 354) dX10_fromPoint_352 rfl rfl ?_
      refine qa_aload_n (pc1 := 355) dX10_fromPoint_354 rfl rfl rfl ?_
      refine qa_getP (pc1 := 358) dX10_fromPoint_355 rfl wf_X10_29 rfl ko_mo (by omega) (show P 176 8 = 183 from kp_mo hps (by decide : kw_mo 8 ≠ 0)) ?_
      refine qa_iconst (pc1 := 359) dX10_fromPoint_358 (v := (nI 0)) kc_i0N rfl ?_
      refine qr_iald (pc1 := 360) dX10_fromPoint_359 rfl ka_m183 rfl (by omega) (by omega) (by decide) ?_
      refine qa_iload_n (pc1 := 361) dX10_fromPoint_360 rfl rfl rfl ?_
      refine qa_aload_n (pc1 := 362) dX10_fromPoint_361 rfl rfl rfl ?_
      refine qr_getI (pc1 := 365) dX10_fromPoint_362 rfl wf_X10_120 rfl ko_mo (by omega) (by omega) ?_
      refine qa_top (show _ = nI s0 from by simp [xr_mk, ax_u, hs0]) ?_
      refine qn_isub (pc1 := 366) dX10_fromPoint_365 rfl (by omega) ?_
      refine qa_bipush (pc1 := 368) dX10_fromPoint_366 (v := (nI 8)) kc_b8N rfl ?_
      refine qn_irem (pc1 := 369) dX10_fromPoint_368 rfl (by omega) (by omega) (by omega) ?_
      refine qa_iload (pc1 := 371) dX10_fromPoint_369 rfl rfl ?_
      refine qa_aload_n (pc1 := 372) dX10_fromPoint_371 rfl rfl rfl ?_
      refine qa_getP (pc1 := 375) dX10_fromPoint_372 rfl wf_X10_29 rfl ko_mo (by omega) (show P 176 8 = 183 from kp_mo hps (by decide : kw_mo 8 ≠ 0)) ?_
      refine qa_iconst (pc1 := 376) dX10_fromPoint_375 (v := (nI 3)) kc_i3N rfl ?_
      refine qr_iald (pc1 := 377) dX10_fromPoint_376 rfl ka_m183 rfl (by omega) (by omega) (by decide) ?_
      refine qa_iload (pc1 := 379) dX10_fromPoint_377 rfl rfl ?_
      refine qa_callVv (pc1 := 382) dX10_fromPoint_379 rfl (rt_snd hps (by assumption) _ _ _ _ _ _ _ (by assumption)) wc_X10_102 wy_X10_put rfl rfl (ci := k_mo) rfl ko_mo (by omega) rfl ?_
      refine qa_iload_n (pc1 := 383) dX10_fromPoint_382 rfl rfl rfl ?_
      refine qt_if_eq (tgt := 390) dX10_fromPoint_383 rfl rfl ?_
      refine qa_iconst (pc1 := 391) dX10_fromPoint_390 (v := 1) kc_i1 rfl ?_
      exact qa_iret dX10_fromPoint_391 rfl (vp_nar_int _) rfl rfl (by simp only [xr_ho, xr_hb]; grind) rfl
    · refine qa_iload (pc1 := 319) dX10_fromPoint_317 rfl rfl ?_
      refine qa_aload_n (pc1 := 320) dX10_fromPoint_319 rfl rfl rfl ?_
      refine qa_iconst (pc1 := 321) dX10_fromPoint_320 (v := 2) kc_i2 rfl ?_
      refine qa_iload_n (pc1 := 322) dX10_fromPoint_321 rfl rfl rfl ?_
      refine qa_callVi (pc1 := 325) dX10_fromPoint_322 rfl (rt_keyAt hps _ _ (by assumption)) wc_X10_65 wy_X10_keyAt rfl rfl (ci := k_mo) rfl ko_mo (by omega) rfl ?_
      refine qa_aload_n (pc1 := 326) dX10_fromPoint_325 rfl rfl rfl ?_
      refine qa_getP (pc1 := 329) dX10_fromPoint_326 rfl wf_X10_29 rfl ko_mo (by omega) (show P 176 8 = 183 from kp_mo hps (by decide : kw_mo 8 ≠ 0)) ?_
      refine qa_iconst (pc1 := 330) dX10_fromPoint_329 (v := (nI 2)) kc_i2N rfl ?_
      refine qr_iald (pc1 := 331) dX10_fromPoint_330 rfl ka_m183 rfl (by omega) (by omega) (by decide) ?_
      refine qa_callSi (pc1 := 334) dX10_fromPoint_331 rfl (rt_mix _ _) wc_X10_57 wy_X10_mix rfl rfl rfl ?_
      refine qa_ixor (pc1 := 335) dX10_fromPoint_334 rfl ?_
      refine qa_aload_n (pc1 := 336) dX10_fromPoint_335 rfl rfl rfl ?_
      refine qa_iconst (pc1 := 337) dX10_fromPoint_336 (v := 2) kc_i2 rfl ?_
      refine qa_iload (pc1 := 339) dX10_fromPoint_337 rfl rfl ?_
      refine qa_callVi (pc1 := 342) dX10_fromPoint_339 rfl (rt_keyAt hps _ _ (by assumption)) wc_X10_65 wy_X10_keyAt rfl rfl (ci := k_mo) rfl ko_mo (by omega) rfl ?_
      refine qa_iload (pc1 := 344) dX10_fromPoint_342 rfl rfl ?_
      refine qa_callSi (pc1 := 347) dX10_fromPoint_344 rfl (rt_mix _ _) wc_X10_57 wy_X10_mix rfl rfl rfl ?_
      refine qa_ixor (pc1 := 348) dX10_fromPoint_347 rfl ?_
      refine qa_istore (pc1 := 350) dX10_fromPoint_348 (by decide) rfl ?_
      refine qa_aload_n (pc1 := 351) dX10_fromPoint_350 rfl rfl rfl ?_
      refine qa_iconst (pc1 := 352) dX10_fromPoint_351 (v := 2) kc_i2 rfl ?_
      refine qa_iload (pc1 := 354) dX10_fromPoint_352 rfl rfl ?_
      refine qa_aload_n (pc1 := 355) dX10_fromPoint_354 rfl rfl rfl ?_
      refine qa_getP (pc1 := 358) dX10_fromPoint_355 rfl wf_X10_29 rfl ko_mo (by omega) (show P 176 8 = 183 from kp_mo hps (by decide : kw_mo 8 ≠ 0)) ?_
      refine qa_iconst (pc1 := 359) dX10_fromPoint_358 (v := (nI 0)) kc_i0N rfl ?_
      refine qr_iald (pc1 := 360) dX10_fromPoint_359 rfl ka_m183 rfl (by omega) (by omega) (by decide) ?_
      refine qa_iload_n (pc1 := 361) dX10_fromPoint_360 rfl rfl rfl ?_
      refine qa_aload_n (pc1 := 362) dX10_fromPoint_361 rfl rfl rfl ?_
      refine qr_getI (pc1 := 365) dX10_fromPoint_362 rfl wf_X10_120 rfl ko_mo (by omega) (by omega) ?_
      refine qa_top (show _ = nI s0 from by simp [xr_mk, ax_u, hs0]) ?_
      refine qn_isub (pc1 := 366) dX10_fromPoint_365 rfl (by omega) ?_
      refine qa_bipush (pc1 := 368) dX10_fromPoint_366 (v := (nI 8)) kc_b8N rfl ?_
      refine qn_irem (pc1 := 369) dX10_fromPoint_368 rfl (by omega) (by omega) (by omega) ?_
      refine qa_iload (pc1 := 371) dX10_fromPoint_369 rfl rfl ?_
      refine qa_aload_n (pc1 := 372) dX10_fromPoint_371 rfl rfl rfl ?_
      refine qa_getP (pc1 := 375) dX10_fromPoint_372 rfl wf_X10_29 rfl ko_mo (by omega) (show P 176 8 = 183 from kp_mo hps (by decide : kw_mo 8 ≠ 0)) ?_
      refine qa_iconst (pc1 := 376) dX10_fromPoint_375 (v := (nI 3)) kc_i3N rfl ?_
      refine qr_iald (pc1 := 377) dX10_fromPoint_376 rfl ka_m183 rfl (by omega) (by omega) (by decide) ?_
      refine qa_iload (pc1 := 379) dX10_fromPoint_377 rfl rfl ?_
      refine qa_callVv (pc1 := 382) dX10_fromPoint_379 rfl (rt_snd hps (by assumption) _ _ _ _ _ _ _ (by assumption)) wc_X10_102 wy_X10_put rfl rfl (ci := k_mo) rfl ko_mo (by omega) rfl ?_
      refine qa_iload_n (pc1 := 383) dX10_fromPoint_382 rfl rfl rfl ?_
      refine qt_if_eq (tgt := 390) dX10_fromPoint_383 rfl rfl ?_
      refine qa_iconst (pc1 := 391) dX10_fromPoint_390 (v := 1) kc_i1 rfl ?_
      exact qa_iret dX10_fromPoint_391 rfl (vp_nar_int _) rfl rfl (by simp only [xr_ho, xr_hb]; grind) rfl
  refine qa_aload_n (pc1 := 1) dX10_fromPoint_0 rfl rfl rfl ?_
  refine qa_getP (pc1 := 4) dX10_fromPoint_1 rfl wf_X10_29 rfl ko_mo (by omega) (show P 176 8 = 183 from kp_mo hps (by decide : kw_mo 8 ≠ 0)) ?_
  refine qa_iconst (pc1 := 5) dX10_fromPoint_4 (v := (nI 0)) kc_i0N rfl ?_
  refine qr_iald (pc1 := 6) dX10_fromPoint_5 rfl ka_m183 rfl (by omega) (by omega) (by decide) ?_
  refine qa_callSi (pc1 := 9) dX10_fromPoint_6 rfl (rt_request _) wc_X10_68 wy_X10_request rfl rfl rfl ?_
  refine qf_if_eq (tgt := 25) (pc1 := 12) dX10_fromPoint_9 rfl rfl (kw_b1.mpr hq.1) ?_
  refine qa_aload_n (pc1 := 13) dX10_fromPoint_12 rfl rfl rfl ?_
  refine qa_aload_n (pc1 := 14) dX10_fromPoint_13 rfl rfl rfl ?_
  refine qa_getP (pc1 := 17) dX10_fromPoint_14 rfl wf_X10_29 rfl ko_mo (by omega) (show P 176 8 = 183 from kp_mo hps (by decide : kw_mo 8 ≠ 0)) ?_
  refine qa_iconst (pc1 := 18) dX10_fromPoint_17 (v := (nI 2)) kc_i2N rfl ?_
  refine qr_iald (pc1 := 19) dX10_fromPoint_18 rfl ka_m183 rfl (by omega) (by omega) (by decide) ?_
  refine qa_callVi (pc1 := 22) dX10_fromPoint_19 rfl (rt_right hps _ (by assumption)) wc_X10_117 wy_X10_right rfl rfl (ci := k_mo) rfl ko_mo (by omega) rfl ?_
  refine qt_if_ne (tgt := 27) dX10_fromPoint_22 rfl (kw_b1.mpr hq.2) ?_
  refine qa_iconst (pc1 := 28) dX10_fromPoint_27 (v := (-1)) kc_im1 rfl ?_
  refine qa_istore_n (pc1 := 29) dX10_fromPoint_28 rfl (by decide) rfl ?_
  refine qa_aload_n (pc1 := 30) dX10_fromPoint_29 rfl rfl rfl ?_
  refine qr_getI (pc1 := 33) dX10_fromPoint_30 rfl wf_X10_120 rfl ko_mo (by omega) (by omega) ?_
  refine qa_top hs0 ?_
  refine qa_istore_n (pc1 := 34) dX10_fromPoint_33 rfl (by decide) rfl ?_
  exact qa_ls (by exact (kw_lsc rfl (kw_lsc rfl (kw_lsc rfl (kw_lsc rfl kw_lsn))))) (rt_fpl hps hc (by omega) x _ k148 s0 hsc (-1) he)
set_option maxRecDepth 20000 in
set_option maxHeartbeats 4000000 in
theorem rt_fp2 (hps : kw_ps P) (hk : xr_nok M) {c s0 : Nat} (hc : M 176 12 = nI c) (hs0 : M 176 13 = nI s0) (hsc : s0 ≤ c) (x : Int32) (hl : xr_lk (M 183 7) (M 183 6)) (hq : xr_rq M) (hlx : xr_lk 2 x) {e : Nat} (hc5 : c ≤ 512) (hse : s0 ≤ e) (hec : e < c) (he : kw_lst (xr_fc M x) s0 (c - s0) (-1) = nI e) (hlh : xr_lk 2 (M 186 (6 * e + 4))) : kw_C l D aC b yX10_fromPoint cX10_fromPoint 7 (some .int) 6 [.inr (.inl 176), .inl x] C M P (some (.inl 2)) C (xr_ho M x e s0) P := by
  refine ax_body (own := RX10) (ini := false) (by decide) rfl (fun h => by cases h) (Nat.le_of_ble_eq_true rfl) ?_
  have k148 : ax_G l D aC b RX10 cX10_fromPoint 7 (some .int) false (kw_rm 6) 191 (ax_F D aC b 191 0 0 (kw_R (some (.inl 2)) kw_K kw_L (kw_gl C (xr_ho M x e s0)) P)) (fun _ => True) 148 [(2, .inl (nI e)), (0, .inr (.inl 176)), (1, .inl x)] [] 0 0 kw_K kw_L (kw_gl C M) P := by
    refine qa_iload_n (pc1 := 149) dX10_fromPoint_148 rfl rfl rfl ?_
    refine qn_if_lt (tgt := 156) (pc1 := 152) dX10_fromPoint_149 rfl rfl (by omega) ?_
    refine qa_iconst (pc1 := 153) dX10_fromPoint_152 (v := 1) kc_i1 rfl ?_
    refine qa_goto (tgt := 157) dX10_fromPoint_153 rfl ?_
    refine qa_istore_n (pc1 := 158) dX10_fromPoint_157 rfl (by decide) rfl ?_
    refine qa_iload_n (pc1 := 159) dX10_fromPoint_158 rfl rfl rfl ?_
    refine qt_if_ne (tgt := 274) dX10_fromPoint_159 rfl (by decide) ?_
    refine qa_aload_n (pc1 := 275) dX10_fromPoint_274 rfl rfl rfl ?_
    refine qa_getP (pc1 := 278) dX10_fromPoint_275 rfl wf_X10_38 rfl ko_mo (by omega) (show P 176 11 = 186 from kp_mo hps (by decide : kw_mo 11 ≠ 0)) ?_
    refine qa_bipush (pc1 := 280) dX10_fromPoint_278 (v := (nI 6)) kc_b6N rfl ?_
    refine qa_iload_n (pc1 := 281) dX10_fromPoint_280 rfl rfl rfl ?_
    refine qn_imul (pc1 := 282) dX10_fromPoint_281 rfl ?_
    refine qa_iconst (pc1 := 283) dX10_fromPoint_282 (v := (nI 4)) kc_i4N rfl ?_
    refine qn_iadd (pc1 := 284) dX10_fromPoint_283 rfl ?_
    refine qr_iald (pc1 := 285) dX10_fromPoint_284 rfl ka_m186 rfl (by omega) (by omega) (by omega) ?_
    refine qa_istore (pc1 := 287) dX10_fromPoint_285 (by decide) rfl ?_
    refine qa_aload_n (pc1 := 288) dX10_fromPoint_287 rfl rfl rfl ?_
    refine qa_getP (pc1 := 291) dX10_fromPoint_288 rfl wf_X10_38 rfl ko_mo (by omega) (show P 176 11 = 186 from kp_mo hps (by decide : kw_mo 11 ≠ 0)) ?_
    refine qa_bipush (pc1 := 293) dX10_fromPoint_291 (v := (nI 6)) kc_b6N rfl ?_
    refine qa_iload_n (pc1 := 294) dX10_fromPoint_293 rfl rfl rfl ?_
    refine qn_imul (pc1 := 295) dX10_fromPoint_294 rfl ?_
    refine qa_iconst (pc1 := 296) dX10_fromPoint_295 (v := (nI 5)) kc_i5N rfl ?_
    refine qn_iadd (pc1 := 297) dX10_fromPoint_296 rfl ?_
    refine qr_iald (pc1 := 298) dX10_fromPoint_297 rfl ka_m186 rfl (by omega) (by omega) (by omega) ?_
    refine qa_istore (pc1 := 300) dX10_fromPoint_298 (by decide) rfl ?_
    refine qa_aload_n (pc1 := 301) dX10_fromPoint_300 rfl rfl rfl ?_
    refine qa_getP (pc1 := 304) dX10_fromPoint_301 rfl wf_X10_29 rfl ko_mo (by omega) (show P 176 8 = 183 from kp_mo hps (by decide : kw_mo 8 ≠ 0)) ?_
    refine qa_iconst (pc1 := 305) dX10_fromPoint_304 (v := (nI 4)) kc_i4N rfl ?_
    refine qr_iald (pc1 := 306) dX10_fromPoint_305 rfl ka_m183 rfl (by omega) (by omega) (by decide) ?_
    refine qa_istore (pc1 := 308) dX10_fromPoint_306 (by decide) rfl ?_
    refine qa_aload_n (pc1 := 309) dX10_fromPoint_308 rfl rfl rfl ?_
    refine qa_getP (pc1 := 312) dX10_fromPoint_309 rfl wf_X10_29 rfl ko_mo (by omega) (show P 176 8 = 183 from kp_mo hps (by decide : kw_mo 8 ≠ 0)) ?_
    refine qa_iconst (pc1 := 313) dX10_fromPoint_312 (v := (nI 0)) kc_i0N rfl ?_
    refine qr_iald (pc1 := 314) dX10_fromPoint_313 rfl ka_m183 rfl (by omega) (by omega) (by decide) ?_
    refine qa_if_ne (tgt := 350) (pc1 := 317) dX10_fromPoint_314 rfl rfl (fun h314 => ?_) (fun h314 => ?_)
    · refine qa_aload_n (pc1 := 351) dX10_fromPoint_350 rfl rfl rfl ?_
      refine qa_iconst (pc1 := 352) dX10_fromPoint_351 (v := 2) kc_i2 rfl ?_
      refine qa_iload (pc1 := 354) dX10_fromPoint_352 rfl rfl ?_
      refine qa_aload_n (pc1 := 355) dX10_fromPoint_354 rfl rfl rfl ?_
      refine qa_getP (pc1 := 358) dX10_fromPoint_355 rfl wf_X10_29 rfl ko_mo (by omega) (show P 176 8 = 183 from kp_mo hps (by decide : kw_mo 8 ≠ 0)) ?_
      refine qa_iconst (pc1 := 359) dX10_fromPoint_358 (v := (nI 0)) kc_i0N rfl ?_
      refine qr_iald (pc1 := 360) dX10_fromPoint_359 rfl ka_m183 rfl (by omega) (by omega) (by decide) ?_
      refine qa_iload_n (pc1 := 361) dX10_fromPoint_360 rfl rfl rfl ?_
      refine qa_aload_n (pc1 := 362) dX10_fromPoint_361 rfl rfl rfl ?_
      refine qr_getI (pc1 := 365) dX10_fromPoint_362 rfl wf_X10_120 rfl ko_mo (by omega) (by omega) ?_
      refine qa_top hs0 ?_
      refine qn_isub (pc1 := 366) dX10_fromPoint_365 rfl (by omega) ?_
      refine qa_bipush (pc1 := 368) dX10_fromPoint_366 (v := (nI 8)) kc_b8N rfl ?_
      refine qn_irem (pc1 := 369) dX10_fromPoint_368 rfl (by omega) (by omega) (by omega) ?_
      refine qa_iload (pc1 := 371) dX10_fromPoint_369 rfl rfl ?_
      refine qa_aload_n (pc1 := 372) dX10_fromPoint_371 rfl rfl rfl ?_
      refine qa_getP (pc1 := 375) dX10_fromPoint_372 rfl wf_X10_29 rfl ko_mo (by omega) (show P 176 8 = 183 from kp_mo hps (by decide : kw_mo 8 ≠ 0)) ?_
      refine qa_iconst (pc1 := 376) dX10_fromPoint_375 (v := (nI 3)) kc_i3N rfl ?_
      refine qr_iald (pc1 := 377) dX10_fromPoint_376 rfl ka_m183 rfl (by omega) (by omega) (by decide) ?_
      refine qa_iload (pc1 := 379) dX10_fromPoint_377 rfl rfl ?_
      refine qa_callVv (pc1 := 382) dX10_fromPoint_379 rfl (rt_snd hps (by assumption) _ _ _ _ _ _ _ (by assumption)) wc_X10_102 wy_X10_put rfl rfl (ci := k_mo) rfl ko_mo (by omega) rfl ?_
      refine qa_iload_n (pc1 := 383) dX10_fromPoint_382 rfl rfl rfl ?_
      refine qf_if_eq (tgt := 390) (pc1 := 386) dX10_fromPoint_383 rfl rfl (by decide) ?_
      refine qa_iconst (pc1 := 387) dX10_fromPoint_386 (v := 2) kc_i2 rfl ?_
      refine qa_goto (tgt := 391) dX10_fromPoint_387 rfl ?_
      exact qa_iret dX10_fromPoint_391 rfl (vp_nar_int _) rfl rfl (by simp only [xr_ho, xr_hb]; grind) rfl
    · refine qa_iload (pc1 := 319) dX10_fromPoint_317 rfl rfl ?_
      refine qa_aload_n (pc1 := 320) dX10_fromPoint_319 rfl rfl rfl ?_
      refine qa_iconst (pc1 := 321) dX10_fromPoint_320 (v := 2) kc_i2 rfl ?_
      refine qa_iload_n (pc1 := 322) dX10_fromPoint_321 rfl rfl rfl ?_
      refine qa_callVi (pc1 := 325) dX10_fromPoint_322 rfl (rt_keyAt hps _ _ (by assumption)) wc_X10_65 wy_X10_keyAt rfl rfl (ci := k_mo) rfl ko_mo (by omega) rfl ?_
      refine qa_aload_n (pc1 := 326) dX10_fromPoint_325 rfl rfl rfl ?_
      refine qa_getP (pc1 := 329) dX10_fromPoint_326 rfl wf_X10_29 rfl ko_mo (by omega) (show P 176 8 = 183 from kp_mo hps (by decide : kw_mo 8 ≠ 0)) ?_
      refine qa_iconst (pc1 := 330) dX10_fromPoint_329 (v := (nI 2)) kc_i2N rfl ?_
      refine qr_iald (pc1 := 331) dX10_fromPoint_330 rfl ka_m183 rfl (by omega) (by omega) (by decide) ?_
      refine qa_callSi (pc1 := 334) dX10_fromPoint_331 rfl (rt_mix _ _) wc_X10_57 wy_X10_mix rfl rfl rfl ?_
      refine qa_ixor (pc1 := 335) dX10_fromPoint_334 rfl ?_
      refine qa_aload_n (pc1 := 336) dX10_fromPoint_335 rfl rfl rfl ?_
      refine qa_iconst (pc1 := 337) dX10_fromPoint_336 (v := 2) kc_i2 rfl ?_
      refine qa_iload (pc1 := 339) dX10_fromPoint_337 rfl rfl ?_
      refine qa_callVi (pc1 := 342) dX10_fromPoint_339 rfl (rt_keyAt hps _ _ (by assumption)) wc_X10_65 wy_X10_keyAt rfl rfl (ci := k_mo) rfl ko_mo (by omega) rfl ?_
      refine qa_iload (pc1 := 344) dX10_fromPoint_342 rfl rfl ?_
      refine qa_callSi (pc1 := 347) dX10_fromPoint_344 rfl (rt_mix _ _) wc_X10_57 wy_X10_mix rfl rfl rfl ?_
      refine qa_ixor (pc1 := 348) dX10_fromPoint_347 rfl ?_
      refine qa_istore (pc1 := 350) dX10_fromPoint_348 (by decide) rfl ?_
      refine qa_aload_n (pc1 := 351) dX10_fromPoint_350 rfl rfl rfl ?_
      refine qa_iconst (pc1 := 352) dX10_fromPoint_351 (v := 2) kc_i2 rfl ?_
      refine qa_iload (pc1 := 354) dX10_fromPoint_352 rfl rfl ?_
      refine qa_aload_n (pc1 := 355) dX10_fromPoint_354 rfl rfl rfl ?_
      refine qa_getP (pc1 := 358) dX10_fromPoint_355 rfl wf_X10_29 rfl ko_mo (by omega) (show P 176 8 = 183 from kp_mo hps (by decide : kw_mo 8 ≠ 0)) ?_
      refine qa_iconst (pc1 := 359) dX10_fromPoint_358 (v := (nI 0)) kc_i0N rfl ?_
      refine qr_iald (pc1 := 360) dX10_fromPoint_359 rfl ka_m183 rfl (by omega) (by omega) (by decide) ?_
      refine qa_iload_n (pc1 := 361) dX10_fromPoint_360 rfl rfl rfl ?_
      refine qa_aload_n (pc1 := 362) dX10_fromPoint_361 rfl rfl rfl ?_
      refine qr_getI (pc1 := 365) dX10_fromPoint_362 rfl wf_X10_120 rfl ko_mo (by omega) (by omega) ?_
      refine qa_top hs0 ?_
      refine qn_isub (pc1 := 366) dX10_fromPoint_365 rfl (by omega) ?_
      refine qa_bipush (pc1 := 368) dX10_fromPoint_366 (v := (nI 8)) kc_b8N rfl ?_
      refine qn_irem (pc1 := 369) dX10_fromPoint_368 rfl (by omega) (by omega) (by omega) ?_
      refine qa_iload (pc1 := 371) dX10_fromPoint_369 rfl rfl ?_
      refine qa_aload_n (pc1 := 372) dX10_fromPoint_371 rfl rfl rfl ?_
      refine qa_getP (pc1 := 375) dX10_fromPoint_372 rfl wf_X10_29 rfl ko_mo (by omega) (show P 176 8 = 183 from kp_mo hps (by decide : kw_mo 8 ≠ 0)) ?_
      refine qa_iconst (pc1 := 376) dX10_fromPoint_375 (v := (nI 3)) kc_i3N rfl ?_
      refine qr_iald (pc1 := 377) dX10_fromPoint_376 rfl ka_m183 rfl (by omega) (by omega) (by decide) ?_
      refine qa_iload (pc1 := 379) dX10_fromPoint_377 rfl rfl ?_
      refine qa_callVv (pc1 := 382) dX10_fromPoint_379 rfl (rt_snd hps (by assumption) _ _ _ _ _ _ _ (by assumption)) wc_X10_102 wy_X10_put rfl rfl (ci := k_mo) rfl ko_mo (by omega) rfl ?_
      refine qa_iload_n (pc1 := 383) dX10_fromPoint_382 rfl rfl rfl ?_
      refine qf_if_eq (tgt := 390) (pc1 := 386) dX10_fromPoint_383 rfl rfl (by decide) ?_
      refine qa_iconst (pc1 := 387) dX10_fromPoint_386 (v := 2) kc_i2 rfl ?_
      refine qa_goto (tgt := 391) dX10_fromPoint_387 rfl ?_
      exact qa_iret dX10_fromPoint_391 rfl (vp_nar_int _) rfl rfl (by simp only [xr_ho, xr_hb]; grind) rfl
  refine qa_aload_n (pc1 := 1) dX10_fromPoint_0 rfl rfl rfl ?_
  refine qa_getP (pc1 := 4) dX10_fromPoint_1 rfl wf_X10_29 rfl ko_mo (by omega) (show P 176 8 = 183 from kp_mo hps (by decide : kw_mo 8 ≠ 0)) ?_
  refine qa_iconst (pc1 := 5) dX10_fromPoint_4 (v := (nI 0)) kc_i0N rfl ?_
  refine qr_iald (pc1 := 6) dX10_fromPoint_5 rfl ka_m183 rfl (by omega) (by omega) (by decide) ?_
  refine qa_callSi (pc1 := 9) dX10_fromPoint_6 rfl (rt_request _) wc_X10_68 wy_X10_request rfl rfl rfl ?_
  refine qf_if_eq (tgt := 25) (pc1 := 12) dX10_fromPoint_9 rfl rfl (kw_b1.mpr hq.1) ?_
  refine qa_aload_n (pc1 := 13) dX10_fromPoint_12 rfl rfl rfl ?_
  refine qa_aload_n (pc1 := 14) dX10_fromPoint_13 rfl rfl rfl ?_
  refine qa_getP (pc1 := 17) dX10_fromPoint_14 rfl wf_X10_29 rfl ko_mo (by omega) (show P 176 8 = 183 from kp_mo hps (by decide : kw_mo 8 ≠ 0)) ?_
  refine qa_iconst (pc1 := 18) dX10_fromPoint_17 (v := (nI 2)) kc_i2N rfl ?_
  refine qr_iald (pc1 := 19) dX10_fromPoint_18 rfl ka_m183 rfl (by omega) (by omega) (by decide) ?_
  refine qa_callVi (pc1 := 22) dX10_fromPoint_19 rfl (rt_right hps _ (by assumption)) wc_X10_117 wy_X10_right rfl rfl (ci := k_mo) rfl ko_mo (by omega) rfl ?_
  refine qt_if_ne (tgt := 27) dX10_fromPoint_22 rfl (kw_b1.mpr hq.2) ?_
  refine qa_iconst (pc1 := 28) dX10_fromPoint_27 (v := (-1)) kc_im1 rfl ?_
  refine qa_istore_n (pc1 := 29) dX10_fromPoint_28 rfl (by decide) rfl ?_
  refine qa_aload_n (pc1 := 30) dX10_fromPoint_29 rfl rfl rfl ?_
  refine qr_getI (pc1 := 33) dX10_fromPoint_30 rfl wf_X10_120 rfl ko_mo (by omega) (by omega) ?_
  refine qa_top hs0 ?_
  refine qa_istore_n (pc1 := 34) dX10_fromPoint_33 rfl (by decide) rfl ?_
  exact qa_ls (by exact (kw_lsc rfl (kw_lsc rfl (kw_lsc rfl (kw_lsc rfl kw_lsn))))) (rt_fpl hps hc (by omega) x _ k148 s0 hsc (-1) he)
set_option maxRecDepth 20000 in
set_option maxHeartbeats 4000000 in
theorem rt_fh0 (hps : kw_ps P) (x : Int32) (hq : ¬ (M 183 0 = 1 ∨ M 183 0 = 2 ∨ M 183 0 = 4)) : kw_C l D aC b yX10_fromHome cX10_fromHome 5 (some .int) 6 [.inr (.inl 176), .inl x] C M P (some (.inl 0)) C M P := by
  refine ax_body (own := RX10) (ini := false) (by decide) rfl (fun h => by cases h) (Nat.le_of_ble_eq_true rfl) ?_
  refine qa_aload_n (pc1 := 1) dX10_fromHome_0 rfl rfl rfl ?_
  refine qa_getP (pc1 := 4) dX10_fromHome_1 rfl wf_X10_29 rfl ko_mo (by omega) (show P 176 8 = 183 from kp_mo hps (by decide : kw_mo 8 ≠ 0)) ?_
  refine qa_iconst (pc1 := 5) dX10_fromHome_4 (v := (nI 0)) kc_i0N rfl ?_
  refine qr_iald (pc1 := 6) dX10_fromHome_5 rfl ka_m183 rfl (by omega) (by omega) (by decide) ?_
  refine qa_callSi (pc1 := 9) dX10_fromHome_6 rfl (rt_answers _) wc_X10_126 wy_X10_answers rfl rfl rfl ?_
  refine qf_if_ne (tgt := 14) (pc1 := 12) dX10_fromHome_9 rfl rfl (kw_bf hq) ?_
  refine qa_iconst (pc1 := 13) dX10_fromHome_12 (v := 0) kc_i0 rfl ?_
  exact qa_iret dX10_fromHome_13 rfl (vp_nar_int _) rfl rfl rfl rfl
set_option maxRecDepth 20000 in
set_option maxHeartbeats 4000000 in
theorem rt_fh1 (hps : kw_ps P) (hk : xr_nok M) {c s0 : Nat} (hc : M 176 12 = nI c) (hs0 : M 176 13 = nI s0) (hsc : s0 ≤ c) (hc5 : c ≤ 512) (x : Int32) (hl : xr_lk (M 183 7) (M 183 6)) (hq : M 183 0 = 1 ∨ M 183 0 = 2 ∨ M 183 0 = 4) (hle : ∀ e, s0 ≤ e → e < c → xr_lk 2 (M 186 (6 * e))) : kw_C l D aC b yX10_fromHome cX10_fromHome 5 (some .int) 6 [.inr (.inl 176), .inl x] C M P (some (.inl (xr_fhn M x s0 c))) C (xr_fhm M x s0 c) P := by
  refine ax_body (own := RX10) (ini := false) (by decide) rfl (fun h => by cases h) (Nat.le_of_ble_eq_true rfl) ?_
  have loop : ∀ e, s0 ≤ e → e ≤ c → kw_first (xr_hc M x s0) e (c - e) = kw_first (xr_hc M x s0) s0 (c - s0) → ax_G l D aC b RX10 cX10_fromHome 5 (some .int) false (kw_rm 6) 191 (ax_F D aC b 191 0 0 (kw_R (some (.inl (xr_fhn M x s0 c))) kw_K kw_L (kw_gl C (xr_fhm M x s0 c)) P)) (fun _ => True) 19 [(2, .inl (nI e)), (0, .inr (.inl 176)), (1, .inl x)] [] 0 0 kw_K kw_L (kw_gl C M) P := by
    refine kw_loop c (fun e ih hse hec hf => ?_)
    refine qa_iload_n (pc1 := 20) dX10_fromHome_19 rfl rfl rfl ?_
    refine qa_aload_n (pc1 := 21) dX10_fromHome_20 rfl rfl rfl ?_
    refine qr_getI (pc1 := 24) dX10_fromHome_21 rfl wf_X10_123 rfl ko_mo (by omega) (by omega) ?_
    refine qa_top hc ?_
    refine qn_ic_ge (tgt := 153) (pc1 := 27) dX10_fromHome_24 rfl rfl (by omega) (by omega) (fun h24 => ?_) (fun h24 => ?_)
    · refine qa_iconst (pc1 := 154) dX10_fromHome_153 (v := 0) kc_i0 rfl ?_
      have hft : kw_first (xr_hc M x s0) s0 (c - s0) = none := by rw [← hf, show c - e = 0 from by omega]; rfl
      exact qa_iret dX10_fromHome_154 rfl (vp_nar_int _) (by rw [xr_fhn, hft]) rfl (by rw [xr_fhm, hft]) rfl
    · have he5 : e < 512 := by omega
      refine qa_bipush (pc1 := 29) dX10_fromHome_27 (v := (nI 6)) kc_b6N rfl ?_
      refine qa_iload_n (pc1 := 30) dX10_fromHome_29 rfl rfl rfl ?_
      refine qn_imul (pc1 := 31) dX10_fromHome_30 rfl ?_
      refine qa_istore_n (pc1 := 32) dX10_fromHome_31 rfl (by decide) rfl ?_
      refine qa_iload_n (pc1 := 33) dX10_fromHome_32 rfl rfl rfl ?_
      refine qa_aload_n (pc1 := 34) dX10_fromHome_33 rfl rfl rfl ?_
      refine qr_getI (pc1 := 37) dX10_fromHome_34 rfl wf_X10_123 rfl ko_mo (by omega) (by omega) ?_
      refine qa_bipush (pc1 := 39) dX10_fromHome_37 (v := 8) kc_b8 rfl ?_
      refine qa_isub (pc1 := 40) dX10_fromHome_39 rfl ?_
      refine qa_ic_lt (tgt := 65) (pc1 := 43) dX10_fromHome_40 rfl rfl (fun h40 => ?_) (fun h40 => ?_)
      · refine qa_iconst (pc1 := 66) dX10_fromHome_65 (v := 0) kc_i0 rfl ?_
        refine qa_istore (pc1 := 68) dX10_fromHome_66 (by decide) rfl ?_
        refine qa_iload (pc1 := 70) dX10_fromHome_68 rfl rfl ?_
        refine qa_if_eq (tgt := 147) (pc1 := 73) dX10_fromHome_70 rfl rfl (fun h70 => ?_) (fun h70 => ?_)
        · refine qa_iincN (pc1 := 150) dX10_fromHome_147 rfl (by decide) rfl ?_
          refine qa_goto (tgt := 19) dX10_fromHome_150 rfl ?_
          exact qa_ls (by exact (kw_lsc rfl (kw_lsc rfl (kw_lsc rfl kw_lsn)))) (ih (by omega) (by omega) (by omega) ((kw_first_f (by omega) (by clear ih hf; simp only [xr_hc, decide_eq_true_eq]; grind)).symm.trans hf))
        · refine qa_aload_n (pc1 := 74) dX10_fromHome_73 rfl rfl rfl ?_
          refine qa_getP (pc1 := 77) dX10_fromHome_74 rfl wf_X10_38 rfl ko_mo (by omega) (show P 176 11 = 186 from kp_mo hps (by decide : kw_mo 11 ≠ 0)) ?_
          refine qa_iload_n (pc1 := 78) dX10_fromHome_77 rfl rfl rfl ?_
          refine qa_iconst (pc1 := 79) dX10_fromHome_78 (v := (nI 4)) kc_i4N rfl ?_
          refine qn_iadd (pc1 := 80) dX10_fromHome_79 rfl ?_
          refine qr_iald (pc1 := 81) dX10_fromHome_80 rfl ka_m186 rfl (by omega) (by omega) (by omega) ?_
          refine qa_iload_n (pc1 := 82) dX10_fromHome_81 rfl rfl rfl ?_
          refine qa_ic_ne (tgt := 147) (pc1 := 85) dX10_fromHome_82 rfl rfl (fun h82 => ?_) (fun h82 => ?_)
          · refine qa_iincN (pc1 := 150) dX10_fromHome_147 rfl (by decide) rfl ?_
            refine qa_goto (tgt := 19) dX10_fromHome_150 rfl ?_
            exact qa_ls (by exact (kw_lsc rfl (kw_lsc rfl (kw_lsc rfl kw_lsn)))) (ih (by omega) (by omega) (by omega) ((kw_first_f (by omega) (by clear ih hf; simp only [xr_hc, decide_eq_true_eq]; grind)).symm.trans hf))
          · refine qa_aload_n (pc1 := 86) dX10_fromHome_85 rfl rfl rfl ?_
            refine qa_aload_n (pc1 := 87) dX10_fromHome_86 rfl rfl rfl ?_
            refine qa_getP (pc1 := 90) dX10_fromHome_87 rfl wf_X10_38 rfl ko_mo (by omega) (show P 176 11 = 186 from kp_mo hps (by decide : kw_mo 11 ≠ 0)) ?_
            refine qa_iload_n (pc1 := 91) dX10_fromHome_90 rfl rfl rfl ?_
            refine qa_iconst (pc1 := 92) dX10_fromHome_91 (v := (nI 5)) kc_i5N rfl ?_
            refine qn_iadd (pc1 := 93) dX10_fromHome_92 rfl ?_
            refine qr_iald (pc1 := 94) dX10_fromHome_93 rfl ka_m186 rfl (by omega) (by omega) (by omega) ?_
            refine qa_callVi (pc1 := 97) dX10_fromHome_94 rfl (rt_right hps _ (by assumption)) wc_X10_117 wy_X10_right rfl rfl (ci := k_mo) rfl ko_mo (by omega) rfl ?_
            refine qb_if_eq (tgt := 147) (pc1 := 100) dX10_fromHome_97 rfl rfl (fun h97 => ?_) (fun h97 => ?_)
            · refine qa_iincN (pc1 := 150) dX10_fromHome_147 rfl (by decide) rfl ?_
              refine qa_goto (tgt := 19) dX10_fromHome_150 rfl ?_
              exact qa_ls (by exact (kw_lsc rfl (kw_lsc rfl (kw_lsc rfl kw_lsn)))) (ih (by omega) (by omega) (by omega) ((kw_first_f (by omega) (by clear ih hf; simp only [xr_hc, decide_eq_true_eq]; grind)).symm.trans hf))
            · have hle1 := hle e (by omega) (by omega)
              refine qa_aload_n (pc1 := 101) dX10_fromHome_100 rfl rfl rfl ?_
              refine qa_iconst (pc1 := 102) dX10_fromHome_101 (v := 2) kc_i2 rfl ?_
              refine qa_aload_n (pc1 := 103) dX10_fromHome_102 rfl rfl rfl ?_
              refine qa_getP (pc1 := 106) dX10_fromHome_103 rfl wf_X10_38 rfl ko_mo (by omega) (show P 176 11 = 186 from kp_mo hps (by decide : kw_mo 11 ≠ 0)) ?_
              refine qa_iload_n (pc1 := 107) dX10_fromHome_106 rfl rfl rfl ?_
              refine qr_iald (pc1 := 108) dX10_fromHome_107 rfl ka_m186 rfl (by omega) (by omega) (by omega) ?_
              refine qa_aload_n (pc1 := 109) dX10_fromHome_108 rfl rfl rfl ?_
              refine qa_getP (pc1 := 112) dX10_fromHome_109 rfl wf_X10_29 rfl ko_mo (by omega) (show P 176 8 = 183 from kp_mo hps (by decide : kw_mo 8 ≠ 0)) ?_
              refine qa_iconst (pc1 := 113) dX10_fromHome_112 (v := (nI 0)) kc_i0N rfl ?_
              refine qr_iald (pc1 := 114) dX10_fromHome_113 rfl ka_m183 rfl (by omega) (by omega) (by decide) ?_
              refine qa_aload_n (pc1 := 115) dX10_fromHome_114 rfl rfl rfl ?_
              refine qa_getP (pc1 := 118) dX10_fromHome_115 rfl wf_X10_38 rfl ko_mo (by omega) (show P 176 11 = 186 from kp_mo hps (by decide : kw_mo 11 ≠ 0)) ?_
              refine qa_iload_n (pc1 := 119) dX10_fromHome_118 rfl rfl rfl ?_
              refine qa_iconst (pc1 := 120) dX10_fromHome_119 (v := (nI 2)) kc_i2N rfl ?_
              refine qn_iadd (pc1 := 121) dX10_fromHome_120 rfl ?_
              refine qr_iald (pc1 := 122) dX10_fromHome_121 rfl ka_m186 rfl (by omega) (by omega) (by omega) ?_
              refine qa_aload_n (pc1 := 123) dX10_fromHome_122 rfl rfl rfl ?_
              refine qa_getP (pc1 := 126) dX10_fromHome_123 rfl wf_X10_38 rfl ko_mo (by omega) (show P 176 11 = 186 from kp_mo hps (by decide : kw_mo 11 ≠ 0)) ?_
              refine qa_iload_n (pc1 := 127) dX10_fromHome_126 rfl rfl rfl ?_
              refine qa_iconst (pc1 := 128) dX10_fromHome_127 (v := (nI 3)) kc_i3N rfl ?_
              refine qn_iadd (pc1 := 129) dX10_fromHome_128 rfl ?_
              refine qr_iald (pc1 := 130) dX10_fromHome_129 rfl ka_m186 rfl (by omega) (by omega) (by omega) ?_
              refine qa_aload_n (pc1 := 131) dX10_fromHome_130 rfl rfl rfl ?_
              refine qa_getP (pc1 := 134) dX10_fromHome_131 rfl wf_X10_29 rfl ko_mo (by omega) (show P 176 8 = 183 from kp_mo hps (by decide : kw_mo 8 ≠ 0)) ?_
              refine qa_iconst (pc1 := 135) dX10_fromHome_134 (v := (nI 3)) kc_i3N rfl ?_
              refine qr_iald (pc1 := 136) dX10_fromHome_135 rfl ka_m183 rfl (by omega) (by omega) (by decide) ?_
              refine qa_aload_n (pc1 := 137) dX10_fromHome_136 rfl rfl rfl ?_
              refine qa_getP (pc1 := 140) dX10_fromHome_137 rfl wf_X10_29 rfl ko_mo (by omega) (show P 176 8 = 183 from kp_mo hps (by decide : kw_mo 8 ≠ 0)) ?_
              refine qa_iconst (pc1 := 141) dX10_fromHome_140 (v := (nI 4)) kc_i4N rfl ?_
              refine qr_iald (pc1 := 142) dX10_fromHome_141 rfl ka_m183 rfl (by omega) (by omega) (by decide) ?_
              refine qa_callVv (pc1 := 145) dX10_fromHome_142 rfl (rt_snd hps (by assumption) _ _ _ _ _ _ _ (by assumption)) wc_X10_102 wy_X10_put rfl rfl (ci := k_mo) rfl ko_mo (by omega) rfl ?_
              refine qa_iconst (pc1 := 146) dX10_fromHome_145 (v := 1) kc_i1 rfl ?_
              have hft : kw_first (xr_hc M x s0) s0 (c - s0) = some e := by rw [← hf, kw_first_t (by omega) (by clear ih hf; simp only [xr_hc, decide_eq_true_eq]; grind)]
              exact qa_iret dX10_fromHome_146 rfl (vp_nar_int _) (by rw [xr_fhn, hft]) rfl (by rw [xr_fhm, hft]; rfl) rfl
      · refine qa_iload_n (pc1 := 44) dX10_fromHome_43 rfl rfl rfl ?_
        refine qa_aload_n (pc1 := 45) dX10_fromHome_44 rfl rfl rfl ?_
        refine qr_getI (pc1 := 48) dX10_fromHome_45 rfl wf_X10_120 rfl ko_mo (by omega) (by omega) ?_
        refine qa_top hs0 ?_
        refine qn_isub (pc1 := 49) dX10_fromHome_48 rfl (by omega) ?_
        refine qa_bipush (pc1 := 51) dX10_fromHome_49 (v := (nI 8)) kc_b8N rfl ?_
        refine qn_irem (pc1 := 52) dX10_fromHome_51 rfl (by omega) (by omega) (by omega) ?_
        refine qa_aload_n (pc1 := 53) dX10_fromHome_52 rfl rfl rfl ?_
        refine qa_getP (pc1 := 56) dX10_fromHome_53 rfl wf_X10_29 rfl ko_mo (by omega) (show P 176 8 = 183 from kp_mo hps (by decide : kw_mo 8 ≠ 0)) ?_
        refine qa_iconst (pc1 := 57) dX10_fromHome_56 (v := (nI 1)) kc_i1N rfl ?_
        refine qr_iald (pc1 := 58) dX10_fromHome_57 rfl ka_m183 rfl (by omega) (by omega) (by decide) ?_
        refine qa_ic_ne (tgt := 65) (pc1 := 61) dX10_fromHome_58 rfl rfl (fun h58 => ?_) (fun h58 => ?_)
        · refine qa_iconst (pc1 := 66) dX10_fromHome_65 (v := 0) kc_i0 rfl ?_
          refine qa_istore (pc1 := 68) dX10_fromHome_66 (by decide) rfl ?_
          refine qa_iload (pc1 := 70) dX10_fromHome_68 rfl rfl ?_
          refine qa_if_eq (tgt := 147) (pc1 := 73) dX10_fromHome_70 rfl rfl (fun h70 => ?_) (fun h70 => ?_)
          · refine qa_iincN (pc1 := 150) dX10_fromHome_147 rfl (by decide) rfl ?_
            refine qa_goto (tgt := 19) dX10_fromHome_150 rfl ?_
            exact qa_ls (by exact (kw_lsc rfl (kw_lsc rfl (kw_lsc rfl kw_lsn)))) (ih (by omega) (by omega) (by omega) ((kw_first_f (by omega) (by clear ih hf; simp only [xr_hc, decide_eq_true_eq]; grind)).symm.trans hf))
          · refine qa_aload_n (pc1 := 74) dX10_fromHome_73 rfl rfl rfl ?_
            refine qa_getP (pc1 := 77) dX10_fromHome_74 rfl wf_X10_38 rfl ko_mo (by omega) (show P 176 11 = 186 from kp_mo hps (by decide : kw_mo 11 ≠ 0)) ?_
            refine qa_iload_n (pc1 := 78) dX10_fromHome_77 rfl rfl rfl ?_
            refine qa_iconst (pc1 := 79) dX10_fromHome_78 (v := (nI 4)) kc_i4N rfl ?_
            refine qn_iadd (pc1 := 80) dX10_fromHome_79 rfl ?_
            refine qr_iald (pc1 := 81) dX10_fromHome_80 rfl ka_m186 rfl (by omega) (by omega) (by omega) ?_
            refine qa_iload_n (pc1 := 82) dX10_fromHome_81 rfl rfl rfl ?_
            refine qa_ic_ne (tgt := 147) (pc1 := 85) dX10_fromHome_82 rfl rfl (fun h82 => ?_) (fun h82 => ?_)
            · refine qa_iincN (pc1 := 150) dX10_fromHome_147 rfl (by decide) rfl ?_
              refine qa_goto (tgt := 19) dX10_fromHome_150 rfl ?_
              exact qa_ls (by exact (kw_lsc rfl (kw_lsc rfl (kw_lsc rfl kw_lsn)))) (ih (by omega) (by omega) (by omega) ((kw_first_f (by omega) (by clear ih hf; simp only [xr_hc, decide_eq_true_eq]; grind)).symm.trans hf))
            · refine qa_aload_n (pc1 := 86) dX10_fromHome_85 rfl rfl rfl ?_
              refine qa_aload_n (pc1 := 87) dX10_fromHome_86 rfl rfl rfl ?_
              refine qa_getP (pc1 := 90) dX10_fromHome_87 rfl wf_X10_38 rfl ko_mo (by omega) (show P 176 11 = 186 from kp_mo hps (by decide : kw_mo 11 ≠ 0)) ?_
              refine qa_iload_n (pc1 := 91) dX10_fromHome_90 rfl rfl rfl ?_
              refine qa_iconst (pc1 := 92) dX10_fromHome_91 (v := (nI 5)) kc_i5N rfl ?_
              refine qn_iadd (pc1 := 93) dX10_fromHome_92 rfl ?_
              refine qr_iald (pc1 := 94) dX10_fromHome_93 rfl ka_m186 rfl (by omega) (by omega) (by omega) ?_
              refine qa_callVi (pc1 := 97) dX10_fromHome_94 rfl (rt_right hps _ (by assumption)) wc_X10_117 wy_X10_right rfl rfl (ci := k_mo) rfl ko_mo (by omega) rfl ?_
              refine qb_if_eq (tgt := 147) (pc1 := 100) dX10_fromHome_97 rfl rfl (fun h97 => ?_) (fun h97 => ?_)
              · refine qa_iincN (pc1 := 150) dX10_fromHome_147 rfl (by decide) rfl ?_
                refine qa_goto (tgt := 19) dX10_fromHome_150 rfl ?_
                exact qa_ls (by exact (kw_lsc rfl (kw_lsc rfl (kw_lsc rfl kw_lsn)))) (ih (by omega) (by omega) (by omega) ((kw_first_f (by omega) (by clear ih hf; simp only [xr_hc, decide_eq_true_eq]; grind)).symm.trans hf))
              · have hle1 := hle e (by omega) (by omega)
                refine qa_aload_n (pc1 := 101) dX10_fromHome_100 rfl rfl rfl ?_
                refine qa_iconst (pc1 := 102) dX10_fromHome_101 (v := 2) kc_i2 rfl ?_
                refine qa_aload_n (pc1 := 103) dX10_fromHome_102 rfl rfl rfl ?_
                refine qa_getP (pc1 := 106) dX10_fromHome_103 rfl wf_X10_38 rfl ko_mo (by omega) (show P 176 11 = 186 from kp_mo hps (by decide : kw_mo 11 ≠ 0)) ?_
                refine qa_iload_n (pc1 := 107) dX10_fromHome_106 rfl rfl rfl ?_
                refine qr_iald (pc1 := 108) dX10_fromHome_107 rfl ka_m186 rfl (by omega) (by omega) (by omega) ?_
                refine qa_aload_n (pc1 := 109) dX10_fromHome_108 rfl rfl rfl ?_
                refine qa_getP (pc1 := 112) dX10_fromHome_109 rfl wf_X10_29 rfl ko_mo (by omega) (show P 176 8 = 183 from kp_mo hps (by decide : kw_mo 8 ≠ 0)) ?_
                refine qa_iconst (pc1 := 113) dX10_fromHome_112 (v := (nI 0)) kc_i0N rfl ?_
                refine qr_iald (pc1 := 114) dX10_fromHome_113 rfl ka_m183 rfl (by omega) (by omega) (by decide) ?_
                refine qa_aload_n (pc1 := 115) dX10_fromHome_114 rfl rfl rfl ?_
                refine qa_getP (pc1 := 118) dX10_fromHome_115 rfl wf_X10_38 rfl ko_mo (by omega) (show P 176 11 = 186 from kp_mo hps (by decide : kw_mo 11 ≠ 0)) ?_
                refine qa_iload_n (pc1 := 119) dX10_fromHome_118 rfl rfl rfl ?_
                refine qa_iconst (pc1 := 120) dX10_fromHome_119 (v := (nI 2)) kc_i2N rfl ?_
                refine qn_iadd (pc1 := 121) dX10_fromHome_120 rfl ?_
                refine qr_iald (pc1 := 122) dX10_fromHome_121 rfl ka_m186 rfl (by omega) (by omega) (by omega) ?_
                refine qa_aload_n (pc1 := 123) dX10_fromHome_122 rfl rfl rfl ?_
                refine qa_getP (pc1 := 126) dX10_fromHome_123 rfl wf_X10_38 rfl ko_mo (by omega) (show P 176 11 = 186 from kp_mo hps (by decide : kw_mo 11 ≠ 0)) ?_
                refine qa_iload_n (pc1 := 127) dX10_fromHome_126 rfl rfl rfl ?_
                refine qa_iconst (pc1 := 128) dX10_fromHome_127 (v := (nI 3)) kc_i3N rfl ?_
                refine qn_iadd (pc1 := 129) dX10_fromHome_128 rfl ?_
                refine qr_iald (pc1 := 130) dX10_fromHome_129 rfl ka_m186 rfl (by omega) (by omega) (by omega) ?_
                refine qa_aload_n (pc1 := 131) dX10_fromHome_130 rfl rfl rfl ?_
                refine qa_getP (pc1 := 134) dX10_fromHome_131 rfl wf_X10_29 rfl ko_mo (by omega) (show P 176 8 = 183 from kp_mo hps (by decide : kw_mo 8 ≠ 0)) ?_
                refine qa_iconst (pc1 := 135) dX10_fromHome_134 (v := (nI 3)) kc_i3N rfl ?_
                refine qr_iald (pc1 := 136) dX10_fromHome_135 rfl ka_m183 rfl (by omega) (by omega) (by decide) ?_
                refine qa_aload_n (pc1 := 137) dX10_fromHome_136 rfl rfl rfl ?_
                refine qa_getP (pc1 := 140) dX10_fromHome_137 rfl wf_X10_29 rfl ko_mo (by omega) (show P 176 8 = 183 from kp_mo hps (by decide : kw_mo 8 ≠ 0)) ?_
                refine qa_iconst (pc1 := 141) dX10_fromHome_140 (v := (nI 4)) kc_i4N rfl ?_
                refine qr_iald (pc1 := 142) dX10_fromHome_141 rfl ka_m183 rfl (by omega) (by omega) (by decide) ?_
                refine qa_callVv (pc1 := 145) dX10_fromHome_142 rfl (rt_snd hps (by assumption) _ _ _ _ _ _ _ (by assumption)) wc_X10_102 wy_X10_put rfl rfl (ci := k_mo) rfl ko_mo (by omega) rfl ?_
                refine qa_iconst (pc1 := 146) dX10_fromHome_145 (v := 1) kc_i1 rfl ?_
                have hft : kw_first (xr_hc M x s0) s0 (c - s0) = some e := by rw [← hf, kw_first_t (by omega) (by clear ih hf; simp only [xr_hc, decide_eq_true_eq]; grind)]
                exact qa_iret dX10_fromHome_146 rfl (vp_nar_int _) (by rw [xr_fhn, hft]) rfl (by rw [xr_fhm, hft]; rfl) rfl
        · refine qa_iconst (pc1 := 62) dX10_fromHome_61 (v := 1) kc_i1 rfl ?_
          refine qa_goto (tgt := 66) dX10_fromHome_62 rfl ?_
          refine qa_istore (pc1 := 68) dX10_fromHome_66 (by decide) rfl ?_
          refine qa_iload (pc1 := 70) dX10_fromHome_68 rfl rfl ?_
          refine qa_if_eq (tgt := 147) (pc1 := 73) dX10_fromHome_70 rfl rfl (fun h70 => ?_) (fun h70 => ?_)
          · refine qa_iincN (pc1 := 150) dX10_fromHome_147 rfl (by decide) rfl ?_
            refine qa_goto (tgt := 19) dX10_fromHome_150 rfl ?_
            exact qa_ls (by exact (kw_lsc rfl (kw_lsc rfl (kw_lsc rfl kw_lsn)))) (ih (by omega) (by omega) (by omega) ((kw_first_f (by omega) (by clear ih hf; simp only [xr_hc, decide_eq_true_eq]; grind)).symm.trans hf))
          · refine qa_aload_n (pc1 := 74) dX10_fromHome_73 rfl rfl rfl ?_
            refine qa_getP (pc1 := 77) dX10_fromHome_74 rfl wf_X10_38 rfl ko_mo (by omega) (show P 176 11 = 186 from kp_mo hps (by decide : kw_mo 11 ≠ 0)) ?_
            refine qa_iload_n (pc1 := 78) dX10_fromHome_77 rfl rfl rfl ?_
            refine qa_iconst (pc1 := 79) dX10_fromHome_78 (v := (nI 4)) kc_i4N rfl ?_
            refine qn_iadd (pc1 := 80) dX10_fromHome_79 rfl ?_
            refine qr_iald (pc1 := 81) dX10_fromHome_80 rfl ka_m186 rfl (by omega) (by omega) (by omega) ?_
            refine qa_iload_n (pc1 := 82) dX10_fromHome_81 rfl rfl rfl ?_
            refine qa_ic_ne (tgt := 147) (pc1 := 85) dX10_fromHome_82 rfl rfl (fun h82 => ?_) (fun h82 => ?_)
            · refine qa_iincN (pc1 := 150) dX10_fromHome_147 rfl (by decide) rfl ?_
              refine qa_goto (tgt := 19) dX10_fromHome_150 rfl ?_
              exact qa_ls (by exact (kw_lsc rfl (kw_lsc rfl (kw_lsc rfl kw_lsn)))) (ih (by omega) (by omega) (by omega) ((kw_first_f (by omega) (by clear ih hf; simp only [xr_hc, decide_eq_true_eq]; grind)).symm.trans hf))
            · refine qa_aload_n (pc1 := 86) dX10_fromHome_85 rfl rfl rfl ?_
              refine qa_aload_n (pc1 := 87) dX10_fromHome_86 rfl rfl rfl ?_
              refine qa_getP (pc1 := 90) dX10_fromHome_87 rfl wf_X10_38 rfl ko_mo (by omega) (show P 176 11 = 186 from kp_mo hps (by decide : kw_mo 11 ≠ 0)) ?_
              refine qa_iload_n (pc1 := 91) dX10_fromHome_90 rfl rfl rfl ?_
              refine qa_iconst (pc1 := 92) dX10_fromHome_91 (v := (nI 5)) kc_i5N rfl ?_
              refine qn_iadd (pc1 := 93) dX10_fromHome_92 rfl ?_
              refine qr_iald (pc1 := 94) dX10_fromHome_93 rfl ka_m186 rfl (by omega) (by omega) (by omega) ?_
              refine qa_callVi (pc1 := 97) dX10_fromHome_94 rfl (rt_right hps _ (by assumption)) wc_X10_117 wy_X10_right rfl rfl (ci := k_mo) rfl ko_mo (by omega) rfl ?_
              refine qb_if_eq (tgt := 147) (pc1 := 100) dX10_fromHome_97 rfl rfl (fun h97 => ?_) (fun h97 => ?_)
              · refine qa_iincN (pc1 := 150) dX10_fromHome_147 rfl (by decide) rfl ?_
                refine qa_goto (tgt := 19) dX10_fromHome_150 rfl ?_
                exact qa_ls (by exact (kw_lsc rfl (kw_lsc rfl (kw_lsc rfl kw_lsn)))) (ih (by omega) (by omega) (by omega) ((kw_first_f (by omega) (by clear ih hf; simp only [xr_hc, decide_eq_true_eq]; grind)).symm.trans hf))
              · have hle1 := hle e (by omega) (by omega)
                refine qa_aload_n (pc1 := 101) dX10_fromHome_100 rfl rfl rfl ?_
                refine qa_iconst (pc1 := 102) dX10_fromHome_101 (v := 2) kc_i2 rfl ?_
                refine qa_aload_n (pc1 := 103) dX10_fromHome_102 rfl rfl rfl ?_
                refine qa_getP (pc1 := 106) dX10_fromHome_103 rfl wf_X10_38 rfl ko_mo (by omega) (show P 176 11 = 186 from kp_mo hps (by decide : kw_mo 11 ≠ 0)) ?_
                refine qa_iload_n (pc1 := 107) dX10_fromHome_106 rfl rfl rfl ?_
                refine qr_iald (pc1 := 108) dX10_fromHome_107 rfl ka_m186 rfl (by omega) (by omega) (by omega) ?_
                refine qa_aload_n (pc1 := 109) dX10_fromHome_108 rfl rfl rfl ?_
                refine qa_getP (pc1 := 112) dX10_fromHome_109 rfl wf_X10_29 rfl ko_mo (by omega) (show P 176 8 = 183 from kp_mo hps (by decide : kw_mo 8 ≠ 0)) ?_
                refine qa_iconst (pc1 := 113) dX10_fromHome_112 (v := (nI 0)) kc_i0N rfl ?_
                refine qr_iald (pc1 := 114) dX10_fromHome_113 rfl ka_m183 rfl (by omega) (by omega) (by decide) ?_
                refine qa_aload_n (pc1 := 115) dX10_fromHome_114 rfl rfl rfl ?_
                refine qa_getP (pc1 := 118) dX10_fromHome_115 rfl wf_X10_38 rfl ko_mo (by omega) (show P 176 11 = 186 from kp_mo hps (by decide : kw_mo 11 ≠ 0)) ?_
                refine qa_iload_n (pc1 := 119) dX10_fromHome_118 rfl rfl rfl ?_
                refine qa_iconst (pc1 := 120) dX10_fromHome_119 (v := (nI 2)) kc_i2N rfl ?_
                refine qn_iadd (pc1 := 121) dX10_fromHome_120 rfl ?_
                refine qr_iald (pc1 := 122) dX10_fromHome_121 rfl ka_m186 rfl (by omega) (by omega) (by omega) ?_
                refine qa_aload_n (pc1 := 123) dX10_fromHome_122 rfl rfl rfl ?_
                refine qa_getP (pc1 := 126) dX10_fromHome_123 rfl wf_X10_38 rfl ko_mo (by omega) (show P 176 11 = 186 from kp_mo hps (by decide : kw_mo 11 ≠ 0)) ?_
                refine qa_iload_n (pc1 := 127) dX10_fromHome_126 rfl rfl rfl ?_
                refine qa_iconst (pc1 := 128) dX10_fromHome_127 (v := (nI 3)) kc_i3N rfl ?_
                refine qn_iadd (pc1 := 129) dX10_fromHome_128 rfl ?_
                refine qr_iald (pc1 := 130) dX10_fromHome_129 rfl ka_m186 rfl (by omega) (by omega) (by omega) ?_
                refine qa_aload_n (pc1 := 131) dX10_fromHome_130 rfl rfl rfl ?_
                refine qa_getP (pc1 := 134) dX10_fromHome_131 rfl wf_X10_29 rfl ko_mo (by omega) (show P 176 8 = 183 from kp_mo hps (by decide : kw_mo 8 ≠ 0)) ?_
                refine qa_iconst (pc1 := 135) dX10_fromHome_134 (v := (nI 3)) kc_i3N rfl ?_
                refine qr_iald (pc1 := 136) dX10_fromHome_135 rfl ka_m183 rfl (by omega) (by omega) (by decide) ?_
                refine qa_aload_n (pc1 := 137) dX10_fromHome_136 rfl rfl rfl ?_
                refine qa_getP (pc1 := 140) dX10_fromHome_137 rfl wf_X10_29 rfl ko_mo (by omega) (show P 176 8 = 183 from kp_mo hps (by decide : kw_mo 8 ≠ 0)) ?_
                refine qa_iconst (pc1 := 141) dX10_fromHome_140 (v := (nI 4)) kc_i4N rfl ?_
                refine qr_iald (pc1 := 142) dX10_fromHome_141 rfl ka_m183 rfl (by omega) (by omega) (by decide) ?_
                refine qa_callVv (pc1 := 145) dX10_fromHome_142 rfl (rt_snd hps (by assumption) _ _ _ _ _ _ _ (by assumption)) wc_X10_102 wy_X10_put rfl rfl (ci := k_mo) rfl ko_mo (by omega) rfl ?_
                refine qa_iconst (pc1 := 146) dX10_fromHome_145 (v := 1) kc_i1 rfl ?_
                have hft : kw_first (xr_hc M x s0) s0 (c - s0) = some e := by rw [← hf, kw_first_t (by omega) (by clear ih hf; simp only [xr_hc, decide_eq_true_eq]; grind)]
                exact qa_iret dX10_fromHome_146 rfl (vp_nar_int _) (by rw [xr_fhn, hft]) rfl (by rw [xr_fhm, hft]; rfl) rfl
  refine qa_aload_n (pc1 := 1) dX10_fromHome_0 rfl rfl rfl ?_
  refine qa_getP (pc1 := 4) dX10_fromHome_1 rfl wf_X10_29 rfl ko_mo (by omega) (show P 176 8 = 183 from kp_mo hps (by decide : kw_mo 8 ≠ 0)) ?_
  refine qa_iconst (pc1 := 5) dX10_fromHome_4 (v := (nI 0)) kc_i0N rfl ?_
  refine qr_iald (pc1 := 6) dX10_fromHome_5 rfl ka_m183 rfl (by omega) (by omega) (by decide) ?_
  refine qa_callSi (pc1 := 9) dX10_fromHome_6 rfl (rt_answers _) wc_X10_126 wy_X10_answers rfl rfl rfl ?_
  refine qt_if_ne (tgt := 14) dX10_fromHome_9 rfl (kw_b1.mpr hq) ?_
  refine qa_aload_n (pc1 := 15) dX10_fromHome_14 rfl rfl rfl ?_
  refine qr_getI (pc1 := 18) dX10_fromHome_15 rfl wf_X10_120 rfl ko_mo (by omega) (by omega) ?_
  refine qa_top hs0 ?_
  refine qa_istore_n (pc1 := 19) dX10_fromHome_18 rfl (by decide) rfl ?_
  exact qa_ls (by exact (kw_lsc rfl (kw_lsc rfl (kw_lsc rfl kw_lsn)))) (loop s0 (Nat.le_refl _) hsc rfl)
set_option maxRecDepth 20000 in
set_option maxHeartbeats 4000000 in
theorem rt_dlvO (s : Int32) (hs : ¬ (¬ s < 0 ∧ ¬ M 176 7 ≤ s)) : kw_C l D aC b yX10_deliver cX10_deliver 4 (some .int) 8 [.inr (.inl 176), .inl s] C M P (some (.inl (-1))) C M P := by
  refine ax_body (own := RX10) (ini := false) (by decide) rfl (fun h => by cases h) (Nat.le_of_ble_eq_true rfl) ?_
  refine qa_aload_n (pc1 := 1) dX10_deliver_0 rfl rfl rfl ?_
  refine qa_iload_n (pc1 := 2) dX10_deliver_1 rfl rfl rfl ?_
  refine qa_callVi (pc1 := 5) dX10_deliver_2 rfl (rt_inFlight _) wc_X10_76 wy_X10_inFlight rfl rfl (ci := k_mo) rfl ko_mo (by omega) rfl ?_
  refine qf_if_ne (tgt := 10) (pc1 := 8) dX10_deliver_5 rfl rfl (kw_bf hs) ?_
  refine qa_iconst (pc1 := 9) dX10_deliver_8 (v := (-1)) kc_im1 rfl ?_
  exact qa_iret dX10_deliver_9 rfl (vp_nar_int _) rfl rfl rfl rfl
set_option maxRecDepth 20000 in
set_option maxHeartbeats 4000000 in
theorem rt_dgl {F : List Frame → Array Value → State → State → Prop} (hps : kw_ps P) {kk : Nat} (hk24 : kk < 24) (k41 : ax_G l D aC b RX10 cX10_deliver 4 (some .int) false (kw_rm 8) 191 F (fun _ => True) 41 [(0, .inr (.inl 176)), (1, .inl (nI kk))] [] 0 0 kw_K kw_L (kw_gl C (xr_got M kk 8)) P) : ∀ i, i ≤ 8 → ax_G l D aC b RX10 cX10_deliver 4 (some .int) false (kw_rm 8) 191 F (fun _ => True) 12 [(2, .inl (nI i)), (0, .inr (.inl 176)), (1, .inl (nI kk))] [] 0 0 kw_K kw_L (kw_gl C (xr_got M kk i)) P := by
  refine kw_loopB 8 (fun i hiN ih => ?_)
  refine qa_iload_n (pc1 := 13) dX10_deliver_12 rfl rfl rfl ?_
  refine qa_bipush (pc1 := 15) dX10_deliver_13 (v := (nI 8)) kc_b8N rfl ?_
  refine qn_ic_ge (tgt := 41) (pc1 := 18) dX10_deliver_15 rfl rfl (by omega) (by omega) (fun h15 => ?_) (fun h15 => ?_)
  · have e8 : i = 8 := by omega
    subst e8
    exact qa_ls (by exact (kw_lsc rfl (kw_lsc rfl kw_lsn))) k41
  · refine qa_aload_n (pc1 := 19) dX10_deliver_18 rfl rfl rfl ?_
    refine qa_getP (pc1 := 22) dX10_deliver_19 rfl wf_X10_29 rfl ko_mo (by omega) (show P 176 8 = 183 from kp_mo hps (by decide : kw_mo 8 ≠ 0)) ?_
    refine qa_iload_n (pc1 := 23) dX10_deliver_22 rfl rfl rfl ?_
    refine qa_aload_n (pc1 := 24) dX10_deliver_23 rfl rfl rfl ?_
    refine qa_getP (pc1 := 27) dX10_deliver_24 rfl wf_X10_26 rfl ko_mo (by omega) (show P 176 6 = 182 from kp_mo hps (by decide : kw_mo 6 ≠ 0)) ?_
    refine qa_bipush (pc1 := 29) dX10_deliver_27 (v := (nI 8)) kc_b8N rfl ?_
    refine qa_iload_n (pc1 := 30) dX10_deliver_29 rfl rfl rfl ?_
    refine qn_imul (pc1 := 31) dX10_deliver_30 rfl ?_
    refine qa_iload_n (pc1 := 32) dX10_deliver_31 rfl rfl rfl ?_
    refine qn_iadd (pc1 := 33) dX10_deliver_32 rfl ?_
    refine qr_iald (pc1 := 34) dX10_deliver_33 rfl ka_m182 rfl (by omega) (by omega) (by omega) ?_
    refine qa_top (show _ = M 182 (8 * kk + i) from by simp [xr_got]) ?_
    refine qr_iast (pc1 := 35) dX10_deliver_34 rfl ka_m183 rfl (by omega) (by omega) (by omega) ?_
    refine qa_iincN (pc1 := 38) dX10_deliver_35 rfl (by decide) rfl ?_
    refine qa_goto (tgt := 12) dX10_deliver_38 rfl ?_
    exact qa_memM xr_got_step (qa_ls (by exact (kw_lsc rfl (kw_lsc rfl (kw_lsc rfl kw_lsn)))) (ih (by omega)))
set_option maxRecDepth 20000 in
set_option maxHeartbeats 4000000 in
theorem rt_dlvP (hps : kw_ps P) {kk n : Nat} (hkn : kk < n) (hn : n ≤ 24) (hc : M 176 7 = nI n) {p : Nat} (hp : p < 2) (hto : M 182 (8 * kk + 7) = nI p) {v : Int32} {M1 : ax_I} (hM : kw_C l D aC b yX10_atPoint cX10_atPoint 5 (some .int) 4 [.inr (.inl 176), .inl (nI p)] C (xr_dl M kk n) P (some (.inl v)) C M1 P) : kw_C l D aC b yX10_deliver cX10_deliver 4 (some .int) 8 [.inr (.inl 176), .inl (nI kk)] C M P (some (.inl v)) C M1 P := by
  refine ax_body (own := RX10) (ini := false) (by decide) rfl (fun h => by cases h) (Nat.le_of_ble_eq_true rfl) ?_
  have k41 : ax_G l D aC b RX10 cX10_deliver 4 (some .int) false (kw_rm 8) 191 (ax_F D aC b 191 0 0 (kw_R (some (.inl v)) kw_K kw_L (kw_gl C M1) P)) (fun _ => True) 41 [(0, .inr (.inl 176)), (1, .inl (nI kk))] [] 0 0 kw_K kw_L (kw_gl C (xr_got M kk 8)) P := by
    refine qa_aload_n (pc1 := 42) dX10_deliver_41 rfl rfl rfl ?_
    refine qa_iload_n (pc1 := 43) dX10_deliver_42 rfl rfl rfl ?_
    refine qa_callVv (pc1 := 46) dX10_deliver_43 rfl (rt_takeOut hps hkn hn (show xr_got M kk 8 176 7 = nI n from by simp [xr_got, hc])) wc_X10_79 wy_X10_takeOut rfl rfl (ci := k_mo) rfl ko_mo (by omega) rfl ?_
    change ax_G l D aC b RX10 cX10_deliver 4 (some .int) false (kw_rm 8) 191 _ (fun _ => True) 46 _ _ 0 0 kw_K kw_L (kw_gl C (xr_dl M kk n)) P
    refine qa_aload_n (pc1 := 47) dX10_deliver_46 rfl rfl rfl ?_
    refine qa_getP (pc1 := 50) dX10_deliver_47 rfl wf_X10_29 rfl ko_mo (by omega) (show P 176 8 = 183 from kp_mo hps (by decide : kw_mo 8 ≠ 0)) ?_
    refine qa_bipush (pc1 := 52) dX10_deliver_50 (v := (nI 6)) kc_b6N rfl ?_
    refine qr_iald (pc1 := 53) dX10_deliver_52 rfl ka_m183 rfl (by omega) (by omega) (by decide) ?_
    refine qa_istore_n (pc1 := 54) dX10_deliver_53 rfl (by decide) rfl ?_
    refine qa_aload_n (pc1 := 55) dX10_deliver_54 rfl rfl rfl ?_
    refine qa_getP (pc1 := 58) dX10_deliver_55 rfl wf_X10_29 rfl ko_mo (by omega) (show P 176 8 = 183 from kp_mo hps (by decide : kw_mo 8 ≠ 0)) ?_
    refine qa_bipush (pc1 := 60) dX10_deliver_58 (v := (nI 7)) kc_b7N rfl ?_
    refine qr_iald (pc1 := 61) dX10_deliver_60 rfl ka_m183 rfl (by omega) (by omega) (by decide) ?_
    refine qa_top (show _ = nI p from by rw [xr_dl_g (by omega)]; exact hto) ?_
    refine qa_istore_n (pc1 := 62) dX10_deliver_61 rfl (by decide) rfl ?_
    refine qa_iload_n (pc1 := 63) dX10_deliver_62 rfl rfl rfl ?_
    refine qa_iconst (pc1 := 64) dX10_deliver_63 (v := 2) kc_i2 rfl ?_
    refine qf_ic_eq (tgt := 88) (pc1 := 67) dX10_deliver_64 rfl rfl (fun e => absurd ((nI_eq (a := p) (b := 2) (by omega) (by decide)).mp e) (by omega)) ?_
    refine qa_iload_n (pc1 := 68) dX10_deliver_67 rfl rfl rfl ?_
    refine qa_iconst (pc1 := 69) dX10_deliver_68 (v := 2) kc_i2 rfl ?_
    refine qf_ic_ge (tgt := 80) (pc1 := 72) dX10_deliver_69 rfl rfl (nI_ge (a := p) (b := 2) hp (by decide)) ?_
    refine qa_aload_n (pc1 := 73) dX10_deliver_72 rfl rfl rfl ?_
    refine qa_iload_n (pc1 := 74) dX10_deliver_73 rfl rfl rfl ?_
    refine qa_callVi (pc1 := 77) dX10_deliver_74 rfl hM wc_X10_83 wy_X10_atPoint rfl rfl (ci := k_mo) rfl ko_mo (by omega) rfl ?_
    refine qa_goto (tgt := 87) dX10_deliver_77 rfl ?_
    exact qa_iret dX10_deliver_87 rfl (vp_nar_int _) rfl rfl rfl rfl
  refine qa_aload_n (pc1 := 1) dX10_deliver_0 rfl rfl rfl ?_
  refine qa_iload_n (pc1 := 2) dX10_deliver_1 rfl rfl rfl ?_
  refine qa_callVi (pc1 := 5) dX10_deliver_2 rfl (rt_inFlight _) wc_X10_76 wy_X10_inFlight rfl rfl (ci := k_mo) rfl ko_mo (by omega) rfl ?_
  refine qt_if_ne (tgt := 10) dX10_deliver_5 rfl (kw_b1.mpr (show ¬ nI kk < 0 ∧ ¬ M 176 7 ≤ nI kk from ⟨nI_pos (by omega), by rw [hc]; exact nI_ge hkn (by omega)⟩)) ?_
  refine qa_iconst (pc1 := 11) dX10_deliver_10 (v := (nI 0)) kc_i0N rfl ?_
  refine qa_istore_n (pc1 := 12) dX10_deliver_11 rfl (by decide) rfl ?_
  exact qa_memM xr_got_0 (qa_ls (by exact (kw_lsc rfl (kw_lsc rfl (kw_lsc rfl kw_lsn)))) (rt_dgl hps (by omega) k41 0 (Nat.zero_le _)))
set_option maxRecDepth 20000 in
set_option maxHeartbeats 4000000 in
theorem rt_dlvH (hps : kw_ps P) {kk n : Nat} (hkn : kk < n) (hn : n ≤ 24) (hc : M 176 7 = nI n) {h : Nat} (hh : h < 2) (hto : M 182 (8 * kk + 7) = nI (3 + h)) {v : Int32} {M1 : ax_I} (hM : kw_C l D aC b yX10_atHome cX10_atHome 5 (some .int) 6 [.inr (.inl 176), .inl (nI h)] C (xr_dl M kk n) P (some (.inl v)) C M1 P) : kw_C l D aC b yX10_deliver cX10_deliver 4 (some .int) 8 [.inr (.inl 176), .inl (nI kk)] C M P (some (.inl v)) C M1 P := by
  refine ax_body (own := RX10) (ini := false) (by decide) rfl (fun h => by cases h) (Nat.le_of_ble_eq_true rfl) ?_
  have k41 : ax_G l D aC b RX10 cX10_deliver 4 (some .int) false (kw_rm 8) 191 (ax_F D aC b 191 0 0 (kw_R (some (.inl v)) kw_K kw_L (kw_gl C M1) P)) (fun _ => True) 41 [(0, .inr (.inl 176)), (1, .inl (nI kk))] [] 0 0 kw_K kw_L (kw_gl C (xr_got M kk 8)) P := by
    refine qa_aload_n (pc1 := 42) dX10_deliver_41 rfl rfl rfl ?_
    refine qa_iload_n (pc1 := 43) dX10_deliver_42 rfl rfl rfl ?_
    refine qa_callVv (pc1 := 46) dX10_deliver_43 rfl (rt_takeOut hps hkn hn (show xr_got M kk 8 176 7 = nI n from by simp [xr_got, hc])) wc_X10_79 wy_X10_takeOut rfl rfl (ci := k_mo) rfl ko_mo (by omega) rfl ?_
    change ax_G l D aC b RX10 cX10_deliver 4 (some .int) false (kw_rm 8) 191 _ (fun _ => True) 46 _ _ 0 0 kw_K kw_L (kw_gl C (xr_dl M kk n)) P
    refine qa_aload_n (pc1 := 47) dX10_deliver_46 rfl rfl rfl ?_
    refine qa_getP (pc1 := 50) dX10_deliver_47 rfl wf_X10_29 rfl ko_mo (by omega) (show P 176 8 = 183 from kp_mo hps (by decide : kw_mo 8 ≠ 0)) ?_
    refine qa_bipush (pc1 := 52) dX10_deliver_50 (v := (nI 6)) kc_b6N rfl ?_
    refine qr_iald (pc1 := 53) dX10_deliver_52 rfl ka_m183 rfl (by omega) (by omega) (by decide) ?_
    refine qa_istore_n (pc1 := 54) dX10_deliver_53 rfl (by decide) rfl ?_
    refine qa_aload_n (pc1 := 55) dX10_deliver_54 rfl rfl rfl ?_
    refine qa_getP (pc1 := 58) dX10_deliver_55 rfl wf_X10_29 rfl ko_mo (by omega) (show P 176 8 = 183 from kp_mo hps (by decide : kw_mo 8 ≠ 0)) ?_
    refine qa_bipush (pc1 := 60) dX10_deliver_58 (v := (nI 7)) kc_b7N rfl ?_
    refine qr_iald (pc1 := 61) dX10_deliver_60 rfl ka_m183 rfl (by omega) (by omega) (by decide) ?_
    refine qa_top (show _ = nI (3 + h) from by rw [xr_dl_g (by omega)]; exact hto) ?_
    refine qa_istore_n (pc1 := 62) dX10_deliver_61 rfl (by decide) rfl ?_
    refine qa_iload_n (pc1 := 63) dX10_deliver_62 rfl rfl rfl ?_
    refine qa_iconst (pc1 := 64) dX10_deliver_63 (v := 2) kc_i2 rfl ?_
    refine qf_ic_eq (tgt := 88) (pc1 := 67) dX10_deliver_64 rfl rfl (fun e => absurd ((nI_eq (a := 3 + h) (b := 2) (by omega) (by decide)).mp e) (by omega)) ?_
    refine qa_iload_n (pc1 := 68) dX10_deliver_67 rfl rfl rfl ?_
    refine qa_iconst (pc1 := 69) dX10_deliver_68 (v := 2) kc_i2 rfl ?_
    refine qt_ic_ge (tgt := 80) dX10_deliver_69 rfl (nI_le (a := 2) (b := 3 + h) (by omega) (by omega)) ?_
    refine qa_aload_n (pc1 := 81) dX10_deliver_80 rfl rfl rfl ?_
    refine qa_iload_n (pc1 := 82) dX10_deliver_81 rfl rfl rfl ?_
    refine qa_iconst (pc1 := 83) dX10_deliver_82 (v := 3) kc_i3 rfl ?_
    refine qa_isub (pc1 := 84) dX10_deliver_83 rfl ?_
    refine qa_top (show nI (3 + h) - 3 = nI h from by rw [show (3 : Int32) = nI 3 from rfl, kw_sub (by omega)]; exact congrArg nI (by omega)) ?_
    refine qa_callVi (pc1 := 87) dX10_deliver_84 rfl hM wc_X10_87 wy_X10_atHome rfl rfl (ci := k_mo) rfl ko_mo (by omega) rfl ?_
    exact qa_iret dX10_deliver_87 rfl (vp_nar_int _) rfl rfl rfl rfl
  refine qa_aload_n (pc1 := 1) dX10_deliver_0 rfl rfl rfl ?_
  refine qa_iload_n (pc1 := 2) dX10_deliver_1 rfl rfl rfl ?_
  refine qa_callVi (pc1 := 5) dX10_deliver_2 rfl (rt_inFlight _) wc_X10_76 wy_X10_inFlight rfl rfl (ci := k_mo) rfl ko_mo (by omega) rfl ?_
  refine qt_if_ne (tgt := 10) dX10_deliver_5 rfl (kw_b1.mpr (show ¬ nI kk < 0 ∧ ¬ M 176 7 ≤ nI kk from ⟨nI_pos (by omega), by rw [hc]; exact nI_ge hkn (by omega)⟩)) ?_
  refine qa_iconst (pc1 := 11) dX10_deliver_10 (v := (nI 0)) kc_i0N rfl ?_
  refine qa_istore_n (pc1 := 12) dX10_deliver_11 rfl (by decide) rfl ?_
  exact qa_memM xr_got_0 (qa_ls (by exact (kw_lsc rfl (kw_lsc rfl (kw_lsc rfl kw_lsn)))) (rt_dgl hps (by omega) k41 0 (Nat.zero_le _)))
set_option maxRecDepth 20000 in
set_option maxHeartbeats 4000000 in
theorem rt_dlvRP (hps : kw_ps P) {kk n : Nat} (hkn : kk < n) (hn : n ≤ 24) (hc : M 176 7 = nI n) {x : Int32} (hto : M 182 (8 * kk + 7) = 2) (hfr : M 182 (8 * kk + 6) = x) (hx : ¬ 2 ≤ x) {v : Int32} {M1 : ax_I} (hM : kw_C l D aC b yX10_fromPoint cX10_fromPoint 7 (some .int) 6 [.inr (.inl 176), .inl x] C (xr_dl M kk n) P (some (.inl v)) C M1 P) : kw_C l D aC b yX10_deliver cX10_deliver 4 (some .int) 8 [.inr (.inl 176), .inl (nI kk)] C M P (some (.inl v)) C M1 P := by
  refine ax_body (own := RX10) (ini := false) (by decide) rfl (fun h => by cases h) (Nat.le_of_ble_eq_true rfl) ?_
  have k41 : ax_G l D aC b RX10 cX10_deliver 4 (some .int) false (kw_rm 8) 191 (ax_F D aC b 191 0 0 (kw_R (some (.inl v)) kw_K kw_L (kw_gl C M1) P)) (fun _ => True) 41 [(0, .inr (.inl 176)), (1, .inl (nI kk))] [] 0 0 kw_K kw_L (kw_gl C (xr_got M kk 8)) P := by
    refine qa_aload_n (pc1 := 42) dX10_deliver_41 rfl rfl rfl ?_
    refine qa_iload_n (pc1 := 43) dX10_deliver_42 rfl rfl rfl ?_
    refine qa_callVv (pc1 := 46) dX10_deliver_43 rfl (rt_takeOut hps hkn hn (show xr_got M kk 8 176 7 = nI n from by simp [xr_got, hc])) wc_X10_79 wy_X10_takeOut rfl rfl (ci := k_mo) rfl ko_mo (by omega) rfl ?_
    change ax_G l D aC b RX10 cX10_deliver 4 (some .int) false (kw_rm 8) 191 _ (fun _ => True) 46 _ _ 0 0 kw_K kw_L (kw_gl C (xr_dl M kk n)) P
    refine qa_aload_n (pc1 := 47) dX10_deliver_46 rfl rfl rfl ?_
    refine qa_getP (pc1 := 50) dX10_deliver_47 rfl wf_X10_29 rfl ko_mo (by omega) (show P 176 8 = 183 from kp_mo hps (by decide : kw_mo 8 ≠ 0)) ?_
    refine qa_bipush (pc1 := 52) dX10_deliver_50 (v := (nI 6)) kc_b6N rfl ?_
    refine qr_iald (pc1 := 53) dX10_deliver_52 rfl ka_m183 rfl (by omega) (by omega) (by decide) ?_
    refine qa_top (show _ = x from by rw [xr_dl_g (by omega)]; exact hfr) ?_
    refine qa_istore_n (pc1 := 54) dX10_deliver_53 rfl (by decide) rfl ?_
    refine qa_aload_n (pc1 := 55) dX10_deliver_54 rfl rfl rfl ?_
    refine qa_getP (pc1 := 58) dX10_deliver_55 rfl wf_X10_29 rfl ko_mo (by omega) (show P 176 8 = 183 from kp_mo hps (by decide : kw_mo 8 ≠ 0)) ?_
    refine qa_bipush (pc1 := 60) dX10_deliver_58 (v := (nI 7)) kc_b7N rfl ?_
    refine qr_iald (pc1 := 61) dX10_deliver_60 rfl ka_m183 rfl (by omega) (by omega) (by decide) ?_
    refine qa_top (show _ = 2 from by rw [xr_dl_g (by omega)]; exact hto) ?_
    refine qa_istore_n (pc1 := 62) dX10_deliver_61 rfl (by decide) rfl ?_
    refine qa_iload_n (pc1 := 63) dX10_deliver_62 rfl rfl rfl ?_
    refine qa_iconst (pc1 := 64) dX10_deliver_63 (v := 2) kc_i2 rfl ?_
    refine qt_ic_eq (tgt := 88) dX10_deliver_64 rfl rfl ?_
    refine qa_iload_n (pc1 := 89) dX10_deliver_88 rfl rfl rfl ?_
    refine qa_iconst (pc1 := 90) dX10_deliver_89 (v := 2) kc_i2 rfl ?_
    refine qf_ic_ge (tgt := 101) (pc1 := 93) dX10_deliver_90 rfl rfl hx ?_
    refine qa_aload_n (pc1 := 94) dX10_deliver_93 rfl rfl rfl ?_
    refine qa_iload_n (pc1 := 95) dX10_deliver_94 rfl rfl rfl ?_
    refine qa_callVi (pc1 := 98) dX10_deliver_95 rfl hM wc_X10_90 wy_X10_fromPoint rfl rfl (ci := k_mo) rfl ko_mo (by omega) rfl ?_
    refine qa_goto (tgt := 106) dX10_deliver_98 rfl ?_
    exact qa_iret dX10_deliver_106 rfl (vp_nar_int _) rfl rfl rfl rfl
  refine qa_aload_n (pc1 := 1) dX10_deliver_0 rfl rfl rfl ?_
  refine qa_iload_n (pc1 := 2) dX10_deliver_1 rfl rfl rfl ?_
  refine qa_callVi (pc1 := 5) dX10_deliver_2 rfl (rt_inFlight _) wc_X10_76 wy_X10_inFlight rfl rfl (ci := k_mo) rfl ko_mo (by omega) rfl ?_
  refine qt_if_ne (tgt := 10) dX10_deliver_5 rfl (kw_b1.mpr (show ¬ nI kk < 0 ∧ ¬ M 176 7 ≤ nI kk from ⟨nI_pos (by omega), by rw [hc]; exact nI_ge hkn (by omega)⟩)) ?_
  refine qa_iconst (pc1 := 11) dX10_deliver_10 (v := (nI 0)) kc_i0N rfl ?_
  refine qa_istore_n (pc1 := 12) dX10_deliver_11 rfl (by decide) rfl ?_
  exact qa_memM xr_got_0 (qa_ls (by exact (kw_lsc rfl (kw_lsc rfl (kw_lsc rfl kw_lsn)))) (rt_dgl hps (by omega) k41 0 (Nat.zero_le _)))
set_option maxRecDepth 20000 in
set_option maxHeartbeats 4000000 in
theorem rt_dlvRH (hps : kw_ps P) {kk n : Nat} (hkn : kk < n) (hn : n ≤ 24) (hc : M 176 7 = nI n) {x : Int32} (hto : M 182 (8 * kk + 7) = 2) (hfr : M 182 (8 * kk + 6) = x) (hx : 2 ≤ x) {v : Int32} {M1 : ax_I} (hM : kw_C l D aC b yX10_fromHome cX10_fromHome 5 (some .int) 6 [.inr (.inl 176), .inl x] C (xr_dl M kk n) P (some (.inl v)) C M1 P) : kw_C l D aC b yX10_deliver cX10_deliver 4 (some .int) 8 [.inr (.inl 176), .inl (nI kk)] C M P (some (.inl v)) C M1 P := by
  refine ax_body (own := RX10) (ini := false) (by decide) rfl (fun h => by cases h) (Nat.le_of_ble_eq_true rfl) ?_
  have k41 : ax_G l D aC b RX10 cX10_deliver 4 (some .int) false (kw_rm 8) 191 (ax_F D aC b 191 0 0 (kw_R (some (.inl v)) kw_K kw_L (kw_gl C M1) P)) (fun _ => True) 41 [(0, .inr (.inl 176)), (1, .inl (nI kk))] [] 0 0 kw_K kw_L (kw_gl C (xr_got M kk 8)) P := by
    refine qa_aload_n (pc1 := 42) dX10_deliver_41 rfl rfl rfl ?_
    refine qa_iload_n (pc1 := 43) dX10_deliver_42 rfl rfl rfl ?_
    refine qa_callVv (pc1 := 46) dX10_deliver_43 rfl (rt_takeOut hps hkn hn (show xr_got M kk 8 176 7 = nI n from by simp [xr_got, hc])) wc_X10_79 wy_X10_takeOut rfl rfl (ci := k_mo) rfl ko_mo (by omega) rfl ?_
    change ax_G l D aC b RX10 cX10_deliver 4 (some .int) false (kw_rm 8) 191 _ (fun _ => True) 46 _ _ 0 0 kw_K kw_L (kw_gl C (xr_dl M kk n)) P
    refine qa_aload_n (pc1 := 47) dX10_deliver_46 rfl rfl rfl ?_
    refine qa_getP (pc1 := 50) dX10_deliver_47 rfl wf_X10_29 rfl ko_mo (by omega) (show P 176 8 = 183 from kp_mo hps (by decide : kw_mo 8 ≠ 0)) ?_
    refine qa_bipush (pc1 := 52) dX10_deliver_50 (v := (nI 6)) kc_b6N rfl ?_
    refine qr_iald (pc1 := 53) dX10_deliver_52 rfl ka_m183 rfl (by omega) (by omega) (by decide) ?_
    refine qa_top (show _ = x from by rw [xr_dl_g (by omega)]; exact hfr) ?_
    refine qa_istore_n (pc1 := 54) dX10_deliver_53 rfl (by decide) rfl ?_
    refine qa_aload_n (pc1 := 55) dX10_deliver_54 rfl rfl rfl ?_
    refine qa_getP (pc1 := 58) dX10_deliver_55 rfl wf_X10_29 rfl ko_mo (by omega) (show P 176 8 = 183 from kp_mo hps (by decide : kw_mo 8 ≠ 0)) ?_
    refine qa_bipush (pc1 := 60) dX10_deliver_58 (v := (nI 7)) kc_b7N rfl ?_
    refine qr_iald (pc1 := 61) dX10_deliver_60 rfl ka_m183 rfl (by omega) (by omega) (by decide) ?_
    refine qa_top (show _ = 2 from by rw [xr_dl_g (by omega)]; exact hto) ?_
    refine qa_istore_n (pc1 := 62) dX10_deliver_61 rfl (by decide) rfl ?_
    refine qa_iload_n (pc1 := 63) dX10_deliver_62 rfl rfl rfl ?_
    refine qa_iconst (pc1 := 64) dX10_deliver_63 (v := 2) kc_i2 rfl ?_
    refine qt_ic_eq (tgt := 88) dX10_deliver_64 rfl rfl ?_
    refine qa_iload_n (pc1 := 89) dX10_deliver_88 rfl rfl rfl ?_
    refine qa_iconst (pc1 := 90) dX10_deliver_89 (v := 2) kc_i2 rfl ?_
    refine qt_ic_ge (tgt := 101) dX10_deliver_90 rfl hx ?_
    refine qa_aload_n (pc1 := 102) dX10_deliver_101 rfl rfl rfl ?_
    refine qa_iload_n (pc1 := 103) dX10_deliver_102 rfl rfl rfl ?_
    refine qa_callVi (pc1 := 106) dX10_deliver_103 rfl hM wc_X10_93 wy_X10_fromHome rfl rfl (ci := k_mo) rfl ko_mo (by omega) rfl ?_
    exact qa_iret dX10_deliver_106 rfl (vp_nar_int _) rfl rfl rfl rfl
  refine qa_aload_n (pc1 := 1) dX10_deliver_0 rfl rfl rfl ?_
  refine qa_iload_n (pc1 := 2) dX10_deliver_1 rfl rfl rfl ?_
  refine qa_callVi (pc1 := 5) dX10_deliver_2 rfl (rt_inFlight _) wc_X10_76 wy_X10_inFlight rfl rfl (ci := k_mo) rfl ko_mo (by omega) rfl ?_
  refine qt_if_ne (tgt := 10) dX10_deliver_5 rfl (kw_b1.mpr (show ¬ nI kk < 0 ∧ ¬ M 176 7 ≤ nI kk from ⟨nI_pos (by omega), by rw [hc]; exact nI_ge hkn (by omega)⟩)) ?_
  refine qa_iconst (pc1 := 11) dX10_deliver_10 (v := (nI 0)) kc_i0N rfl ?_
  refine qa_istore_n (pc1 := 12) dX10_deliver_11 rfl (by decide) rfl ?_
  exact qa_memM xr_got_0 (qa_ls (by exact (kw_lsc rfl (kw_lsc rfl (kw_lsc rfl kw_lsn)))) (rt_dgl hps (by omega) k41 0 (Nat.zero_le _)))
end REFE
section COPY
variable {l : Launch} {D : va_G} {aC : Nat → ClassId} {b : Nat} {own : String} {cc : ByteArray} {nL : Nat} {ret : Option FieldType} {ini : Bool} {R : Room} {N0 : Nat} {F : List Frame → Array Value → State → State → Prop} {Xs : State → Prop} {pc pc1 ix : Nat} {ls : List (Nat × ax_V)} {st : List ax_V} {cells slots : Nat} {C M : ax_I} {P : ax_P}
theorem qc_copyi {x z : Nat} (hd : decode cc pc = .ok (.invokestatic ix, 3)) (hp : pc + 3 = pc1) (hw : Cond.methodLink own ix arraycopyName ∈ ax_ws ∧ Cond.native arraycopyName ∈ ax_ws ∧ Cond.static arraycopyName ∈ ax_ws ∧ Cond.initialized "java/lang/System" ∈ ax_ws) (hx : kw_oa x 0 8) (hz : kw_oa z 0 8) (hxN : x ≤ N0 + cells) (hzN : z ≤ N0 + cells) (hx1 : x < 176) (hz1 : z < 176) (hfr : 1 ≤ R.frames) (hlo : st.length + (nativeFrameWords "java/lang/System" "arraycopy" 5 + 11) ≤ R.locals) (k : ax_G l D aC b own cc nL ret ini R N0 F Xs pc1 ls st cells slots kw_K kw_L (kw_gl (xc_cpy C x z) M) P) : ax_G l D aC b own cc nL ret ini R N0 F Xs pc ls (.inl (nI 8) :: .inl (nI 0) :: .inr (.inl z) :: .inl (nI 0) :: .inr (.inl x) :: st) cells slots kw_K kw_L (kw_gl C M) P := by
  subst hp
  rw [← xc_cpy_gl hx1 hz1] at k
  exact ax_copyi hw.1 hw.2.1 hw.2.2.1 hw.2.2.2 (t := 0) (by decide) rfl hx.1 hxN hx.2.1 hz.1 hzN hz.2.1 (nI_pos (by decide)) (nI_pos (by decide)) (nI_pos (by decide)) (by rw [hx.2.2.2.1]; decide) (by rw [hz.2.2.2.1]; decide) hfr hlo hd k
end COPY
section COPYB
variable {l : Launch} {D : va_G} {aC : Nat → ClassId} {b : Nat} {C M : ax_I} {P : ax_P}
set_option maxRecDepth 20000 in
set_option maxHeartbeats 4000000 in
theorem ct_putCopy (hps : kw_ps P) {kk n : Nat} (hkn : kk < n) (hn : n < 24) (hc : C 2 3 = nI n) : kw_C l D aC b yX6_putCopyAtEnd cX6_putCopyAtEnd 2 none 2 [.inr (.inl 2), .inl (nI kk)] C M P none (xc_copy1 C P kk n) M P := by
  refine ax_body (own := RX6) (ini := false) (by decide) rfl (fun h => by cases h) (Nat.le_of_ble_eq_true rfl) ?_
  have hda : kw_dg (P 5 kk) := kp_fd hps (by omega)
  have hdb : kw_dg (P 5 n) := kp_fd hps hn
  have hq1 := hda.2.2
  have hq2 := hda.2.1
  have hq3 := hdb.2.2
  have hq4 := hdb.2.1
  have e2 : ¬ 2 = P 5 n + 1 := by omega
  refine qa_aload_n (pc1 := 1) dX6_putCopyAtEnd_0 rfl rfl rfl ?_
  refine qa_getP (pc1 := 4) dX6_putCopyAtEnd_1 rfl wf_X6_20 rfl ko_net (by omega) (kp_fl hps) ?_
  refine qa_iload_n (pc1 := 5) dX6_putCopyAtEnd_4 rfl rfl rfl ?_
  refine qa_aald (pc1 := 6) dX6_putCopyAtEnd_5 rfl ka_fl rfl (by omega) (by omega) rfl ?_
  refine qa_getP (pc1 := 9) dX6_putCopyAtEnd_6 rfl wf_X6_38 rfl (ko_dg _ (by assumption)) (by omega) (kp_pa hps (by assumption)) ?_
  refine qa_iconst (pc1 := 10) dX6_putCopyAtEnd_9 (v := nI 0) kc_i0N rfl ?_
  refine qa_aload_n (pc1 := 11) dX6_putCopyAtEnd_10 rfl rfl rfl ?_
  refine qa_getP (pc1 := 14) dX6_putCopyAtEnd_11 rfl wf_X6_20 rfl ko_net (by omega) (kp_fl hps) ?_
  refine qa_aload_n (pc1 := 15) dX6_putCopyAtEnd_14 rfl rfl rfl ?_
  refine qc_getI (pc1 := 18) dX6_putCopyAtEnd_15 rfl wf_X6_51 rfl ko_net (by omega) (by omega) ?_
  refine qa_top hc ?_
  refine qa_aald (pc1 := 19) dX6_putCopyAtEnd_18 rfl ka_fl rfl (by omega) (by omega) rfl ?_
  refine qa_getP (pc1 := 22) dX6_putCopyAtEnd_19 rfl wf_X6_38 rfl (ko_dg _ (by assumption)) (by omega) (kp_pa hps (by assumption)) ?_
  refine qa_iconst (pc1 := 23) dX6_putCopyAtEnd_22 (v := nI 0) kc_i0N rfl ?_
  refine qa_bipush (pc1 := 25) dX6_putCopyAtEnd_23 (v := nI 8) kc_b8N rfl ?_
  refine qc_copyi (pc1 := 28) dX6_putCopyAtEnd_25 rfl wa_X6_59 (ka_pa _ hda) (ka_pa _ hdb) (by omega) (by omega) (by omega) (by omega) (by decide) (by decide) ?_
  refine qa_aload_n (pc1 := 29) dX6_putCopyAtEnd_28 rfl rfl rfl ?_
  refine qa_dup (pc1 := 30) dX6_putCopyAtEnd_29 rfl ?_
  refine qc_getI (pc1 := 33) dX6_putCopyAtEnd_30 rfl wf_X6_51 rfl ko_net (by omega) (by omega) ?_
  refine qa_top (show _ = nI n from by simp [xc_cpy, e2, hc]) ?_
  refine qa_iconst (pc1 := 34) dX6_putCopyAtEnd_33 (v := (nI 1)) kc_i1N rfl ?_
  refine qn_iadd (pc1 := 35) dX6_putCopyAtEnd_34 rfl ?_
  refine qc_putI (pc1 := 38) dX6_putCopyAtEnd_35 rfl wp_X6_51 rfl rfl rfl ko_net (by omega) (by omega) ?_
  exact qa_vret dX6_putCopyAtEnd_38 rfl rfl rfl rfl rfl
set_option maxRecDepth 20000 in
set_option maxHeartbeats 4000000 in
theorem ct_copyO (hps : kw_ps P) (s : Int32) (hs : ¬ ((¬ s < 0 ∧ ¬ C 2 3 ≤ s) ∧ C 2 3 < 24)) : kw_C l D aC b yX0_copy cX0_copy 2 (some .boolean) 3 [.inr (.inl 1), .inl s] C M P (some (.inl 0)) C M P := by
  refine ax_body (own := RX0) (ini := false) (by decide) rfl (fun h => by cases h) (Nat.le_of_ble_eq_true rfl) ?_
  refine qa_aload_n (pc1 := 1) dX0_copy_0 rfl rfl rfl ?_
  refine qa_getP (pc1 := 4) dX0_copy_1 rfl wf_X0_10 rfl ko_rl (by omega) (kp_net hps) ?_
  refine qa_iload_n (pc1 := 5) dX0_copy_4 rfl rfl rfl ?_
  refine qa_callVi (pc1 := 8) dX0_copy_5 rfl (ct_isPlace _) wc_X0_91 wy_X6_isPlace rfl rfl (ci := k_net) rfl ko_net (by omega) rfl ?_
  refine qb_if_eq (tgt := 21) (pc1 := 11) dX0_copy_8 rfl rfl (fun h8 => ?_) (fun h8 => ?_)
  · refine qa_iconst (pc1 := 22) dX0_copy_21 (v := 0) kc_i0 rfl ?_
    exact qa_iret dX0_copy_22 rfl (by first | rfl | exact kw_bn) rfl rfl rfl rfl
  · refine qa_aload_n (pc1 := 12) dX0_copy_11 rfl rfl rfl ?_
    refine qa_getP (pc1 := 15) dX0_copy_12 rfl wf_X0_10 rfl ko_rl (by omega) (kp_net hps) ?_
    refine qa_callVi (pc1 := 18) dX0_copy_15 rfl ct_isFull wc_X0_109 wy_X6_isFull rfl rfl (ci := k_net) rfl ko_net (by omega) rfl ?_
    refine qb_if_eq (tgt := 23) (pc1 := 21) dX0_copy_18 rfl rfl (fun h18 => ?_) (fun h18 => ?_)
    · exact absurd ⟨h8, Classical.not_not.mp h18⟩ hs
    · refine qa_iconst (pc1 := 22) dX0_copy_21 (v := 0) kc_i0 rfl ?_
      exact qa_iret dX0_copy_22 rfl (by first | rfl | exact kw_bn) rfl rfl rfl rfl
set_option maxRecDepth 20000 in
set_option maxHeartbeats 4000000 in
theorem ct_copyI (hps : kw_ps P) {kk n : Nat} (hkn : kk < n) (hn : n < 24) (hc : C 2 3 = nI n) : kw_C l D aC b yX0_copy cX0_copy 2 (some .boolean) 3 [.inr (.inl 1), .inl (nI kk)] C M P (some (.inl 1)) (xc_copy1 C P kk n) M P := by
  refine ax_body (own := RX0) (ini := false) (by decide) rfl (fun h => by cases h) (Nat.le_of_ble_eq_true rfl) ?_
  refine qa_aload_n (pc1 := 1) dX0_copy_0 rfl rfl rfl ?_
  refine qa_getP (pc1 := 4) dX0_copy_1 rfl wf_X0_10 rfl ko_rl (by omega) (kp_net hps) ?_
  refine qa_iload_n (pc1 := 5) dX0_copy_4 rfl rfl rfl ?_
  refine qa_callVi (pc1 := 8) dX0_copy_5 rfl (ct_isPlace _) wc_X0_91 wy_X6_isPlace rfl rfl (ci := k_net) rfl ko_net (by omega) rfl ?_
  refine qf_if_eq (tgt := 21) (pc1 := 11) dX0_copy_8 rfl rfl (kw_b1.mpr (show ¬ nI kk < 0 ∧ ¬ C 2 3 ≤ nI kk from ⟨nI_pos (by omega), by rw [hc]; exact nI_ge hkn (by omega)⟩)) ?_
  refine qa_aload_n (pc1 := 12) dX0_copy_11 rfl rfl rfl ?_
  refine qa_getP (pc1 := 15) dX0_copy_12 rfl wf_X0_10 rfl ko_rl (by omega) (kp_net hps) ?_
  refine qa_callVi (pc1 := 18) dX0_copy_15 rfl ct_isFull wc_X0_109 wy_X6_isFull rfl rfl (ci := k_net) rfl ko_net (by omega) rfl ?_
  refine qt_if_eq (tgt := 23) dX0_copy_18 rfl (kw_bf (fun h => h (by rw [hc]; exact kw_24 hn))) ?_
  refine qa_aload_n (pc1 := 24) dX0_copy_23 rfl rfl rfl ?_
  refine qa_getP (pc1 := 27) dX0_copy_24 rfl wf_X0_10 rfl ko_rl (by omega) (kp_net hps) ?_
  refine qa_iload_n (pc1 := 28) dX0_copy_27 rfl rfl rfl ?_
  refine qa_callVv (pc1 := 31) dX0_copy_28 rfl (ct_putCopy hps hkn hn hc) wc_X0_113 wy_X6_putCopyAtEnd rfl rfl (ci := k_net) rfl ko_net (by omega) rfl ?_
  refine qa_iconst (pc1 := 32) dX0_copy_31 (v := 1) kc_i1 rfl ?_
  exact qa_iret dX0_copy_32 rfl (by first | rfl | exact kw_bn) rfl rfl rfl rfl
end COPYB
