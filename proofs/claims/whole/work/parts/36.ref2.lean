
def xr_uf (M : ax_I) (id : Int32) (o f : Nat) (u : Int32) : Int32 := match f with
  | 0 => u
  | g + 1 => xr_uf M id (o + 1) g (if ¬ u = 0 ∨ (xr_pg M o ∧ M 184 (10 * o + 2) = id) then 1 else 0)
def xr_fi (M : ax_I) (p f : Nat) (id u : Int32) : Int32 := match f with
  | 0 => id
  | g + 1 => if u = 0 then id else xr_fi M p g (xc_nx id) (xr_uf M (xc_nx id) (4 * p) 4 0)
def xr_sid (M : ax_I) (p : Nat) : Int32 := xr_fi M p 8 (M 185 p) 1
def xr_st1 (M : ax_I) (r : Nat) (s dr : Int32) : ax_I := ax_u (ax_u (ax_u (ax_u (ax_u M 185 (r / 4) (xr_sid M (r / 4))) 184 (10 * r) s) 184 (10 * r + 2) (xr_sid M (r / 4))) 184 (10 * r + 3) dr) 184 (10 * r + 9) 0
def xr_st (M : ax_I) (r : Nat) (s dr : Int32) : ax_I := xr_sl (xr_st1 M r s dr) r
theorem xr_st1_ok {M : ax_I} {r : Nat} {s dr : Int32} (hk : xr_nok M) : xr_nok (xr_st1 M r s dr) := by
  have e : xr_st1 M r s dr 176 7 = M 176 7 := by simp [xr_st1, ax_u]
  unfold xr_nok xr_n; rw [e]; exact hk
def xr_lg (M : ax_I) (r : Nat) (u pw : Int32) : ax_I := ax_u (ax_u (ax_u M 184 (10 * r + 1) 0) 184 (10 * r + 4) u) 184 (10 * r + 5) pw
theorem xr_lg_ok {M : ax_I} {r : Nat} {u pw : Int32} (hk : xr_nok M) : xr_nok (xr_lg M r u pw) := by
  have e : xr_lg M r u pw 176 7 = M 176 7 := by simp [xr_lg, ax_u]
  unfold xr_nok xr_n; rw [e]; exact hk
abbrev xr_due (M : ax_I) (r : Nat) : Prop := xr_pg M r ∧ M 176 5 - M 184 (10 * r + 8) = 5
def xr_gv (M : ax_I) (r : Nat) : ax_I := ax_u (ax_u M 184 (10 * r + 1) (if M 184 (10 * r) = 1 then 3 else M 184 (10 * r + 1))) 184 (10 * r) 0
def xr_ag (M : ax_I) (r : Nat) : ax_I := if xr_due M r then (if M 184 (10 * r + 9) < 3 then xr_sl M r else xr_gv M r) else M
def xr_agn (M : ax_I) (r : Nat) (n : Int32) : Int32 := if xr_due M r ∧ M 184 (10 * r + 9) < 3 then n + 1 else n
def xr_tr (r f : Nat) (M : ax_I) : ax_I := match f with
  | 0 => M
  | g + 1 => xr_tr (r + 1) g (xr_ag M r)
def xr_trn (r f : Nat) (M : ax_I) (n : Int32) : Int32 := match f with
  | 0 => n
  | g + 1 => xr_trn (r + 1) g (xr_ag M r) (xr_agn M r n)
def xr_tk (M : ax_I) : ax_I := ax_u M 176 5 (M 176 5 + 1)
def xr_tt (f : Nat) (M : ax_I) : ax_I := match f with
  | 0 => M
  | g + 1 => xr_tt g (xr_tr 0 8 (xr_tk M))
def xr_ttn (f : Nat) (M : ax_I) (n : Int32) : Int32 := match f with
  | 0 => n
  | g + 1 => xr_ttn g (xr_tr 0 8 (xr_tk M)) (xr_trn 0 8 (xr_tk M) n)
theorem xr_sl2_ok {M : ax_I} {r : Nat} (hk : xr_nok M) : xr_nok (xr_sl2 M r) := by
  have e : xr_sl2 M r 176 7 = M 176 7 := by simp [xr_sl2, ax_u]
  unfold xr_nok xr_n; rw [e]; exact hk
theorem xr_sl_ok {M : ax_I} {r : Nat} (hk : xr_nok M) : xr_nok (xr_sl M r) := by
  refine xr_sl2_ok ?_
  unfold xr_sl1
  split
  · exact xr_snd_ok hk
  · exact xr_snd_ok hk
theorem xr_gv_ok {M : ax_I} {r : Nat} (hk : xr_nok M) : xr_nok (xr_gv M r) := by
  have e : xr_gv M r 176 7 = M 176 7 := by simp [xr_gv, ax_u]
  unfold xr_nok xr_n; rw [e]; exact hk
theorem xr_ag_ok {M : ax_I} {r : Nat} (hk : xr_nok M) : xr_nok (xr_ag M r) := by
  unfold xr_ag
  split
  · split
    · exact xr_sl_ok hk
    · exact xr_gv_ok hk
  · exact hk
theorem xr_tr_ok {f : Nat} : ∀ {r : Nat} {M : ax_I}, xr_nok M → xr_nok (xr_tr r f M) := by
  induction f with
  | zero => intro r M hk; exact hk
  | succ f ih => intro r M hk; exact ih (xr_ag_ok hk)
theorem xr_tk_ok {M : ax_I} (hk : xr_nok M) : xr_nok (xr_tk M) := by
  have e : xr_tk M 176 7 = M 176 7 := by simp [xr_tk, ax_u]
  unfold xr_nok xr_n; rw [e]; exact hk
abbrev xr_fit (M : ax_I) (r : Nat) : Prop := (M 184 (10 * r) = 1 ∧ (M 183 0 = 1 ∨ M 183 0 = 2)) ∨ (M 184 (10 * r) = 3 ∧ M 183 0 = 4)
def xr_ac (M : ax_I) (r : Nat) : Bool := decide (xr_fit M r ∧ M 184 (10 * r + 2) = M 183 1 ∧ xr_right M (M 184 (10 * r + 3)))
def xr_se0 (M : ax_I) (r : Nat) : ax_I := ax_u M 184 (10 * r) (if M 183 0 = 1 then 2 else 0)
def xr_se1 (M : ax_I) (r : Nat) : ax_I := ax_u (xr_se0 M r) 184 (10 * r + 1) (if M 183 0 = 4 then xr_se0 M r 184 (10 * r + 1) else M 183 0)
def xr_settle (M : ax_I) (r : Nat) : ax_I := if M 183 0 = 1 then ax_u (ax_u (xr_se1 M r) 184 (10 * r + 6) (M 183 3)) 184 (10 * r + 7) (M 183 4) else xr_se1 M r
def xr_ap (M : ax_I) (p : Nat) : ax_I := match kw_first (xr_ac M) (4 * p) 4 with
  | none => M
  | some r => xr_settle M r
def xr_apn (M : ax_I) (p : Nat) : Int32 := match kw_first (xr_ac M) (4 * p) 4 with
  | none => 0
  | some _ => 1
def xr_ltell (M : ax_I) (r : Nat) (w : Nat) : Int32 := if w < 2 then M 184 (10 * r + w) else if w = 2 then (if xr_pg M r then M 184 (10 * r + 2) else -1) else if M 184 (10 * r) < 2 then -1 else M 184 (10 * r + 3 + w)

section REFB
variable {l : Launch} {D : va_G} {aC : Nat → ClassId} {b : Nat} {C M : ax_I} {P : ax_P}
set_option maxRecDepth 20000 in
set_option maxHeartbeats 4000000 in
theorem rt_start (hps : kw_ps P) (hk : xr_nok M) {r : Nat} (hr : r < 8) (s dr : Int32) : kw_C l D aC b yX10_start cX10_start 9 none 5 [.inr (.inl 176), .inl (nI r), .inl s, .inl dr] C M P none C (xr_st M r s dr) P := by
  refine ax_body (own := RX10) (ini := false) (by decide) rfl (fun h => by cases h) (Nat.le_of_ble_eq_true rfl) ?_
  have J : ax_G l D aC b RX10 cX10_start 9 none false (kw_rm 5) 191 (ax_F D aC b 191 0 0 (kw_R none kw_K kw_L (kw_gl C (xr_st M r s dr)) P)) (fun _ => True) 111 [(5, .inl (xr_sid M (r / 4))), (0, .inr (.inl 176)), (1, .inl (nI r)), (2, .inl s), (3, .inl dr), (4, .inl (nI (r / 4)))] [] 0 0 kw_K kw_L (kw_gl C M) P := by
    refine qa_aload_n (pc1 := 112) dX10_start_111 rfl rfl rfl ?_
    refine qa_getP (pc1 := 115) dX10_start_112 rfl wf_X10_35 rfl ko_mo (by omega) (show P 176 10 = 185 from kp_mo hps (by decide : kw_mo 10 ≠ 0)) ?_
    refine qa_iload (pc1 := 117) dX10_start_115 rfl rfl ?_
    refine qa_iload (pc1 := 119) dX10_start_117 rfl rfl ?_
    refine qr_iast (pc1 := 120) dX10_start_119 rfl ka_m185 rfl (by omega) (by omega) (by omega) ?_
    refine qa_aload_n (pc1 := 121) dX10_start_120 rfl rfl rfl ?_
    refine qa_getP (pc1 := 124) dX10_start_121 rfl wf_X10_32 rfl ko_mo (by omega) (show P 176 9 = 184 from kp_mo hps (by decide : kw_mo 9 ≠ 0)) ?_
    refine qa_bipush (pc1 := 126) dX10_start_124 (v := (nI 10)) kc_b10N rfl ?_
    refine qa_iload_n (pc1 := 127) dX10_start_126 rfl rfl rfl ?_
    refine qn_imul (pc1 := 128) dX10_start_127 rfl ?_
    refine qa_iload_n (pc1 := 129) dX10_start_128 rfl rfl rfl ?_
    refine qr_iast (pc1 := 130) dX10_start_129 rfl ka_m184 rfl (by omega) (by omega) (by omega) ?_
    refine qa_aload_n (pc1 := 131) dX10_start_130 rfl rfl rfl ?_
    refine qa_getP (pc1 := 134) dX10_start_131 rfl wf_X10_32 rfl ko_mo (by omega) (show P 176 9 = 184 from kp_mo hps (by decide : kw_mo 9 ≠ 0)) ?_
    refine qa_bipush (pc1 := 136) dX10_start_134 (v := (nI 10)) kc_b10N rfl ?_
    refine qa_iload_n (pc1 := 137) dX10_start_136 rfl rfl rfl ?_
    refine qn_imul (pc1 := 138) dX10_start_137 rfl ?_
    refine qa_iconst (pc1 := 139) dX10_start_138 (v := (nI 2)) kc_i2N rfl ?_
    refine qn_iadd (pc1 := 140) dX10_start_139 rfl ?_
    refine qa_iload (pc1 := 142) dX10_start_140 rfl rfl ?_
    refine qr_iast (pc1 := 143) dX10_start_142 rfl ka_m184 rfl (by omega) (by omega) (by omega) ?_
    refine qa_aload_n (pc1 := 144) dX10_start_143 rfl rfl rfl ?_
    refine qa_getP (pc1 := 147) dX10_start_144 rfl wf_X10_32 rfl ko_mo (by omega) (show P 176 9 = 184 from kp_mo hps (by decide : kw_mo 9 ≠ 0)) ?_
    refine qa_bipush (pc1 := 149) dX10_start_147 (v := (nI 10)) kc_b10N rfl ?_
    refine qa_iload_n (pc1 := 150) dX10_start_149 rfl rfl rfl ?_
    refine qn_imul (pc1 := 151) dX10_start_150 rfl ?_
    refine qa_iconst (pc1 := 152) dX10_start_151 (v := (nI 3)) kc_i3N rfl ?_
    refine qn_iadd (pc1 := 153) dX10_start_152 rfl ?_
    refine qa_iload_n (pc1 := 154) dX10_start_153 rfl rfl rfl ?_
    refine qr_iast (pc1 := 155) dX10_start_154 rfl ka_m184 rfl (by omega) (by omega) (by omega) ?_
    refine qa_aload_n (pc1 := 156) dX10_start_155 rfl rfl rfl ?_
    refine qa_getP (pc1 := 159) dX10_start_156 rfl wf_X10_32 rfl ko_mo (by omega) (show P 176 9 = 184 from kp_mo hps (by decide : kw_mo 9 ≠ 0)) ?_
    refine qa_bipush (pc1 := 161) dX10_start_159 (v := (nI 10)) kc_b10N rfl ?_
    refine qa_iload_n (pc1 := 162) dX10_start_161 rfl rfl rfl ?_
    refine qn_imul (pc1 := 163) dX10_start_162 rfl ?_
    refine qa_bipush (pc1 := 165) dX10_start_163 (v := (nI 9)) kc_b9N rfl ?_
    refine qn_iadd (pc1 := 166) dX10_start_165 rfl ?_
    refine qa_iconst (pc1 := 167) dX10_start_166 (v := 0) kc_i0 rfl ?_
    refine qr_iast (pc1 := 168) dX10_start_167 rfl ka_m184 rfl (by omega) (by omega) (by omega) ?_
    have hk1 := xr_st1_ok (r := r) (s := s) (dr := dr) hk
    refine qa_aload_n (pc1 := 169) dX10_start_168 rfl rfl rfl ?_
    refine qa_iload_n (pc1 := 170) dX10_start_169 rfl rfl rfl ?_
    refine qa_callVv (pc1 := 173) dX10_start_170 rfl (rt_sendLine (M := xr_st1 M r s dr) hps hk1 hr) wc_X10_99 wy_X10_sendLine rfl rfl (ci := k_mo) rfl ko_mo (by omega) rfl ?_
    exact qa_vret dX10_start_173 rfl rfl rfl rfl rfl
  have inner : ∀ i, ∀ id u1 : Int32, ax_G l D aC b RX10 cX10_start 9 none false (kw_rm 5) 191 (ax_F D aC b 191 0 0 (kw_R none kw_K kw_L (kw_gl C (xr_st M r s dr)) P)) (fun _ => True) 105 [(6, .inl u1), (0, .inr (.inl 176)), (1, .inl (nI r)), (2, .inl s), (3, .inl dr), (4, .inl (nI (r / 4))), (5, .inl id), (7, .inl (nI i))] [] 0 0 kw_K kw_L (kw_gl C M) P → ∀ o, 4 * (r / 4) ≤ o → o ≤ 4 * (r / 4) + 4 → ∀ u : Int32, xr_uf M id o (4 * (r / 4) + 4 - o) u = u1 → ax_G l D aC b RX10 cX10_start 9 none false (kw_rm 5) 191 (ax_F D aC b 191 0 0 (kw_R none kw_K kw_L (kw_gl C (xr_st M r s dr)) P)) (fun _ => True) 50 [(8, .inl (nI o)), (6, .inl u), (0, .inr (.inl 176)), (1, .inl (nI r)), (2, .inl s), (3, .inl dr), (4, .inl (nI (r / 4))), (5, .inl id), (7, .inl (nI i))] [] 0 0 kw_K kw_L (kw_gl C M) P := by
    intro i id u1 k105
    refine kw_loop (4 * (r / 4) + 4) (fun o ih ho1 ho2 u hf => ?_)
    refine qa_iload (pc1 := 52) dX10_start_50 rfl rfl ?_
    refine qa_iconst (pc1 := 53) dX10_start_52 (v := (nI 4)) kc_i4N rfl ?_
    refine qa_iload (pc1 := 55) dX10_start_53 rfl rfl ?_
    refine qn_imul (pc1 := 56) dX10_start_55 rfl ?_
    refine qa_iconst (pc1 := 57) dX10_start_56 (v := (nI 4)) kc_i4N rfl ?_
    refine qn_iadd (pc1 := 58) dX10_start_57 rfl ?_
    refine qn_ic_ge (tgt := 105) (pc1 := 61) dX10_start_58 rfl rfl (by omega) (by omega) (fun h58 => ?_) (fun h58 => ?_)
    · have e1 : u = u1 := by rw [← hf, show 4 * (r / 4) + 4 - o = 0 from by omega]; rfl
      subst e1
      exact qa_ls (by exact (kw_lsc rfl (kw_lsc rfl (kw_lsc rfl (kw_lsc rfl (kw_lsc rfl (kw_lsc rfl (kw_lsc rfl (kw_lsc rfl kw_lsn))))))))) k105
    · have ho : o < 8 := by omega
      refine qa_iload (pc1 := 63) dX10_start_61 rfl rfl ?_
      refine qa_if_ne (tgt := 92) (pc1 := 66) dX10_start_63 rfl rfl (fun h63 => ?_) (fun h63 => ?_)
      · refine qa_iconst (pc1 := 93) dX10_start_92 (v := 1) kc_i1 rfl ?_
        refine qa_goto (tgt := 97) dX10_start_93 rfl ?_
        refine qa_istore (pc1 := 99) dX10_start_97 (by decide) rfl ?_
        refine qa_iincN (pc1 := 102) dX10_start_99 rfl (by decide) rfl ?_
        refine qa_goto (tgt := 50) dX10_start_102 rfl ?_
        exact qa_ls (by exact (kw_lsc rfl (kw_lsc rfl (kw_lsc rfl (kw_lsc rfl (kw_lsc rfl (kw_lsc rfl (kw_lsc rfl (kw_lsc rfl (kw_lsc rfl kw_lsn)))))))))) (ih (by omega) (by omega) (by omega) _ (by rw [← hf, show 4 * (r / 4) + 4 - o = (4 * (r / 4) + 4 - (o + 1)) + 1 from by omega, xr_uf]; congr 1; grind))
      · refine qa_aload_n (pc1 := 67) dX10_start_66 rfl rfl rfl ?_
        refine qa_iload (pc1 := 69) dX10_start_67 rfl rfl ?_
        refine qa_callVi (pc1 := 72) dX10_start_69 rfl (rt_pending hps (by assumption)) wc_X10_96 wy_X10_pending rfl rfl (ci := k_mo) rfl ko_mo (by omega) rfl ?_
        refine qb_if_eq (tgt := 96) (pc1 := 75) dX10_start_72 rfl rfl (fun h72 => ?_) (fun h72 => ?_)
        · refine qa_iconst (pc1 := 97) dX10_start_96 (v := 0) kc_i0 rfl ?_
          refine qa_istore (pc1 := 99) dX10_start_97 (by decide) rfl ?_
          refine qa_iincN (pc1 := 102) dX10_start_99 rfl (by decide) rfl ?_
          refine qa_goto (tgt := 50) dX10_start_102 rfl ?_
          exact qa_ls (by exact (kw_lsc rfl (kw_lsc rfl (kw_lsc rfl (kw_lsc rfl (kw_lsc rfl (kw_lsc rfl (kw_lsc rfl (kw_lsc rfl (kw_lsc rfl kw_lsn)))))))))) (ih (by omega) (by omega) (by omega) _ (by rw [← hf, show 4 * (r / 4) + 4 - o = (4 * (r / 4) + 4 - (o + 1)) + 1 from by omega, xr_uf]; congr 1; grind))
        · refine qa_aload_n (pc1 := 76) dX10_start_75 rfl rfl rfl ?_
          refine qa_getP (pc1 := 79) dX10_start_76 rfl wf_X10_32 rfl ko_mo (by omega) (show P 176 9 = 184 from kp_mo hps (by decide : kw_mo 9 ≠ 0)) ?_
          refine qa_bipush (pc1 := 81) dX10_start_79 (v := (nI 10)) kc_b10N rfl ?_
          refine qa_iload (pc1 := 83) dX10_start_81 rfl rfl ?_
          refine qn_imul (pc1 := 84) dX10_start_83 rfl ?_
          refine qa_iconst (pc1 := 85) dX10_start_84 (v := (nI 2)) kc_i2N rfl ?_
          refine qn_iadd (pc1 := 86) dX10_start_85 rfl ?_
          refine qr_iald (pc1 := 87) dX10_start_86 rfl ka_m184 rfl (by omega) (by omega) (by omega) ?_
          refine qa_iload (pc1 := 89) dX10_start_87 rfl rfl ?_
          refine qa_ic_ne (tgt := 96) (pc1 := 92) dX10_start_89 rfl rfl (fun h89 => ?_) (fun h89 => ?_)
          · refine qa_iconst (pc1 := 97) dX10_start_96 (v := 0) kc_i0 rfl ?_
            refine qa_istore (pc1 := 99) dX10_start_97 (by decide) rfl ?_
            refine qa_iincN (pc1 := 102) dX10_start_99 rfl (by decide) rfl ?_
            refine qa_goto (tgt := 50) dX10_start_102 rfl ?_
            exact qa_ls (by exact (kw_lsc rfl (kw_lsc rfl (kw_lsc rfl (kw_lsc rfl (kw_lsc rfl (kw_lsc rfl (kw_lsc rfl (kw_lsc rfl (kw_lsc rfl kw_lsn)))))))))) (ih (by omega) (by omega) (by omega) _ (by rw [← hf, show 4 * (r / 4) + 4 - o = (4 * (r / 4) + 4 - (o + 1)) + 1 from by omega, xr_uf]; congr 1; grind))
          · refine qa_iconst (pc1 := 93) dX10_start_92 (v := 1) kc_i1 rfl ?_
            refine qa_goto (tgt := 97) dX10_start_93 rfl ?_
            refine qa_istore (pc1 := 99) dX10_start_97 (by decide) rfl ?_
            refine qa_iincN (pc1 := 102) dX10_start_99 rfl (by decide) rfl ?_
            refine qa_goto (tgt := 50) dX10_start_102 rfl ?_
            exact qa_ls (by exact (kw_lsc rfl (kw_lsc rfl (kw_lsc rfl (kw_lsc rfl (kw_lsc rfl (kw_lsc rfl (kw_lsc rfl (kw_lsc rfl (kw_lsc rfl kw_lsn)))))))))) (ih (by omega) (by omega) (by omega) _ (by rw [← hf, show 4 * (r / 4) + 4 - o = (4 * (r / 4) + 4 - (o + 1)) + 1 from by omega, xr_uf]; congr 1; grind))
  have loop : ∀ i, i ≤ 8 → ∀ id u : Int32, xr_fi M (r / 4) (8 - i) id u = xr_sid M (r / 4) → ax_G l D aC b RX10 cX10_start 9 none false (kw_rm 5) 191 (ax_F D aC b 191 0 0 (kw_R none kw_K kw_L (kw_gl C (xr_st M r s dr)) P)) (fun _ => True) 20 [(7, .inl (nI i)), (5, .inl id), (6, .inl u), (0, .inr (.inl 176)), (1, .inl (nI r)), (2, .inl s), (3, .inl dr), (4, .inl (nI (r / 4)))] [] 0 0 kw_K kw_L (kw_gl C M) P := by
    refine kw_loopB 8 (fun i hiN ih id u hf => ?_)
    refine qa_iload (pc1 := 22) dX10_start_20 rfl rfl ?_
    refine qa_bipush (pc1 := 24) dX10_start_22 (v := (nI 8)) kc_b8N rfl ?_
    refine qn_ic_ge (tgt := 111) (pc1 := 27) dX10_start_24 rfl rfl (by omega) (by omega) (fun h24 => ?_) (fun h24 => ?_)
    · have e1 : id = xr_sid M (r / 4) := by
        rw [← hf]
        by_cases e8 : 8 ≤ i
        · rw [show 8 - i = 0 from by omega]; rfl
        · rw [show 8 - i = (7 - i) + 1 from by omega, xr_fi, if_pos (by grind)]
      subst e1
      exact qa_ls (by exact (kw_lsc rfl (kw_lsc rfl (kw_lsc rfl (kw_lsc rfl (kw_lsc rfl (kw_lsc rfl kw_lsn))))))) J
    · refine qa_iload (pc1 := 29) dX10_start_27 rfl rfl ?_
      refine qa_if_eq (tgt := 111) (pc1 := 32) dX10_start_29 rfl rfl (fun h29 => ?_) (fun h29 => ?_)
      · have e1 : id = xr_sid M (r / 4) := by
          rw [← hf]
          by_cases e8 : 8 ≤ i
          · rw [show 8 - i = 0 from by omega]; rfl
          · rw [show 8 - i = (7 - i) + 1 from by omega, xr_fi, if_pos (by grind)]
        subst e1
        exact qa_ls (by exact (kw_lsc rfl (kw_lsc rfl (kw_lsc rfl (kw_lsc rfl (kw_lsc rfl (kw_lsc rfl kw_lsn))))))) J
      · refine qa_iload (pc1 := 34) dX10_start_32 rfl rfl ?_
        refine qa_iconst (pc1 := 35) dX10_start_34 (v := 1) kc_i1 rfl ?_
        refine qa_iadd (pc1 := 36) dX10_start_35 rfl ?_
        refine qa_bipush (pc1 := 38) dX10_start_36 (v := 8) kc_b8 rfl ?_
        refine qa_irem (pc1 := 39) dX10_start_38 (by decide) rfl ?_
        refine qa_istore (pc1 := 41) dX10_start_39 (by decide) rfl ?_
        refine qa_iconst (pc1 := 42) dX10_start_41 (v := 0) kc_i0 rfl ?_
        refine qa_istore (pc1 := 44) dX10_start_42 (by decide) rfl ?_
        refine qa_iconst (pc1 := 45) dX10_start_44 (v := (nI 4)) kc_i4N rfl ?_
        refine qa_iload (pc1 := 47) dX10_start_45 rfl rfl ?_
        refine qn_imul (pc1 := 48) dX10_start_47 rfl ?_
        refine qa_istore (pc1 := 50) dX10_start_48 (by decide) rfl ?_
        refine qa_ls (by exact (kw_lsc rfl (kw_lsc rfl (kw_lsc rfl (kw_lsc rfl (kw_lsc rfl (kw_lsc rfl (kw_lsc rfl (kw_lsc rfl (kw_lsc rfl kw_lsn)))))))))) (inner i (xc_nx id) (xr_uf M (xc_nx id) (4 * (r / 4)) 4 0) ?_ (4 * (r / 4)) (Nat.le_refl _) (by omega) 0 (by rw [show 4 * (r / 4) + 4 - 4 * (r / 4) = 4 from by omega]))
        refine qa_iincN (pc1 := 108) dX10_start_105 rfl (by decide) rfl ?_
        refine qa_goto (tgt := 20) dX10_start_108 rfl ?_
        exact qa_ls (by exact (kw_lsc rfl (kw_lsc rfl (kw_lsc rfl (kw_lsc rfl (kw_lsc rfl (kw_lsc rfl (kw_lsc rfl (kw_lsc rfl kw_lsn))))))))) (ih (by omega) _ _ (by rw [← hf, show 8 - i = (8 - (i + 1)) + 1 from by omega, xr_fi, if_neg h29]))
  refine qa_iload_n (pc1 := 1) dX10_start_0 rfl rfl rfl ?_
  refine qa_iconst (pc1 := 2) dX10_start_1 (v := (nI 4)) kc_i4N rfl ?_
  refine qn_idiv (pc1 := 3) dX10_start_2 rfl (by omega) (by omega) (by omega) ?_
  refine qa_istore (pc1 := 5) dX10_start_3 (by decide) rfl ?_
  refine qa_aload_n (pc1 := 6) dX10_start_5 rfl rfl rfl ?_
  refine qa_getP (pc1 := 9) dX10_start_6 rfl wf_X10_35 rfl ko_mo (by omega) (show P 176 10 = 185 from kp_mo hps (by decide : kw_mo 10 ≠ 0)) ?_
  refine qa_iload (pc1 := 11) dX10_start_9 rfl rfl ?_
  refine qr_iald (pc1 := 12) dX10_start_11 rfl ka_m185 rfl (by omega) (by omega) (by omega) ?_
  refine qa_istore (pc1 := 14) dX10_start_12 (by decide) rfl ?_
  refine qa_iconst (pc1 := 15) dX10_start_14 (v := 1) kc_i1 rfl ?_
  refine qa_istore (pc1 := 17) dX10_start_15 (by decide) rfl ?_
  refine qa_iconst (pc1 := 18) dX10_start_17 (v := (nI 0)) kc_i0N rfl ?_
  refine qa_istore (pc1 := 20) dX10_start_18 (by decide) rfl ?_
  exact qa_ls (by exact (kw_lsc rfl (kw_lsc rfl (kw_lsc rfl (kw_lsc rfl (kw_lsc rfl (kw_lsc rfl (kw_lsc rfl (kw_lsc rfl kw_lsn))))))))) (loop 0 (Nat.zero_le _) _ _ rfl)
set_option maxRecDepth 20000 in
set_option maxHeartbeats 4000000 in
theorem rt_loginO (p y u pw dr : Int32) (hs : ¬ (¬ p < 0 ∧ ¬ 1 < p ∧ ¬ y < 0 ∧ y ≤ 3)) : kw_C l D aC b yX10_login cX10_login 7 (some .int) 6 [.inr (.inl 176), .inl p, .inl y, .inl u, .inl pw, .inl dr] C M P (some (.inl (-1))) C M P := by
  refine ax_body (own := RX10) (ini := false) (by decide) rfl (fun h => by cases h) (Nat.le_of_ble_eq_true rfl) ?_
  refine qa_iload_n (pc1 := 1) dX10_login_0 rfl rfl rfl ?_
  refine qa_iload_n (pc1 := 2) dX10_login_1 rfl rfl rfl ?_
  refine qa_callSi (pc1 := 5) dX10_login_2 rfl (rt_noLine _ _) wc_X10_109 wy_X10_noLine rfl rfl rfl ?_
  refine qt_if_ne (tgt := 35) dX10_login_5 rfl (kw_b1.mpr hs) ?_
  refine qa_iconst (pc1 := 36) dX10_login_35 (v := (-1)) kc_im1 rfl ?_
  exact qa_iret dX10_login_36 rfl (vp_nar_int _) rfl rfl rfl rfl
set_option maxRecDepth 20000 in
set_option maxHeartbeats 4000000 in
theorem rt_loginO3 (hps : kw_ps P) {p i : Nat} (hp : p < 2) (hi : i < 4) (u pw dr : Int32) (hs : ¬ (¬ u < 0 ∧ ¬ 11 < u ∧ M 184 (40 * p + 10 * i) = 0)) : kw_C l D aC b yX10_login cX10_login 7 (some .int) 6 [.inr (.inl 176), .inl (nI p), .inl (nI i), .inl u, .inl pw, .inl dr] C M P (some (.inl (-1))) C M P := by
  refine ax_body (own := RX10) (ini := false) (by decide) rfl (fun h => by cases h) (Nat.le_of_ble_eq_true rfl) ?_
  refine qa_iload_n (pc1 := 1) dX10_login_0 rfl rfl rfl ?_
  refine qa_iload_n (pc1 := 2) dX10_login_1 rfl rfl rfl ?_
  refine qa_callSi (pc1 := 5) dX10_login_2 rfl (rt_noLine _ _) wc_X10_109 wy_X10_noLine rfl rfl rfl ?_
  refine qf_if_ne (tgt := 35) (pc1 := 8) dX10_login_5 rfl rfl (kw_bf (fun h => h ⟨nI_pos (by omega), nI_nlt (a := 1) (b := p) (by omega) (by decide), nI_pos (by omega), nI_le (a := i) (b := 3) (by omega) (by decide)⟩)) ?_
  refine qa_iload_n (pc1 := 9) dX10_login_8 rfl rfl rfl ?_
  refine qa_if_lt (tgt := 35) (pc1 := 12) dX10_login_9 rfl rfl (fun h9 => ?_) (fun h9 => ?_)
  · refine qa_iconst (pc1 := 36) dX10_login_35 (v := (-1)) kc_im1 rfl ?_
    exact qa_iret dX10_login_36 rfl (vp_nar_int _) rfl rfl rfl rfl
  · refine qa_iload_n (pc1 := 13) dX10_login_12 rfl rfl rfl ?_
    refine qa_bipush (pc1 := 15) dX10_login_13 (v := 11) kc_b11 rfl ?_
    refine qa_ic_gt (tgt := 35) (pc1 := 18) dX10_login_15 rfl rfl (fun h15 => ?_) (fun h15 => ?_)
    · refine qa_iconst (pc1 := 36) dX10_login_35 (v := (-1)) kc_im1 rfl ?_
      exact qa_iret dX10_login_36 rfl (vp_nar_int _) rfl rfl rfl rfl
    · refine qa_aload_n (pc1 := 19) dX10_login_18 rfl rfl rfl ?_
      refine qa_getP (pc1 := 22) dX10_login_19 rfl wf_X10_32 rfl ko_mo (by omega) (show P 176 9 = 184 from kp_mo hps (by decide : kw_mo 9 ≠ 0)) ?_
      refine qa_bipush (pc1 := 24) dX10_login_22 (v := (nI 40)) kc_b40N rfl ?_
      refine qa_iload_n (pc1 := 25) dX10_login_24 rfl rfl rfl ?_
      refine qn_imul (pc1 := 26) dX10_login_25 rfl ?_
      refine qa_bipush (pc1 := 28) dX10_login_26 (v := (nI 10)) kc_b10N rfl ?_
      refine qa_iload_n (pc1 := 29) dX10_login_28 rfl rfl rfl ?_
      refine qn_imul (pc1 := 30) dX10_login_29 rfl ?_
      refine qn_iadd (pc1 := 31) dX10_login_30 rfl ?_
      refine qr_iald (pc1 := 32) dX10_login_31 rfl ka_m184 rfl (by omega) (by omega) (by omega) ?_
      refine qa_if_eq (tgt := 37) (pc1 := 35) dX10_login_32 rfl rfl (fun h32 => ?_) (fun h32 => ?_)
      · exact absurd ⟨h9, h15, h32⟩ hs
      · refine qa_iconst (pc1 := 36) dX10_login_35 (v := (-1)) kc_im1 rfl ?_
        exact qa_iret dX10_login_36 rfl (vp_nar_int _) rfl rfl rfl rfl
set_option maxRecDepth 20000 in
set_option maxHeartbeats 4000000 in
theorem rt_loginI (hps : kw_ps P) (hk : xr_nok M) {p i : Nat} (hp : p < 2) (hi : i < 4) (u pw dr : Int32) (h1 : ¬ u < 0) (h2 : ¬ 11 < u) (h0 : M 184 (40 * p + 10 * i) = 0) : kw_C l D aC b yX10_login cX10_login 7 (some .int) 6 [.inr (.inl 176), .inl (nI p), .inl (nI i), .inl u, .inl pw, .inl dr] C M P (some (.inl ((xr_st (xr_lg M (4 * p + i) u pw) (4 * p + i) 1 dr) 184 (10 * (4 * p + i) + 2)))) C (xr_st (xr_lg M (4 * p + i) u pw) (4 * p + i) 1 dr) P := by
  refine ax_body (own := RX10) (ini := false) (by decide) rfl (fun h => by cases h) (Nat.le_of_ble_eq_true rfl) ?_
  have hr : 4 * p + i < 8 := by omega
  refine qa_iload_n (pc1 := 1) dX10_login_0 rfl rfl rfl ?_
  refine qa_iload_n (pc1 := 2) dX10_login_1 rfl rfl rfl ?_
  refine qa_callSi (pc1 := 5) dX10_login_2 rfl (rt_noLine _ _) wc_X10_109 wy_X10_noLine rfl rfl rfl ?_
  refine qf_if_ne (tgt := 35) (pc1 := 8) dX10_login_5 rfl rfl (kw_bf (fun h => h ⟨nI_pos (by omega), nI_nlt (a := 1) (b := p) (by omega) (by decide), nI_pos (by omega), nI_le (a := i) (b := 3) (by omega) (by decide)⟩)) ?_
  refine qa_iload_n (pc1 := 9) dX10_login_8 rfl rfl rfl ?_
  refine qf_if_lt (tgt := 35) (pc1 := 12) dX10_login_9 rfl rfl h1 ?_
  refine qa_iload_n (pc1 := 13) dX10_login_12 rfl rfl rfl ?_
  refine qa_bipush (pc1 := 15) dX10_login_13 (v := 11) kc_b11 rfl ?_
  refine qf_ic_gt (tgt := 35) (pc1 := 18) dX10_login_15 rfl rfl h2 ?_
  refine qa_aload_n (pc1 := 19) dX10_login_18 rfl rfl rfl ?_
  refine qa_getP (pc1 := 22) dX10_login_19 rfl wf_X10_32 rfl ko_mo (by omega) (show P 176 9 = 184 from kp_mo hps (by decide : kw_mo 9 ≠ 0)) ?_
  refine qa_bipush (pc1 := 24) dX10_login_22 (v := (nI 40)) kc_b40N rfl ?_
  refine qa_iload_n (pc1 := 25) dX10_login_24 rfl rfl rfl ?_
  refine qn_imul (pc1 := 26) dX10_login_25 rfl ?_
  refine qa_bipush (pc1 := 28) dX10_login_26 (v := (nI 10)) kc_b10N rfl ?_
  refine qa_iload_n (pc1 := 29) dX10_login_28 rfl rfl rfl ?_
  refine qn_imul (pc1 := 30) dX10_login_29 rfl ?_
  refine qn_iadd (pc1 := 31) dX10_login_30 rfl ?_
  refine qr_iald (pc1 := 32) dX10_login_31 rfl ka_m184 rfl (by omega) (by omega) (by omega) ?_
  refine qt_if_eq (tgt := 37) dX10_login_32 rfl h0 ?_
  refine qa_iconst (pc1 := 38) dX10_login_37 (v := (nI 4)) kc_i4N rfl ?_
  refine qa_iload_n (pc1 := 39) dX10_login_38 rfl rfl rfl ?_
  refine qn_imul (pc1 := 40) dX10_login_39 rfl ?_
  refine qa_iload_n (pc1 := 41) dX10_login_40 rfl rfl rfl ?_
  refine qn_iadd (pc1 := 42) dX10_login_41 rfl ?_
  refine qa_istore (pc1 := 44) dX10_login_42 (by decide) rfl ?_
  refine qa_aload_n (pc1 := 45) dX10_login_44 rfl rfl rfl ?_
  refine qa_getP (pc1 := 48) dX10_login_45 rfl wf_X10_32 rfl ko_mo (by omega) (show P 176 9 = 184 from kp_mo hps (by decide : kw_mo 9 ≠ 0)) ?_
  refine qa_bipush (pc1 := 50) dX10_login_48 (v := (nI 10)) kc_b10N rfl ?_
  refine qa_iload (pc1 := 52) dX10_login_50 rfl rfl ?_
  refine qn_imul (pc1 := 53) dX10_login_52 rfl ?_
  refine qa_iconst (pc1 := 54) dX10_login_53 (v := (nI 1)) kc_i1N rfl ?_
  refine qn_iadd (pc1 := 55) dX10_login_54 rfl ?_
  refine qa_iconst (pc1 := 56) dX10_login_55 (v := 0) kc_i0 rfl ?_
  refine qr_iast (pc1 := 57) dX10_login_56 rfl ka_m184 rfl (by omega) (by omega) (by omega) ?_
  refine qa_aload_n (pc1 := 58) dX10_login_57 rfl rfl rfl ?_
  refine qa_getP (pc1 := 61) dX10_login_58 rfl wf_X10_32 rfl ko_mo (by omega) (show P 176 9 = 184 from kp_mo hps (by decide : kw_mo 9 ≠ 0)) ?_
  refine qa_bipush (pc1 := 63) dX10_login_61 (v := (nI 10)) kc_b10N rfl ?_
  refine qa_iload (pc1 := 65) dX10_login_63 rfl rfl ?_
  refine qn_imul (pc1 := 66) dX10_login_65 rfl ?_
  refine qa_iconst (pc1 := 67) dX10_login_66 (v := (nI 4)) kc_i4N rfl ?_
  refine qn_iadd (pc1 := 68) dX10_login_67 rfl ?_
  refine qa_iload_n (pc1 := 69) dX10_login_68 rfl rfl rfl ?_
  refine qr_iast (pc1 := 70) dX10_login_69 rfl ka_m184 rfl (by omega) (by omega) (by omega) ?_
  refine qa_aload_n (pc1 := 71) dX10_login_70 rfl rfl rfl ?_
  refine qa_getP (pc1 := 74) dX10_login_71 rfl wf_X10_32 rfl ko_mo (by omega) (show P 176 9 = 184 from kp_mo hps (by decide : kw_mo 9 ≠ 0)) ?_
  refine qa_bipush (pc1 := 76) dX10_login_74 (v := (nI 10)) kc_b10N rfl ?_
  refine qa_iload (pc1 := 78) dX10_login_76 rfl rfl ?_
  refine qn_imul (pc1 := 79) dX10_login_78 rfl ?_
  refine qa_iconst (pc1 := 80) dX10_login_79 (v := (nI 5)) kc_i5N rfl ?_
  refine qn_iadd (pc1 := 81) dX10_login_80 rfl ?_
  refine qa_iload (pc1 := 83) dX10_login_81 rfl rfl ?_
  refine qr_iast (pc1 := 84) dX10_login_83 rfl ka_m184 rfl (by omega) (by omega) (by omega) ?_
  refine qa_aload_n (pc1 := 85) dX10_login_84 rfl rfl rfl ?_
  refine qa_iload (pc1 := 87) dX10_login_85 rfl rfl ?_
  refine qa_iconst (pc1 := 88) dX10_login_87 (v := 1) kc_i1 rfl ?_
  refine qa_iload (pc1 := 90) dX10_login_88 rfl rfl ?_
  refine qa_callVv (pc1 := 93) dX10_login_90 rfl (rt_start (M := xr_lg M (4 * p + i) u pw) hps (xr_lg_ok hk) hr _ _) wc_X10_113 wy_X10_start rfl rfl (ci := k_mo) rfl ko_mo (by omega) rfl ?_
  refine qa_aload_n (pc1 := 94) dX10_login_93 rfl rfl rfl ?_
  refine qa_getP (pc1 := 97) dX10_login_94 rfl wf_X10_32 rfl ko_mo (by omega) (show P 176 9 = 184 from kp_mo hps (by decide : kw_mo 9 ≠ 0)) ?_
  refine qa_bipush (pc1 := 99) dX10_login_97 (v := (nI 10)) kc_b10N rfl ?_
  refine qa_iload (pc1 := 101) dX10_login_99 rfl rfl ?_
  refine qn_imul (pc1 := 102) dX10_login_101 rfl ?_
  refine qa_iconst (pc1 := 103) dX10_login_102 (v := (nI 2)) kc_i2N rfl ?_
  refine qn_iadd (pc1 := 104) dX10_login_103 rfl ?_
  refine qr_iald (pc1 := 105) dX10_login_104 rfl ka_m184 rfl (by omega) (by omega) (by omega) ?_
  exact qa_iret dX10_login_105 rfl (vp_nar_int _) rfl rfl rfl rfl
set_option maxRecDepth 20000 in
set_option maxHeartbeats 4000000 in
theorem rt_logoutO (p y dr : Int32) (hs : ¬ (¬ p < 0 ∧ ¬ 1 < p ∧ ¬ y < 0 ∧ y ≤ 3)) : kw_C l D aC b yX10_logout cX10_logout 5 (some .int) 6 [.inr (.inl 176), .inl p, .inl y, .inl dr] C M P (some (.inl (-1))) C M P := by
  refine ax_body (own := RX10) (ini := false) (by decide) rfl (fun h => by cases h) (Nat.le_of_ble_eq_true rfl) ?_
  refine qa_iload_n (pc1 := 1) dX10_logout_0 rfl rfl rfl ?_
  refine qa_iload_n (pc1 := 2) dX10_logout_1 rfl rfl rfl ?_
  refine qa_callSi (pc1 := 5) dX10_logout_2 rfl (rt_noLine _ _) wc_X10_109 wy_X10_noLine rfl rfl rfl ?_
  refine qt_if_ne (tgt := 26) dX10_logout_5 rfl (kw_b1.mpr hs) ?_
  refine qa_iconst (pc1 := 27) dX10_logout_26 (v := (-1)) kc_im1 rfl ?_
  exact qa_iret dX10_logout_27 rfl (vp_nar_int _) rfl rfl rfl rfl
set_option maxRecDepth 20000 in
set_option maxHeartbeats 4000000 in
theorem rt_logoutO3 (hps : kw_ps P) {p i : Nat} (hp : p < 2) (hi : i < 4) (dr : Int32) (hs : ¬ M 184 (40 * p + 10 * i) = 2) : kw_C l D aC b yX10_logout cX10_logout 5 (some .int) 6 [.inr (.inl 176), .inl (nI p), .inl (nI i), .inl dr] C M P (some (.inl (-1))) C M P := by
  refine ax_body (own := RX10) (ini := false) (by decide) rfl (fun h => by cases h) (Nat.le_of_ble_eq_true rfl) ?_
  refine qa_iload_n (pc1 := 1) dX10_logout_0 rfl rfl rfl ?_
  refine qa_iload_n (pc1 := 2) dX10_logout_1 rfl rfl rfl ?_
  refine qa_callSi (pc1 := 5) dX10_logout_2 rfl (rt_noLine _ _) wc_X10_109 wy_X10_noLine rfl rfl rfl ?_
  refine qf_if_ne (tgt := 26) (pc1 := 8) dX10_logout_5 rfl rfl (kw_bf (fun h => h ⟨nI_pos (by omega), nI_nlt (a := 1) (b := p) (by omega) (by decide), nI_pos (by omega), nI_le (a := i) (b := 3) (by omega) (by decide)⟩)) ?_
  refine qa_aload_n (pc1 := 9) dX10_logout_8 rfl rfl rfl ?_
  refine qa_getP (pc1 := 12) dX10_logout_9 rfl wf_X10_32 rfl ko_mo (by omega) (show P 176 9 = 184 from kp_mo hps (by decide : kw_mo 9 ≠ 0)) ?_
  refine qa_bipush (pc1 := 14) dX10_logout_12 (v := (nI 40)) kc_b40N rfl ?_
  refine qa_iload_n (pc1 := 15) dX10_logout_14 rfl rfl rfl ?_
  refine qn_imul (pc1 := 16) dX10_logout_15 rfl ?_
  refine qa_bipush (pc1 := 18) dX10_logout_16 (v := (nI 10)) kc_b10N rfl ?_
  refine qa_iload_n (pc1 := 19) dX10_logout_18 rfl rfl rfl ?_
  refine qn_imul (pc1 := 20) dX10_logout_19 rfl ?_
  refine qn_iadd (pc1 := 21) dX10_logout_20 rfl ?_
  refine qr_iald (pc1 := 22) dX10_logout_21 rfl ka_m184 rfl (by omega) (by omega) (by omega) ?_
  refine qa_iconst (pc1 := 23) dX10_logout_22 (v := 2) kc_i2 rfl ?_
  refine qf_ic_eq (tgt := 28) (pc1 := 26) dX10_logout_23 rfl rfl hs ?_
  refine qa_iconst (pc1 := 27) dX10_logout_26 (v := (-1)) kc_im1 rfl ?_
  exact qa_iret dX10_logout_27 rfl (vp_nar_int _) rfl rfl rfl rfl
set_option maxRecDepth 20000 in
set_option maxHeartbeats 4000000 in
theorem rt_logoutI (hps : kw_ps P) (hk : xr_nok M) {p i : Nat} (hp : p < 2) (hi : i < 4) (dr : Int32) (h0 : M 184 (40 * p + 10 * i) = 2) : kw_C l D aC b yX10_logout cX10_logout 5 (some .int) 6 [.inr (.inl 176), .inl (nI p), .inl (nI i), .inl dr] C M P (some (.inl ((xr_st M (4 * p + i) 3 dr) 184 (10 * (4 * p + i) + 2)))) C (xr_st M (4 * p + i) 3 dr) P := by
  refine ax_body (own := RX10) (ini := false) (by decide) rfl (fun h => by cases h) (Nat.le_of_ble_eq_true rfl) ?_
  have hr : 4 * p + i < 8 := by omega
  refine qa_iload_n (pc1 := 1) dX10_logout_0 rfl rfl rfl ?_
  refine qa_iload_n (pc1 := 2) dX10_logout_1 rfl rfl rfl ?_
  refine qa_callSi (pc1 := 5) dX10_logout_2 rfl (rt_noLine _ _) wc_X10_109 wy_X10_noLine rfl rfl rfl ?_
  refine qf_if_ne (tgt := 26) (pc1 := 8) dX10_logout_5 rfl rfl (kw_bf (fun h => h ⟨nI_pos (by omega), nI_nlt (a := 1) (b := p) (by omega) (by decide), nI_pos (by omega), nI_le (a := i) (b := 3) (by omega) (by decide)⟩)) ?_
  refine qa_aload_n (pc1 := 9) dX10_logout_8 rfl rfl rfl ?_
  refine qa_getP (pc1 := 12) dX10_logout_9 rfl wf_X10_32 rfl ko_mo (by omega) (show P 176 9 = 184 from kp_mo hps (by decide : kw_mo 9 ≠ 0)) ?_
  refine qa_bipush (pc1 := 14) dX10_logout_12 (v := (nI 40)) kc_b40N rfl ?_
  refine qa_iload_n (pc1 := 15) dX10_logout_14 rfl rfl rfl ?_
  refine qn_imul (pc1 := 16) dX10_logout_15 rfl ?_
  refine qa_bipush (pc1 := 18) dX10_logout_16 (v := (nI 10)) kc_b10N rfl ?_
  refine qa_iload_n (pc1 := 19) dX10_logout_18 rfl rfl rfl ?_
  refine qn_imul (pc1 := 20) dX10_logout_19 rfl ?_
  refine qn_iadd (pc1 := 21) dX10_logout_20 rfl ?_
  refine qr_iald (pc1 := 22) dX10_logout_21 rfl ka_m184 rfl (by omega) (by omega) (by omega) ?_
  refine qa_iconst (pc1 := 23) dX10_logout_22 (v := 2) kc_i2 rfl ?_
  refine qt_ic_eq (tgt := 28) dX10_logout_23 rfl h0 ?_
  refine qa_iconst (pc1 := 29) dX10_logout_28 (v := (nI 4)) kc_i4N rfl ?_
  refine qa_iload_n (pc1 := 30) dX10_logout_29 rfl rfl rfl ?_
  refine qn_imul (pc1 := 31) dX10_logout_30 rfl ?_
  refine qa_iload_n (pc1 := 32) dX10_logout_31 rfl rfl rfl ?_
  refine qn_iadd (pc1 := 33) dX10_logout_32 rfl ?_
  refine qa_istore (pc1 := 35) dX10_logout_33 (by decide) rfl ?_
  refine qa_aload_n (pc1 := 36) dX10_logout_35 rfl rfl rfl ?_
  refine qa_iload (pc1 := 38) dX10_logout_36 rfl rfl ?_
  refine qa_iconst (pc1 := 39) dX10_logout_38 (v := 3) kc_i3 rfl ?_
  refine qa_iload_n (pc1 := 40) dX10_logout_39 rfl rfl rfl ?_
  refine qa_callVv (pc1 := 43) dX10_logout_40 rfl (rt_start hps (by assumption) (by assumption) _ _) wc_X10_113 wy_X10_start rfl rfl (ci := k_mo) rfl ko_mo (by omega) rfl ?_
  refine qa_aload_n (pc1 := 44) dX10_logout_43 rfl rfl rfl ?_
  refine qa_getP (pc1 := 47) dX10_logout_44 rfl wf_X10_32 rfl ko_mo (by omega) (show P 176 9 = 184 from kp_mo hps (by decide : kw_mo 9 ≠ 0)) ?_
  refine qa_bipush (pc1 := 49) dX10_logout_47 (v := (nI 10)) kc_b10N rfl ?_
  refine qa_iload (pc1 := 51) dX10_logout_49 rfl rfl ?_
  refine qn_imul (pc1 := 52) dX10_logout_51 rfl ?_
  refine qa_iconst (pc1 := 53) dX10_logout_52 (v := (nI 2)) kc_i2N rfl ?_
  refine qn_iadd (pc1 := 54) dX10_logout_53 rfl ?_
  refine qr_iald (pc1 := 55) dX10_logout_54 rfl ka_m184 rfl (by omega) (by omega) (by omega) ?_
  exact qa_iret dX10_logout_55 rfl (vp_nar_int _) rfl rfl rfl rfl
set_option maxRecDepth 20000 in
set_option maxHeartbeats 4000000 in
theorem rt_lineO (p y a : Int32) (hs : ¬ (¬ p < 0 ∧ ¬ 1 < p ∧ ¬ y < 0 ∧ y ≤ 3)) : kw_C l D aC b yX10_line cX10_line 6 (some .int) 2 [.inr (.inl 176), .inl p, .inl y, .inl a] C M P (some (.inl (-1))) C M P := by
  refine ax_body (own := RX10) (ini := false) (by decide) rfl (fun h => by cases h) (Nat.le_of_ble_eq_true rfl) ?_
  refine qa_iload_n (pc1 := 1) dX10_line_0 rfl rfl rfl ?_
  refine qa_iload_n (pc1 := 2) dX10_line_1 rfl rfl rfl ?_
  refine qa_callSi (pc1 := 5) dX10_line_2 rfl (rt_noLine _ _) wc_X10_109 wy_X10_noLine rfl rfl rfl ?_
  refine qt_if_ne (tgt := 17) dX10_line_5 rfl (kw_b1.mpr hs) ?_
  refine qa_iconst (pc1 := 18) dX10_line_17 (v := (-1)) kc_im1 rfl ?_
  exact qa_iret dX10_line_18 rfl (vp_nar_int _) rfl rfl rfl rfl
set_option maxRecDepth 20000 in
set_option maxHeartbeats 4000000 in
theorem rt_lineO3 {p i : Nat} (hp : p < 2) (hi : i < 4) (a : Int32) (hs : ¬ vp_in a 5) : kw_C l D aC b yX10_line cX10_line 6 (some .int) 2 [.inr (.inl 176), .inl (nI p), .inl (nI i), .inl a] C M P (some (.inl (-1))) C M P := by
  refine ax_body (own := RX10) (ini := false) (by decide) rfl (fun h => by cases h) (Nat.le_of_ble_eq_true rfl) ?_
  refine qa_iload_n (pc1 := 1) dX10_line_0 rfl rfl rfl ?_
  refine qa_iload_n (pc1 := 2) dX10_line_1 rfl rfl rfl ?_
  refine qa_callSi (pc1 := 5) dX10_line_2 rfl (rt_noLine _ _) wc_X10_109 wy_X10_noLine rfl rfl rfl ?_
  refine qf_if_ne (tgt := 17) (pc1 := 8) dX10_line_5 rfl rfl (kw_bf (fun h => h ⟨nI_pos (by omega), nI_nlt (a := 1) (b := p) (by omega) (by decide), nI_pos (by omega), nI_le (a := i) (b := 3) (by omega) (by decide)⟩)) ?_
  refine qa_iload_n (pc1 := 9) dX10_line_8 rfl rfl rfl ?_
  refine qa_if_lt (tgt := 17) (pc1 := 12) dX10_line_9 rfl rfl (fun h9 => ?_) (fun h9 => ?_)
  · refine qa_iconst (pc1 := 18) dX10_line_17 (v := (-1)) kc_im1 rfl ?_
    exact qa_iret dX10_line_18 rfl (vp_nar_int _) rfl rfl rfl rfl
  · refine qa_iload_n (pc1 := 13) dX10_line_12 rfl rfl rfl ?_
    refine qa_iconst (pc1 := 14) dX10_line_13 (v := 4) kc_i4 rfl ?_
    refine qa_ic_le (tgt := 19) (pc1 := 17) dX10_line_14 rfl rfl (fun h14 => ?_) (fun h14 => ?_)
    · exact absurd (kw_inz rfl h9 h14) hs
    · refine qa_iconst (pc1 := 18) dX10_line_17 (v := (-1)) kc_im1 rfl ?_
      exact qa_iret dX10_line_18 rfl (vp_nar_int _) rfl rfl rfl rfl
set_option maxRecDepth 20000 in
set_option maxHeartbeats 4000000 in
theorem rt_lineI (hps : kw_ps P) {p i : Nat} (hp : p < 2) (hi : i < 4) {a : Nat} (ha : a < 5) : kw_C l D aC b yX10_line cX10_line 6 (some .int) 2 [.inr (.inl 176), .inl (nI p), .inl (nI i), .inl (nI a)] C M P (some (.inl (xr_ltell M (4 * p + i) a))) C M P := by
  refine ax_body (own := RX10) (ini := false) (by decide) rfl (fun h => by cases h) (Nat.le_of_ble_eq_true rfl) ?_
  have hr : 4 * p + i < 8 := by omega
  refine qa_iload_n (pc1 := 1) dX10_line_0 rfl rfl rfl ?_
  refine qa_iload_n (pc1 := 2) dX10_line_1 rfl rfl rfl ?_
  refine qa_callSi (pc1 := 5) dX10_line_2 rfl (rt_noLine _ _) wc_X10_109 wy_X10_noLine rfl rfl rfl ?_
  refine qf_if_ne (tgt := 17) (pc1 := 8) dX10_line_5 rfl rfl (kw_bf (fun h => h ⟨nI_pos (by omega), nI_nlt (a := 1) (b := p) (by omega) (by decide), nI_pos (by omega), nI_le (a := i) (b := 3) (by omega) (by decide)⟩)) ?_
  refine qa_iload_n (pc1 := 9) dX10_line_8 rfl rfl rfl ?_
  refine qn_if_lt (tgt := 17) (pc1 := 12) dX10_line_9 rfl rfl (by omega) ?_
  refine qa_iload_n (pc1 := 13) dX10_line_12 rfl rfl rfl ?_
  refine qa_iconst (pc1 := 14) dX10_line_13 (v := 4) kc_i4 rfl ?_
  refine qt_ic_le (tgt := 19) dX10_line_14 rfl (nI_le (a := a) (b := 4) (by omega) (by decide)) ?_
  refine qa_iconst (pc1 := 20) dX10_line_19 (v := (nI 4)) kc_i4N rfl ?_
  refine qa_iload_n (pc1 := 21) dX10_line_20 rfl rfl rfl ?_
  refine qn_imul (pc1 := 22) dX10_line_21 rfl ?_
  refine qa_iload_n (pc1 := 23) dX10_line_22 rfl rfl rfl ?_
  refine qn_iadd (pc1 := 24) dX10_line_23 rfl ?_
  refine qa_istore (pc1 := 26) dX10_line_24 (by decide) rfl ?_
  refine qa_bipush (pc1 := 28) dX10_line_26 (v := (nI 10)) kc_b10N rfl ?_
  refine qa_iload (pc1 := 30) dX10_line_28 rfl rfl ?_
  refine qn_imul (pc1 := 31) dX10_line_30 rfl ?_
  refine qa_istore (pc1 := 33) dX10_line_31 (by decide) rfl ?_
  refine qa_iload_n (pc1 := 34) dX10_line_33 rfl rfl rfl ?_
  refine qa_iconst (pc1 := 35) dX10_line_34 (v := (nI 2)) kc_i2N rfl ?_
  refine qn_ic_ge (tgt := 48) (pc1 := 38) dX10_line_35 rfl rfl (by omega) (by omega) (fun h35 => ?_) (fun h35 => ?_)
  · refine qa_iload_n (pc1 := 49) dX10_line_48 rfl rfl rfl ?_
    refine qa_iconst (pc1 := 50) dX10_line_49 (v := (nI 2)) kc_i2N rfl ?_
    refine qn_ic_ne (tgt := 76) (pc1 := 53) dX10_line_50 rfl rfl (by omega) (by omega) (fun h50 => ?_) (fun h50 => ?_)
    · refine qa_aload_n (pc1 := 77) dX10_line_76 rfl rfl rfl ?_
      refine qa_getP (pc1 := 80) dX10_line_77 rfl wf_X10_32 rfl ko_mo (by omega) (show P 176 9 = 184 from kp_mo hps (by decide : kw_mo 9 ≠ 0)) ?_
      refine qa_iload (pc1 := 82) dX10_line_80 rfl rfl ?_
      refine qr_iald (pc1 := 83) dX10_line_82 rfl ka_m184 rfl (by omega) (by omega) (by omega) ?_
      refine qa_iconst (pc1 := 84) dX10_line_83 (v := 2) kc_i2 rfl ?_
      refine qa_ic_ge (tgt := 91) (pc1 := 87) dX10_line_84 rfl rfl (fun h84 => ?_) (fun h84 => ?_)
      · refine qa_aload_n (pc1 := 92) dX10_line_91 rfl rfl rfl ?_
        refine qa_getP (pc1 := 95) dX10_line_92 rfl wf_X10_32 rfl ko_mo (by omega) (show P 176 9 = 184 from kp_mo hps (by decide : kw_mo 9 ≠ 0)) ?_
        refine qa_iload (pc1 := 97) dX10_line_95 rfl rfl ?_
        refine qa_iconst (pc1 := 98) dX10_line_97 (v := (nI 3)) kc_i3N rfl ?_
        refine qn_iadd (pc1 := 99) dX10_line_98 rfl ?_
        refine qa_iload_n (pc1 := 100) dX10_line_99 rfl rfl rfl ?_
        refine qn_iadd (pc1 := 101) dX10_line_100 rfl ?_
        refine qr_iald (pc1 := 102) dX10_line_101 rfl ka_m184 rfl (by omega) (by omega) (by omega) ?_
        exact qa_iret dX10_line_102 rfl (vp_nar_int _) (by simp only [xr_ltell]; grind) rfl rfl rfl
      · refine qa_iconst (pc1 := 88) dX10_line_87 (v := (-1)) kc_im1 rfl ?_
        refine qa_goto (tgt := 102) dX10_line_88 rfl ?_
        exact qa_iret dX10_line_102 rfl (vp_nar_int _) (by simp only [xr_ltell]; grind) rfl rfl rfl
    · refine qa_aload_n (pc1 := 54) dX10_line_53 rfl rfl rfl ?_
      refine qa_iload (pc1 := 56) dX10_line_54 rfl rfl ?_
      refine qa_callVi (pc1 := 59) dX10_line_56 rfl (rt_pending hps (by assumption)) wc_X10_96 wy_X10_pending rfl rfl (ci := k_mo) rfl ko_mo (by omega) rfl ?_
      refine qb_if_eq (tgt := 74) (pc1 := 62) dX10_line_59 rfl rfl (fun h59 => ?_) (fun h59 => ?_)
      · refine qa_iconst (pc1 := 75) dX10_line_74 (v := (-1)) kc_im1 rfl ?_
        exact qa_iret dX10_line_75 rfl (vp_nar_int _) (by simp only [xr_ltell]; grind) rfl rfl rfl
      · refine qa_aload_n (pc1 := 63) dX10_line_62 rfl rfl rfl ?_
        refine qa_getP (pc1 := 66) dX10_line_63 rfl wf_X10_32 rfl ko_mo (by omega) (show P 176 9 = 184 from kp_mo hps (by decide : kw_mo 9 ≠ 0)) ?_
        refine qa_iload (pc1 := 68) dX10_line_66 rfl rfl ?_
        refine qa_iconst (pc1 := 69) dX10_line_68 (v := (nI 2)) kc_i2N rfl ?_
        refine qn_iadd (pc1 := 70) dX10_line_69 rfl ?_
        refine qr_iald (pc1 := 71) dX10_line_70 rfl ka_m184 rfl (by omega) (by omega) (by omega) ?_
        refine qa_goto (tgt := 75) dX10_line_71 rfl ?_
        exact qa_iret dX10_line_75 rfl (vp_nar_int _) (by simp only [xr_ltell]; grind) rfl rfl rfl
  · refine qa_aload_n (pc1 := 39) dX10_line_38 rfl rfl rfl ?_
    refine qa_getP (pc1 := 42) dX10_line_39 rfl wf_X10_32 rfl ko_mo (by omega) (show P 176 9 = 184 from kp_mo hps (by decide : kw_mo 9 ≠ 0)) ?_
    refine qa_iload (pc1 := 44) dX10_line_42 rfl rfl ?_
    refine qa_iload_n (pc1 := 45) dX10_line_44 rfl rfl rfl ?_
    refine qn_iadd (pc1 := 46) dX10_line_45 rfl ?_
    refine qr_iald (pc1 := 47) dX10_line_46 rfl ka_m184 rfl (by omega) (by omega) (by omega) ?_
    exact qa_iret dX10_line_47 rfl (vp_nar_int _) (by simp only [xr_ltell]; grind) rfl rfl rfl
set_option maxRecDepth 20000 in
set_option maxHeartbeats 4000000 in
theorem rt_tickO (s : Int32) (hs : ¬ (¬ s < 1 ∧ s ≤ 10)) : kw_C l D aC b yX10_tick cX10_tick 6 (some .int) 6 [.inr (.inl 176), .inl s] C M P (some (.inl (-1))) C M P := by
  refine ax_body (own := RX10) (ini := false) (by decide) rfl (fun h => by cases h) (Nat.le_of_ble_eq_true rfl) ?_
  refine qa_iload_n (pc1 := 1) dX10_tick_0 rfl rfl rfl ?_
  refine qa_iconst (pc1 := 2) dX10_tick_1 (v := 1) kc_i1 rfl ?_
  refine qa_ic_lt (tgt := 11) (pc1 := 5) dX10_tick_2 rfl rfl (fun h2 => ?_) (fun h2 => ?_)
  · refine qa_iconst (pc1 := 12) dX10_tick_11 (v := (-1)) kc_im1 rfl ?_
    exact qa_iret dX10_tick_12 rfl (vp_nar_int _) rfl rfl rfl rfl
  · refine qa_iload_n (pc1 := 6) dX10_tick_5 rfl rfl rfl ?_
    refine qa_bipush (pc1 := 8) dX10_tick_6 (v := 10) kc_b10 rfl ?_
    refine qa_ic_le (tgt := 13) (pc1 := 11) dX10_tick_8 rfl rfl (fun h8 => ?_) (fun h8 => ?_)
    · exact absurd ⟨h2, h8⟩ hs
    · refine qa_iconst (pc1 := 12) dX10_tick_11 (v := (-1)) kc_im1 rfl ?_
      exact qa_iret dX10_tick_12 rfl (vp_nar_int _) rfl rfl rfl rfl
set_option maxRecDepth 20000 in
set_option maxHeartbeats 4000000 in
theorem rt_tickI (hps : kw_ps P) (hk0 : xr_nok M) {t : Nat} (h1 : 1 ≤ t) (h10 : t ≤ 10) : kw_C l D aC b yX10_tick cX10_tick 6 (some .int) 6 [.inr (.inl 176), .inl (nI t)] C M P (some (.inl (xr_ttn t M 0))) C (xr_tt t M) P := by
  refine ax_body (own := RX10) (ini := false) (by decide) rfl (fun h => by cases h) (Nat.le_of_ble_eq_true rfl) ?_
  have inner : ∀ i, ∀ M2 : ax_I, ∀ n1 : Int32, ax_G l D aC b RX10 cX10_tick 6 (some .int) false (kw_rm 6) 191 (ax_F D aC b 191 0 0 (kw_R (some (.inl (xr_ttn t M 0))) kw_K kw_L (kw_gl C (xr_tt t M)) P)) (fun _ => True) 150 [(2, .inl n1), (0, .inr (.inl 176)), (1, .inl (nI t)), (3, .inl (nI i))] [] 0 0 kw_K kw_L (kw_gl C M2) P → ∀ r, r ≤ 8 → ∀ M1 : ax_I, ∀ n : Int32, xr_nok M1 → xr_tr r (8 - r) M1 = M2 → xr_trn r (8 - r) M1 n = n1 → ax_G l D aC b RX10 cX10_tick 6 (some .int) false (kw_rm 6) 191 (ax_F D aC b 191 0 0 (kw_R (some (.inl (xr_ttn t M 0))) kw_K kw_L (kw_gl C (xr_tt t M)) P)) (fun _ => True) 35 [(4, .inl (nI r)), (2, .inl n), (0, .inr (.inl 176)), (1, .inl (nI t)), (3, .inl (nI i))] [] 0 0 kw_K kw_L (kw_gl C M1) P := by
    intro i M2 n1 k150
    refine kw_loopB 8 (fun r hiN ih M1 n hk hf hg => ?_)
    refine qa_iload (pc1 := 37) dX10_tick_35 rfl rfl ?_
    refine qa_bipush (pc1 := 39) dX10_tick_37 (v := (nI 8)) kc_b8N rfl ?_
    refine qn_ic_ge (tgt := 150) (pc1 := 42) dX10_tick_39 rfl rfl (by omega) (by omega) (fun h39 => ?_) (fun h39 => ?_)
    · have e1 : M1 = M2 := by rw [← hf, show 8 - r = 0 from by omega]; rfl
      have e2 : n = n1 := by rw [← hg, show 8 - r = 0 from by omega]; rfl
      subst e1 e2
      exact qa_ls (by exact (kw_lsc rfl (kw_lsc rfl (kw_lsc rfl (kw_lsc rfl kw_lsn))))) k150
    · have hr : r < 8 := by omega
      refine qa_bipush (pc1 := 44) dX10_tick_42 (v := (nI 10)) kc_b10N rfl ?_
      refine qa_iload (pc1 := 46) dX10_tick_44 rfl rfl ?_
      refine qn_imul (pc1 := 47) dX10_tick_46 rfl ?_
      refine qa_istore (pc1 := 49) dX10_tick_47 (by decide) rfl ?_
      refine qa_aload_n (pc1 := 50) dX10_tick_49 rfl rfl rfl ?_
      refine qa_iload (pc1 := 52) dX10_tick_50 rfl rfl ?_
      refine qa_callVi (pc1 := 55) dX10_tick_52 rfl (rt_pending hps (by assumption)) wc_X10_96 wy_X10_pending rfl rfl (ci := k_mo) rfl ko_mo (by omega) rfl ?_
      refine qb_if_eq (tgt := 144) (pc1 := 58) dX10_tick_55 rfl rfl (fun h55 => ?_) (fun h55 => ?_)
      · refine qa_iincN (pc1 := 147) dX10_tick_144 rfl (by decide) rfl ?_
        refine qa_goto (tgt := 35) dX10_tick_147 rfl ?_
        refine qa_memM (M1 := xr_ag M1 r) (by simp only [xr_ag, xr_due, xr_gv]; grind) ?_
        exact qa_ls (by exact (kw_lsc rfl (kw_lsc rfl (kw_lsc rfl (kw_lsc rfl (kw_lsc rfl kw_lsn)))))) (ih (by omega) _ _ (xr_ag_ok hk) (by rw [← hf, show 8 - r = (8 - (r + 1)) + 1 from by omega]; rfl) (by rw [← hg, show 8 - r = (8 - (r + 1)) + 1 from by omega, xr_trn]; congr 1; simp only [xr_agn, xr_due]; grind))
      · refine qa_aload_n (pc1 := 59) dX10_tick_58 rfl rfl rfl ?_
        refine qr_getI (pc1 := 62) dX10_tick_59 rfl wf_X10_106 rfl ko_mo (by omega) (by omega) ?_
        refine qa_aload_n (pc1 := 63) dX10_tick_62 rfl rfl rfl ?_
        refine qa_getP (pc1 := 66) dX10_tick_63 rfl wf_X10_32 rfl ko_mo (by omega) (show P 176 9 = 184 from kp_mo hps (by decide : kw_mo 9 ≠ 0)) ?_
        refine qa_iload (pc1 := 68) dX10_tick_66 rfl rfl ?_
        refine qa_bipush (pc1 := 70) dX10_tick_68 (v := (nI 8)) kc_b8N rfl ?_
        refine qn_iadd (pc1 := 71) dX10_tick_70 rfl ?_
        refine qr_iald (pc1 := 72) dX10_tick_71 rfl ka_m184 rfl (by omega) (by omega) (by omega) ?_
        refine qa_isub (pc1 := 73) dX10_tick_72 rfl ?_
        refine qa_iconst (pc1 := 74) dX10_tick_73 (v := 5) kc_i5 rfl ?_
        refine qa_ic_ne (tgt := 144) (pc1 := 77) dX10_tick_74 rfl rfl (fun h74 => ?_) (fun h74 => ?_)
        · refine qa_iincN (pc1 := 147) dX10_tick_144 rfl (by decide) rfl ?_
          refine qa_goto (tgt := 35) dX10_tick_147 rfl ?_
          refine qa_memM (M1 := xr_ag M1 r) (by simp only [xr_ag, xr_due, xr_gv]; grind) ?_
          exact qa_ls (by exact (kw_lsc rfl (kw_lsc rfl (kw_lsc rfl (kw_lsc rfl (kw_lsc rfl kw_lsn)))))) (ih (by omega) _ _ (xr_ag_ok hk) (by rw [← hf, show 8 - r = (8 - (r + 1)) + 1 from by omega]; rfl) (by rw [← hg, show 8 - r = (8 - (r + 1)) + 1 from by omega, xr_trn]; congr 1; simp only [xr_agn, xr_due]; grind))
        · refine qa_aload_n (pc1 := 78) dX10_tick_77 rfl rfl rfl ?_
          refine qa_getP (pc1 := 81) dX10_tick_78 rfl wf_X10_32 rfl ko_mo (by omega) (show P 176 9 = 184 from kp_mo hps (by decide : kw_mo 9 ≠ 0)) ?_
          refine qa_iload (pc1 := 83) dX10_tick_81 rfl rfl ?_
          refine qa_bipush (pc1 := 85) dX10_tick_83 (v := (nI 9)) kc_b9N rfl ?_
          refine qn_iadd (pc1 := 86) dX10_tick_85 rfl ?_
          refine qr_iald (pc1 := 87) dX10_tick_86 rfl ka_m184 rfl (by omega) (by omega) (by omega) ?_
          refine qa_iconst (pc1 := 88) dX10_tick_87 (v := 3) kc_i3 rfl ?_
          refine qa_ic_ge (tgt := 103) (pc1 := 91) dX10_tick_88 rfl rfl (fun h88 => ?_) (fun h88 => ?_)
          · refine qa_aload_n (pc1 := 104) dX10_tick_103 rfl rfl rfl ?_
            refine qa_getP (pc1 := 107) dX10_tick_104 rfl wf_X10_32 rfl ko_mo (by omega) (show P 176 9 = 184 from kp_mo hps (by decide : kw_mo 9 ≠ 0)) ?_
            refine qa_iload (pc1 := 109) dX10_tick_107 rfl rfl ?_
            refine qa_iconst (pc1 := 110) dX10_tick_109 (v := (nI 1)) kc_i1N rfl ?_
            refine qn_iadd (pc1 := 111) dX10_tick_110 rfl ?_
            refine qa_aload_n (pc1 := 112) dX10_tick_111 rfl rfl rfl ?_
            refine qa_getP (pc1 := 115) dX10_tick_112 rfl wf_X10_32 rfl ko_mo (by omega) (show P 176 9 = 184 from kp_mo hps (by decide : kw_mo 9 ≠ 0)) ?_
            refine qa_iload (pc1 := 117) dX10_tick_115 rfl rfl ?_
            refine qr_iald (pc1 := 118) dX10_tick_117 rfl ka_m184 rfl (by omega) (by omega) (by omega) ?_
            refine qa_iconst (pc1 := 119) dX10_tick_118 (v := 1) kc_i1 rfl ?_
            refine qa_ic_ne (tgt := 126) (pc1 := 122) dX10_tick_119 rfl rfl (fun h119 => ?_) (fun h119 => ?_)
            · refine qa_aload_n (pc1 := 127) dX10_tick_126 rfl rfl rfl ?_
              refine qa_getP (pc1 := 130) dX10_tick_127 rfl wf_X10_32 rfl ko_mo (by omega) (show P 176 9 = 184 from kp_mo hps (by decide : kw_mo 9 ≠ 0)) ?_
              refine qa_iload (pc1 := 132) dX10_tick_130 rfl rfl ?_
              refine qa_iconst (pc1 := 133) dX10_tick_132 (v := (nI 1)) kc_i1N rfl ?_
              refine qn_iadd (pc1 := 134) dX10_tick_133 rfl ?_
              refine qr_iald (pc1 := 135) dX10_tick_134 rfl ka_m184 rfl (by omega) (by omega) (by omega) ?_
              refine qr_iast (pc1 := 136) dX10_tick_135 rfl ka_m184 rfl (by omega) (by omega) (by omega) ?_
              refine qa_aload_n (pc1 := 137) dX10_tick_136 rfl rfl rfl ?_
              refine qa_getP (pc1 := 140) dX10_tick_137 rfl wf_X10_32 rfl ko_mo (by omega) (show P 176 9 = 184 from kp_mo hps (by decide : kw_mo 9 ≠ 0)) ?_
              refine qa_iload (pc1 := 142) dX10_tick_140 rfl rfl ?_
              refine qa_iconst (pc1 := 143) dX10_tick_142 (v := 0) kc_i0 rfl ?_
              refine qr_iast (pc1 := 144) dX10_tick_143 rfl ka_m184 rfl (by omega) (by omega) (by omega) ?_
              refine qa_iincN (pc1 := 147) dX10_tick_144 rfl (by decide) rfl ?_
              refine qa_goto (tgt := 35) dX10_tick_147 rfl ?_
              refine qa_memM (M1 := xr_ag M1 r) (by simp only [xr_ag, xr_due, xr_gv]; grind) ?_
              exact qa_ls (by exact (kw_lsc rfl (kw_lsc rfl (kw_lsc rfl (kw_lsc rfl (kw_lsc rfl kw_lsn)))))) (ih (by omega) _ _ (xr_ag_ok hk) (by rw [← hf, show 8 - r = (8 - (r + 1)) + 1 from by omega]; rfl) (by rw [← hg, show 8 - r = (8 - (r + 1)) + 1 from by omega, xr_trn]; congr 1; simp only [xr_agn, xr_due]; grind))
            · refine qa_iconst (pc1 := 123) dX10_tick_122 (v := 3) kc_i3 rfl ?_
              refine qa_goto (tgt := 135) dX10_tick_123 rfl ?_
              refine qr_iast (pc1 := 136) dX10_tick_135 rfl ka_m184 rfl (by omega) (by omega) (by omega) ?_
              refine qa_aload_n (pc1 := 137) dX10_tick_136 rfl rfl rfl ?_
              refine qa_getP (pc1 := 140) dX10_tick_137 rfl wf_X10_32 rfl ko_mo (by omega) (show P 176 9 = 184 from kp_mo hps (by decide : kw_mo 9 ≠ 0)) ?_
              refine qa_iload (pc1 := 142) dX10_tick_140 rfl rfl ?_
              refine qa_iconst (pc1 := 143) dX10_tick_142 (v := 0) kc_i0 rfl ?_
              refine qr_iast (pc1 := 144) dX10_tick_143 rfl ka_m184 rfl (by omega) (by omega) (by omega) ?_
              refine qa_iincN (pc1 := 147) dX10_tick_144 rfl (by decide) rfl ?_
              refine qa_goto (tgt := 35) dX10_tick_147 rfl ?_
              refine qa_memM (M1 := xr_ag M1 r) (by simp only [xr_ag, xr_due, xr_gv]; grind) ?_
              exact qa_ls (by exact (kw_lsc rfl (kw_lsc rfl (kw_lsc rfl (kw_lsc rfl (kw_lsc rfl kw_lsn)))))) (ih (by omega) _ _ (xr_ag_ok hk) (by rw [← hf, show 8 - r = (8 - (r + 1)) + 1 from by omega]; rfl) (by rw [← hg, show 8 - r = (8 - (r + 1)) + 1 from by omega, xr_trn]; congr 1; simp only [xr_agn, xr_due]; grind))
          · refine qa_aload_n (pc1 := 92) dX10_tick_91 rfl rfl rfl ?_
            refine qa_iload (pc1 := 94) dX10_tick_92 rfl rfl ?_
            refine qa_callVv (pc1 := 97) dX10_tick_94 rfl (rt_sendLine hps (by assumption) (by assumption)) wc_X10_99 wy_X10_sendLine rfl rfl (ci := k_mo) rfl ko_mo (by omega) rfl ?_
            refine qa_iinc1 (pc1 := 100) dX10_tick_97 rfl (by decide) rfl ?_
            refine qa_goto (tgt := 144) dX10_tick_100 rfl ?_
            refine qa_iincN (pc1 := 147) dX10_tick_144 rfl (by decide) rfl ?_
            refine qa_goto (tgt := 35) dX10_tick_147 rfl ?_
            refine qa_memM (M1 := xr_ag M1 r) (by simp only [xr_ag, xr_due, xr_gv]; grind) ?_
            exact qa_ls (by exact (kw_lsc rfl (kw_lsc rfl (kw_lsc rfl (kw_lsc rfl (kw_lsc rfl kw_lsn)))))) (ih (by omega) _ _ (xr_ag_ok hk) (by rw [← hf, show 8 - r = (8 - (r + 1)) + 1 from by omega]; rfl) (by rw [← hg, show 8 - r = (8 - (r + 1)) + 1 from by omega, xr_trn]; congr 1; simp only [xr_agn, xr_due]; grind))
  have loop : ∀ i, i ≤ t → ∀ M1 : ax_I, ∀ n : Int32, xr_nok M1 → xr_tt (t - i) M1 = xr_tt t M → xr_ttn (t - i) M1 n = xr_ttn t M 0 → ax_G l D aC b RX10 cX10_tick 6 (some .int) false (kw_rm 6) 191 (ax_F D aC b 191 0 0 (kw_R (some (.inl (xr_ttn t M 0))) kw_K kw_L (kw_gl C (xr_tt t M)) P)) (fun _ => True) 17 [(3, .inl (nI i)), (2, .inl n), (0, .inr (.inl 176)), (1, .inl (nI t))] [] 0 0 kw_K kw_L (kw_gl C M1) P := by
    refine kw_loopB t (fun i hiN ih M1 n hk hf hg => ?_)
    refine qa_iload_n (pc1 := 18) dX10_tick_17 rfl rfl rfl ?_
    refine qa_iload_n (pc1 := 19) dX10_tick_18 rfl rfl rfl ?_
    refine qn_ic_ge (tgt := 156) (pc1 := 22) dX10_tick_19 rfl rfl (by omega) (by omega) (fun h19 => ?_) (fun h19 => ?_)
    · refine qa_iload_n (pc1 := 157) dX10_tick_156 rfl rfl rfl ?_
      exact qa_iret dX10_tick_157 rfl (vp_nar_int _) (by rw [← hg, show t - i = 0 from by omega]; rfl) rfl (by rw [← hf, show t - i = 0 from by omega]; rfl) rfl
    · refine qa_aload_n (pc1 := 23) dX10_tick_22 rfl rfl rfl ?_
      refine qa_dup (pc1 := 24) dX10_tick_23 rfl ?_
      refine qr_getI (pc1 := 27) dX10_tick_24 rfl wf_X10_106 rfl ko_mo (by omega) (by omega) ?_
      refine qa_iconst (pc1 := 28) dX10_tick_27 (v := 1) kc_i1 rfl ?_
      refine qa_iadd (pc1 := 29) dX10_tick_28 rfl ?_
      refine qr_putI (pc1 := 32) dX10_tick_29 rfl wp_X10_106 rfl rfl rfl ko_mo (by omega) (by omega) ?_
      refine qa_iconst (pc1 := 33) dX10_tick_32 (v := (nI 0)) kc_i0N rfl ?_
      refine qa_istore (pc1 := 35) dX10_tick_33 (by decide) rfl ?_
      have hk2 := xr_tk_ok hk
      refine qa_ls (by exact (kw_lsc rfl (kw_lsc rfl (kw_lsc rfl (kw_lsc rfl (kw_lsc rfl kw_lsn)))))) (inner i (xr_tr 0 8 (xr_tk M1)) (xr_trn 0 8 (xr_tk M1) n) ?_ 0 (Nat.zero_le _) (xr_tk M1) n hk2 rfl rfl)
      refine qa_iincN (pc1 := 153) dX10_tick_150 rfl (by decide) rfl ?_
      refine qa_goto (tgt := 17) dX10_tick_153 rfl ?_
      exact qa_ls (by exact (kw_lsc rfl (kw_lsc rfl (kw_lsc rfl (kw_lsc rfl kw_lsn))))) (ih (by omega) _ _ (xr_tr_ok hk2) (by rw [← hf, show t - i = (t - (i + 1)) + 1 from by omega]; rfl) (by rw [← hg, show t - i = (t - (i + 1)) + 1 from by omega]; rfl))
  refine qa_iload_n (pc1 := 1) dX10_tick_0 rfl rfl rfl ?_
  refine qa_iconst (pc1 := 2) dX10_tick_1 (v := 1) kc_i1 rfl ?_
  refine qf_ic_lt (tgt := 11) (pc1 := 5) dX10_tick_2 rfl rfl (nI_nlt (a := t) (b := 1) h1 (by omega)) ?_
  refine qa_iload_n (pc1 := 6) dX10_tick_5 rfl rfl rfl ?_
  refine qa_bipush (pc1 := 8) dX10_tick_6 (v := 10) kc_b10 rfl ?_
  refine qt_ic_le (tgt := 13) dX10_tick_8 rfl (nI_le (a := t) (b := 10) h10 (by decide)) ?_
  refine qa_iconst (pc1 := 14) dX10_tick_13 (v := 0) kc_i0 rfl ?_
  refine qa_istore_n (pc1 := 15) dX10_tick_14 rfl (by decide) rfl ?_
  refine qa_iconst (pc1 := 16) dX10_tick_15 (v := (nI 0)) kc_i0N rfl ?_
  refine qa_istore_n (pc1 := 17) dX10_tick_16 rfl (by decide) rfl ?_
  exact qa_ls (by exact (kw_lsc rfl (kw_lsc rfl (kw_lsc rfl (kw_lsc rfl kw_lsn))))) (loop 0 (Nat.zero_le _) _ _ hk0 rfl rfl)
theorem kw_first_y {c : Nat → Bool} {i N : Nat} (hi : i < N) (hc : c i = true) : kw_first c i (N - i) = some i := kw_first_t hi hc
theorem kw_first_n {c : Nat → Bool} {i N : Nat} (hi : i < N) (hc : ¬ c i = true) : kw_first c i (N - i) = kw_first c (i + 1) (N - (i + 1)) := kw_first_f hi hc
set_option maxRecDepth 20000 in
set_option maxHeartbeats 4000000 in
theorem rt_atPoint (hps : kw_ps P) {p : Nat} (hp : p < 2) (hl : xr_lk (M 183 7) (M 183 6)) : kw_C l D aC b yX10_atPoint cX10_atPoint 5 (some .int) 4 [.inr (.inl 176), .inl (nI p)] C M P (some (.inl (xr_apn M p))) C (xr_ap M p) P := by
  refine ax_body (own := RX10) (ini := false) (by decide) rfl (fun h => by cases h) (Nat.le_of_ble_eq_true rfl) ?_
  have loop : ∀ r, 4 * p ≤ r → r ≤ 4 * p + 4 → kw_first (xr_ac M) r (4 * p + 4 - r) = kw_first (xr_ac M) (4 * p) 4 → ax_G l D aC b RX10 cX10_atPoint 5 (some .int) false (kw_rm 4) 191 (ax_F D aC b 191 0 0 (kw_R (some (.inl (xr_apn M p))) kw_K kw_L (kw_gl C (xr_ap M p)) P)) (fun _ => True) 4 [(2, .inl (nI r)), (0, .inr (.inl 176)), (1, .inl (nI p))] [] 0 0 kw_K kw_L (kw_gl C M) P := by
    refine kw_loop (4 * p + 4) (fun r ih hr1 hr2 hf => ?_)
    refine qa_iload_n (pc1 := 5) dX10_atPoint_4 rfl rfl rfl ?_
    refine qa_iconst (pc1 := 6) dX10_atPoint_5 (v := (nI 4)) kc_i4N rfl ?_
    refine qa_iload_n (pc1 := 7) dX10_atPoint_6 rfl rfl rfl ?_
    refine qn_imul (pc1 := 8) dX10_atPoint_7 rfl ?_
    refine qa_iconst (pc1 := 9) dX10_atPoint_8 (v := (nI 4)) kc_i4N rfl ?_
    refine qn_iadd (pc1 := 10) dX10_atPoint_9 rfl ?_
    refine qn_ic_ge (tgt := 216) (pc1 := 13) dX10_atPoint_10 rfl rfl (by omega) (by omega) (fun h10 => ?_) (fun h10 => ?_)
    · refine qa_iconst (pc1 := 217) dX10_atPoint_216 (v := 0) kc_i0 rfl ?_
      have hft : kw_first (xr_ac M) (4 * p) 4 = none := by rw [← hf, show 4 * p + 4 - r = 0 from by omega]; rfl
      exact qa_iret dX10_atPoint_217 rfl (vp_nar_int _) (by rw [xr_apn, hft]) rfl (by rw [xr_ap, hft]) rfl
    · have hr : r < 8 := by omega
      have J : ax_G l D aC b RX10 cX10_atPoint 5 (some .int) false (kw_rm 4) 191 (ax_F D aC b 191 0 0 (kw_R (some (.inl (xr_apn M p))) kw_K kw_L (kw_gl C (xr_ap M p)) P)) (fun _ => True) 75 [(4, .inl (kw_b (xr_fit M r))), (0, .inr (.inl 176)), (1, .inl (nI p)), (2, .inl (nI r)), (3, .inl (nI (10 * r)))] [] 0 0 kw_K kw_L (kw_gl C M) P := by
        refine qa_iload (pc1 := 77) dX10_atPoint_75 rfl rfl ?_
        refine qb_if_eq (tgt := 210) (pc1 := 80) dX10_atPoint_77 rfl rfl (fun h77 => ?_) (fun h77 => ?_)
        · refine qa_iincN (pc1 := 213) dX10_atPoint_210 rfl (by decide) rfl ?_
          refine qa_goto (tgt := 4) dX10_atPoint_213 rfl ?_
          exact qa_ls (by exact (kw_lsc rfl (kw_lsc rfl (kw_lsc rfl kw_lsn)))) (ih (by omega) (by omega) (by omega) ((kw_first_n (by omega) (by simp only [xr_ac, decide_eq_true_eq]; grind)).symm.trans hf))
        · refine qa_aload_n (pc1 := 81) dX10_atPoint_80 rfl rfl rfl ?_
          refine qa_getP (pc1 := 84) dX10_atPoint_81 rfl wf_X10_32 rfl ko_mo (by omega) (show P 176 9 = 184 from kp_mo hps (by decide : kw_mo 9 ≠ 0)) ?_
          refine qa_iload_n (pc1 := 85) dX10_atPoint_84 rfl rfl rfl ?_
          refine qa_iconst (pc1 := 86) dX10_atPoint_85 (v := (nI 2)) kc_i2N rfl ?_
          refine qn_iadd (pc1 := 87) dX10_atPoint_86 rfl ?_
          refine qr_iald (pc1 := 88) dX10_atPoint_87 rfl ka_m184 rfl (by omega) (by omega) (by omega) ?_
          refine qa_aload_n (pc1 := 89) dX10_atPoint_88 rfl rfl rfl ?_
          refine qa_getP (pc1 := 92) dX10_atPoint_89 rfl wf_X10_29 rfl ko_mo (by omega) (show P 176 8 = 183 from kp_mo hps (by decide : kw_mo 8 ≠ 0)) ?_
          refine qa_iconst (pc1 := 93) dX10_atPoint_92 (v := (nI 1)) kc_i1N rfl ?_
          refine qr_iald (pc1 := 94) dX10_atPoint_93 rfl ka_m183 rfl (by omega) (by omega) (by decide) ?_
          refine qa_ic_ne (tgt := 210) (pc1 := 97) dX10_atPoint_94 rfl rfl (fun h94 => ?_) (fun h94 => ?_)
          · refine qa_iincN (pc1 := 213) dX10_atPoint_210 rfl (by decide) rfl ?_
            refine qa_goto (tgt := 4) dX10_atPoint_213 rfl ?_
            exact qa_ls (by exact (kw_lsc rfl (kw_lsc rfl (kw_lsc rfl kw_lsn)))) (ih (by omega) (by omega) (by omega) ((kw_first_n (by omega) (by simp only [xr_ac, decide_eq_true_eq]; grind)).symm.trans hf))
          · refine qa_aload_n (pc1 := 98) dX10_atPoint_97 rfl rfl rfl ?_
            refine qa_aload_n (pc1 := 99) dX10_atPoint_98 rfl rfl rfl ?_
            refine qa_getP (pc1 := 102) dX10_atPoint_99 rfl wf_X10_32 rfl ko_mo (by omega) (show P 176 9 = 184 from kp_mo hps (by decide : kw_mo 9 ≠ 0)) ?_
            refine qa_iload_n (pc1 := 103) dX10_atPoint_102 rfl rfl rfl ?_
            refine qa_iconst (pc1 := 104) dX10_atPoint_103 (v := (nI 3)) kc_i3N rfl ?_
            refine qn_iadd (pc1 := 105) dX10_atPoint_104 rfl ?_
            refine qr_iald (pc1 := 106) dX10_atPoint_105 rfl ka_m184 rfl (by omega) (by omega) (by omega) ?_
            refine qa_callVi (pc1 := 109) dX10_atPoint_106 rfl (rt_right hps _ (by assumption)) wc_X10_117 wy_X10_right rfl rfl (ci := k_mo) rfl ko_mo (by omega) rfl ?_
            refine qb_if_eq (tgt := 210) (pc1 := 112) dX10_atPoint_109 rfl rfl (fun h109 => ?_) (fun h109 => ?_)
            · refine qa_iincN (pc1 := 213) dX10_atPoint_210 rfl (by decide) rfl ?_
              refine qa_goto (tgt := 4) dX10_atPoint_213 rfl ?_
              exact qa_ls (by exact (kw_lsc rfl (kw_lsc rfl (kw_lsc rfl kw_lsn)))) (ih (by omega) (by omega) (by omega) ((kw_first_n (by omega) (by simp only [xr_ac, decide_eq_true_eq]; grind)).symm.trans hf))
            · have hft : kw_first (xr_ac M) (4 * p) 4 = some r := by rw [← hf, kw_first_y (by omega) (by simp only [xr_ac, decide_eq_true_eq]; grind)]
              refine qa_aload_n (pc1 := 113) dX10_atPoint_112 rfl rfl rfl ?_
              refine qa_getP (pc1 := 116) dX10_atPoint_113 rfl wf_X10_32 rfl ko_mo (by omega) (show P 176 9 = 184 from kp_mo hps (by decide : kw_mo 9 ≠ 0)) ?_
              refine qa_iload_n (pc1 := 117) dX10_atPoint_116 rfl rfl rfl ?_
              refine qa_aload_n (pc1 := 118) dX10_atPoint_117 rfl rfl rfl ?_
              refine qa_getP (pc1 := 121) dX10_atPoint_118 rfl wf_X10_29 rfl ko_mo (by omega) (show P 176 8 = 183 from kp_mo hps (by decide : kw_mo 8 ≠ 0)) ?_
              refine qa_iconst (pc1 := 122) dX10_atPoint_121 (v := (nI 0)) kc_i0N rfl ?_
              refine qr_iald (pc1 := 123) dX10_atPoint_122 rfl ka_m183 rfl (by omega) (by omega) (by decide) ?_
              refine qa_iconst (pc1 := 124) dX10_atPoint_123 (v := 1) kc_i1 rfl ?_
              refine qa_ic_ne (tgt := 131) (pc1 := 127) dX10_atPoint_124 rfl rfl (fun h124 => ?_) (fun h124 => ?_)
              · refine qa_iconst (pc1 := 132) dX10_atPoint_131 (v := 0) kc_i0 rfl ?_
                refine qr_iast (pc1 := 133) dX10_atPoint_132 rfl ka_m184 rfl (by omega) (by omega) (by omega) ?_
                refine qa_aload_n (pc1 := 134) dX10_atPoint_133 rfl rfl rfl ?_
                refine qa_getP (pc1 := 137) dX10_atPoint_134 rfl wf_X10_32 rfl ko_mo (by omega) (show P 176 9 = 184 from kp_mo hps (by decide : kw_mo 9 ≠ 0)) ?_
                refine qa_iload_n (pc1 := 138) dX10_atPoint_137 rfl rfl rfl ?_
                refine qa_iconst (pc1 := 139) dX10_atPoint_138 (v := (nI 1)) kc_i1N rfl ?_
                refine qn_iadd (pc1 := 140) dX10_atPoint_139 rfl ?_
                refine qa_aload_n (pc1 := 141) dX10_atPoint_140 rfl rfl rfl ?_
                refine qa_getP (pc1 := 144) dX10_atPoint_141 rfl wf_X10_29 rfl ko_mo (by omega) (show P 176 8 = 183 from kp_mo hps (by decide : kw_mo 8 ≠ 0)) ?_
                refine qa_iconst (pc1 := 145) dX10_atPoint_144 (v := (nI 0)) kc_i0N rfl ?_
                refine qr_iald (pc1 := 146) dX10_atPoint_145 rfl ka_m183 rfl (by omega) (by omega) (by decide) ?_
                refine qa_iconst (pc1 := 147) dX10_atPoint_146 (v := 4) kc_i4 rfl ?_
                refine qa_ic_ne (tgt := 161) (pc1 := 150) dX10_atPoint_147 rfl rfl (fun h147 => ?_) (fun h147 => ?_)
                · refine qa_aload_n (pc1 := 162) dX10_atPoint_161 rfl rfl rfl ?_
                  refine qa_getP (pc1 := 165) dX10_atPoint_162 rfl wf_X10_29 rfl ko_mo (by omega) (show P 176 8 = 183 from kp_mo hps (by decide : kw_mo 8 ≠ 0)) ?_
                  refine qa_iconst (pc1 := 166) dX10_atPoint_165 (v := (nI 0)) kc_i0N rfl ?_
                  refine qr_iald (pc1 := 167) dX10_atPoint_166 rfl ka_m183 rfl (by omega) (by omega) (by decide) ?_
                  refine qr_iast (pc1 := 168) dX10_atPoint_167 rfl ka_m184 rfl (by omega) (by omega) (by omega) ?_
                  refine qa_aload_n (pc1 := 169) dX10_atPoint_168 rfl rfl rfl ?_
                  refine qa_getP (pc1 := 172) dX10_atPoint_169 rfl wf_X10_29 rfl ko_mo (by omega) (show P 176 8 = 183 from kp_mo hps (by decide : kw_mo 8 ≠ 0)) ?_
                  refine qa_iconst (pc1 := 173) dX10_atPoint_172 (v := (nI 0)) kc_i0N rfl ?_
                  refine qr_iald (pc1 := 174) dX10_atPoint_173 rfl ka_m183 rfl (by omega) (by omega) (by decide) ?_
                  refine qa_iconst (pc1 := 175) dX10_atPoint_174 (v := 1) kc_i1 rfl ?_
                  refine qa_ic_ne (tgt := 208) (pc1 := 178) dX10_atPoint_175 rfl rfl (fun h175 => ?_) (fun h175 => ?_)
                  · refine qa_iconst (pc1 := 209) dX10_atPoint_208 (v := 1) kc_i1 rfl ?_
                    exact qa_iret dX10_atPoint_209 rfl (vp_nar_int _) (by rw [xr_apn, hft]) rfl (by rw [xr_ap, hft]; clear ih hf hft; simp only [xr_settle, xr_se1, xr_se0, ax_u_n (show (183 : Nat) ≠ 184 from by decide)] at *; grind) rfl
                  · refine qa_aload_n (pc1 := 179) dX10_atPoint_178 rfl rfl rfl ?_
                    refine qa_getP (pc1 := 182) dX10_atPoint_179 rfl wf_X10_32 rfl ko_mo (by omega) (show P 176 9 = 184 from kp_mo hps (by decide : kw_mo 9 ≠ 0)) ?_
                    refine qa_iload_n (pc1 := 183) dX10_atPoint_182 rfl rfl rfl ?_
                    refine qa_bipush (pc1 := 185) dX10_atPoint_183 (v := (nI 6)) kc_b6N rfl ?_
                    refine qn_iadd (pc1 := 186) dX10_atPoint_185 rfl ?_
                    refine qa_aload_n (pc1 := 187) dX10_atPoint_186 rfl rfl rfl ?_
                    refine qa_getP (pc1 := 190) dX10_atPoint_187 rfl wf_X10_29 rfl ko_mo (by omega) (show P 176 8 = 183 from kp_mo hps (by decide : kw_mo 8 ≠ 0)) ?_
                    refine qa_iconst (pc1 := 191) dX10_atPoint_190 (v := (nI 3)) kc_i3N rfl ?_
                    refine qr_iald (pc1 := 192) dX10_atPoint_191 rfl ka_m183 rfl (by omega) (by omega) (by decide) ?_
                    refine qr_iast (pc1 := 193) dX10_atPoint_192 rfl ka_m184 rfl (by omega) (by omega) (by omega) ?_
                    refine qa_aload_n (pc1 := 194) dX10_atPoint_193 rfl rfl rfl ?_
                    refine qa_getP (pc1 := 197) dX10_atPoint_194 rfl wf_X10_32 rfl ko_mo (by omega) (show P 176 9 = 184 from kp_mo hps (by decide : kw_mo 9 ≠ 0)) ?_
                    refine qa_iload_n (pc1 := 198) dX10_atPoint_197 rfl rfl rfl ?_
                    refine qa_bipush (pc1 := 200) dX10_atPoint_198 (v := (nI 7)) kc_b7N rfl ?_
                    refine qn_iadd (pc1 := 201) dX10_atPoint_200 rfl ?_
                    refine qa_aload_n (pc1 := 202) dX10_atPoint_201 rfl rfl rfl ?_
                    refine qa_getP (pc1 := 205) dX10_atPoint_202 rfl wf_X10_29 rfl ko_mo (by omega) (show P 176 8 = 183 from kp_mo hps (by decide : kw_mo 8 ≠ 0)) ?_
                    refine qa_iconst (pc1 := 206) dX10_atPoint_205 (v := (nI 4)) kc_i4N rfl ?_
                    refine qr_iald (pc1 := 207) dX10_atPoint_206 rfl ka_m183 rfl (by omega) (by omega) (by decide) ?_
                    refine qr_iast (pc1 := 208) dX10_atPoint_207 rfl ka_m184 rfl (by omega) (by omega) (by omega) ?_
                    refine qa_iconst (pc1 := 209) dX10_atPoint_208 (v := 1) kc_i1 rfl ?_
                    exact qa_iret dX10_atPoint_209 rfl (vp_nar_int _) (by rw [xr_apn, hft]) rfl (by rw [xr_ap, hft]; clear ih hf hft; simp only [xr_settle, xr_se1, xr_se0, ax_u_n (show (183 : Nat) ≠ 184 from by decide)] at *; grind) rfl
                · refine qa_aload_n (pc1 := 151) dX10_atPoint_150 rfl rfl rfl ?_
                  refine qa_getP (pc1 := 154) dX10_atPoint_151 rfl wf_X10_32 rfl ko_mo (by omega) (show P 176 9 = 184 from kp_mo hps (by decide : kw_mo 9 ≠ 0)) ?_
                  refine qa_iload_n (pc1 := 155) dX10_atPoint_154 rfl rfl rfl ?_
                  refine qa_iconst (pc1 := 156) dX10_atPoint_155 (v := (nI 1)) kc_i1N rfl ?_
                  refine qn_iadd (pc1 := 157) dX10_atPoint_156 rfl ?_
                  refine qr_iald (pc1 := 158) dX10_atPoint_157 rfl ka_m184 rfl (by omega) (by omega) (by omega) ?_
                  refine qa_goto (tgt := 167) dX10_atPoint_158 rfl ?_
                  refine qr_iast (pc1 := 168) dX10_atPoint_167 rfl ka_m184 rfl (by omega) (by omega) (by omega) ?_
                  refine qa_aload_n (pc1 := 169) dX10_atPoint_168 rfl rfl rfl ?_
                  refine qa_getP (pc1 := 172) dX10_atPoint_169 rfl wf_X10_29 rfl ko_mo (by omega) (show P 176 8 = 183 from kp_mo hps (by decide : kw_mo 8 ≠ 0)) ?_
                  refine qa_iconst (pc1 := 173) dX10_atPoint_172 (v := (nI 0)) kc_i0N rfl ?_
                  refine qr_iald (pc1 := 174) dX10_atPoint_173 rfl ka_m183 rfl (by omega) (by omega) (by decide) ?_
                  refine qa_iconst (pc1 := 175) dX10_atPoint_174 (v := 1) kc_i1 rfl ?_
                  refine qa_ic_ne (tgt := 208) (pc1 := 178) dX10_atPoint_175 rfl rfl (fun h175 => ?_) (fun h175 => ?_)
                  · refine qa_iconst (pc1 := 209) dX10_atPoint_208 (v := 1) kc_i1 rfl ?_
                    exact qa_iret dX10_atPoint_209 rfl (vp_nar_int _) (by rw [xr_apn, hft]) rfl (by rw [xr_ap, hft]; clear ih hf hft; simp only [xr_settle, xr_se1, xr_se0, ax_u_n (show (183 : Nat) ≠ 184 from by decide)] at *; grind) rfl
                  · refine qa_aload_n (pc1 := 179) dX10_atPoint_178 rfl rfl rfl ?_
                    refine qa_getP (pc1 := 182) dX10_atPoint_179 rfl wf_X10_32 rfl ko_mo (by omega) (show P 176 9 = 184 from kp_mo hps (by decide : kw_mo 9 ≠ 0)) ?_
                    refine qa_iload_n (pc1 := 183) dX10_atPoint_182 rfl rfl rfl ?_
                    refine qa_bipush (pc1 := 185) dX10_atPoint_183 (v := (nI 6)) kc_b6N rfl ?_
                    refine qn_iadd (pc1 := 186) dX10_atPoint_185 rfl ?_
                    refine qa_aload_n (pc1 := 187) dX10_atPoint_186 rfl rfl rfl ?_
                    refine qa_getP (pc1 := 190) dX10_atPoint_187 rfl wf_X10_29 rfl ko_mo (by omega) (show P 176 8 = 183 from kp_mo hps (by decide : kw_mo 8 ≠ 0)) ?_
                    refine qa_iconst (pc1 := 191) dX10_atPoint_190 (v := (nI 3)) kc_i3N rfl ?_
                    refine qr_iald (pc1 := 192) dX10_atPoint_191 rfl ka_m183 rfl (by omega) (by omega) (by decide) ?_
                    refine qr_iast (pc1 := 193) dX10_atPoint_192 rfl ka_m184 rfl (by omega) (by omega) (by omega) ?_
                    refine qa_aload_n (pc1 := 194) dX10_atPoint_193 rfl rfl rfl ?_
                    refine qa_getP (pc1 := 197) dX10_atPoint_194 rfl wf_X10_32 rfl ko_mo (by omega) (show P 176 9 = 184 from kp_mo hps (by decide : kw_mo 9 ≠ 0)) ?_
                    refine qa_iload_n (pc1 := 198) dX10_atPoint_197 rfl rfl rfl ?_
                    refine qa_bipush (pc1 := 200) dX10_atPoint_198 (v := (nI 7)) kc_b7N rfl ?_
                    refine qn_iadd (pc1 := 201) dX10_atPoint_200 rfl ?_
                    refine qa_aload_n (pc1 := 202) dX10_atPoint_201 rfl rfl rfl ?_
                    refine qa_getP (pc1 := 205) dX10_atPoint_202 rfl wf_X10_29 rfl ko_mo (by omega) (show P 176 8 = 183 from kp_mo hps (by decide : kw_mo 8 ≠ 0)) ?_
                    refine qa_iconst (pc1 := 206) dX10_atPoint_205 (v := (nI 4)) kc_i4N rfl ?_
                    refine qr_iald (pc1 := 207) dX10_atPoint_206 rfl ka_m183 rfl (by omega) (by omega) (by decide) ?_
                    refine qr_iast (pc1 := 208) dX10_atPoint_207 rfl ka_m184 rfl (by omega) (by omega) (by omega) ?_
                    refine qa_iconst (pc1 := 209) dX10_atPoint_208 (v := 1) kc_i1 rfl ?_
                    exact qa_iret dX10_atPoint_209 rfl (vp_nar_int _) (by rw [xr_apn, hft]) rfl (by rw [xr_ap, hft]; clear ih hf hft; simp only [xr_settle, xr_se1, xr_se0, ax_u_n (show (183 : Nat) ≠ 184 from by decide)] at *; grind) rfl
              · refine qa_iconst (pc1 := 128) dX10_atPoint_127 (v := 2) kc_i2 rfl ?_
                refine qa_goto (tgt := 132) dX10_atPoint_128 rfl ?_
                refine qr_iast (pc1 := 133) dX10_atPoint_132 rfl ka_m184 rfl (by omega) (by omega) (by omega) ?_
                refine qa_aload_n (pc1 := 134) dX10_atPoint_133 rfl rfl rfl ?_
                refine qa_getP (pc1 := 137) dX10_atPoint_134 rfl wf_X10_32 rfl ko_mo (by omega) (show P 176 9 = 184 from kp_mo hps (by decide : kw_mo 9 ≠ 0)) ?_
                refine qa_iload_n (pc1 := 138) dX10_atPoint_137 rfl rfl rfl ?_
                refine qa_iconst (pc1 := 139) dX10_atPoint_138 (v := (nI 1)) kc_i1N rfl ?_
                refine qn_iadd (pc1 := 140) dX10_atPoint_139 rfl ?_
                refine qa_aload_n (pc1 := 141) dX10_atPoint_140 rfl rfl rfl ?_
                refine qa_getP (pc1 := 144) dX10_atPoint_141 rfl wf_X10_29 rfl ko_mo (by omega) (show P 176 8 = 183 from kp_mo hps (by decide : kw_mo 8 ≠ 0)) ?_
                refine qa_iconst (pc1 := 145) dX10_atPoint_144 (v := (nI 0)) kc_i0N rfl ?_
                refine qr_iald (pc1 := 146) dX10_atPoint_145 rfl ka_m183 rfl (by omega) (by omega) (by decide) ?_
                refine qa_iconst (pc1 := 147) dX10_atPoint_146 (v := 4) kc_i4 rfl ?_
                refine qa_ic_ne (tgt := 161) (pc1 := 150) dX10_atPoint_147 rfl rfl (fun h147 => ?_) (fun h147 => ?_)
                · refine qa_aload_n (pc1 := 162) dX10_atPoint_161 rfl rfl rfl ?_
                  refine qa_getP (pc1 := 165) dX10_atPoint_162 rfl wf_X10_29 rfl ko_mo (by omega) (show P 176 8 = 183 from kp_mo hps (by decide : kw_mo 8 ≠ 0)) ?_
                  refine qa_iconst (pc1 := 166) dX10_atPoint_165 (v := (nI 0)) kc_i0N rfl ?_
                  refine qr_iald (pc1 := 167) dX10_atPoint_166 rfl ka_m183 rfl (by omega) (by omega) (by decide) ?_
                  refine qr_iast (pc1 := 168) dX10_atPoint_167 rfl ka_m184 rfl (by omega) (by omega) (by omega) ?_
                  refine qa_aload_n (pc1 := 169) dX10_atPoint_168 rfl rfl rfl ?_
                  refine qa_getP (pc1 := 172) dX10_atPoint_169 rfl wf_X10_29 rfl ko_mo (by omega) (show P 176 8 = 183 from kp_mo hps (by decide : kw_mo 8 ≠ 0)) ?_
                  refine qa_iconst (pc1 := 173) dX10_atPoint_172 (v := (nI 0)) kc_i0N rfl ?_
                  refine qr_iald (pc1 := 174) dX10_atPoint_173 rfl ka_m183 rfl (by omega) (by omega) (by decide) ?_
                  refine qa_iconst (pc1 := 175) dX10_atPoint_174 (v := 1) kc_i1 rfl ?_
                  refine qa_ic_ne (tgt := 208) (pc1 := 178) dX10_atPoint_175 rfl rfl (fun h175 => ?_) (fun h175 => ?_)
                  · refine qa_iconst (pc1 := 209) dX10_atPoint_208 (v := 1) kc_i1 rfl ?_
                    exact qa_iret dX10_atPoint_209 rfl (vp_nar_int _) (by rw [xr_apn, hft]) rfl (by rw [xr_ap, hft]; clear ih hf hft; simp only [xr_settle, xr_se1, xr_se0, ax_u_n (show (183 : Nat) ≠ 184 from by decide)] at *; grind) rfl
                  · refine qa_aload_n (pc1 := 179) dX10_atPoint_178 rfl rfl rfl ?_
                    refine qa_getP (pc1 := 182) dX10_atPoint_179 rfl wf_X10_32 rfl ko_mo (by omega) (show P 176 9 = 184 from kp_mo hps (by decide : kw_mo 9 ≠ 0)) ?_
                    refine qa_iload_n (pc1 := 183) dX10_atPoint_182 rfl rfl rfl ?_
                    refine qa_bipush (pc1 := 185) dX10_atPoint_183 (v := (nI 6)) kc_b6N rfl ?_
                    refine qn_iadd (pc1 := 186) dX10_atPoint_185 rfl ?_
                    refine qa_aload_n (pc1 := 187) dX10_atPoint_186 rfl rfl rfl ?_
                    refine qa_getP (pc1 := 190) dX10_atPoint_187 rfl wf_X10_29 rfl ko_mo (by omega) (show P 176 8 = 183 from kp_mo hps (by decide : kw_mo 8 ≠ 0)) ?_
                    refine qa_iconst (pc1 := 191) dX10_atPoint_190 (v := (nI 3)) kc_i3N rfl ?_
                    refine qr_iald (pc1 := 192) dX10_atPoint_191 rfl ka_m183 rfl (by omega) (by omega) (by decide) ?_
                    refine qr_iast (pc1 := 193) dX10_atPoint_192 rfl ka_m184 rfl (by omega) (by omega) (by omega) ?_
                    refine qa_aload_n (pc1 := 194) dX10_atPoint_193 rfl rfl rfl ?_
                    refine qa_getP (pc1 := 197) dX10_atPoint_194 rfl wf_X10_32 rfl ko_mo (by omega) (show P 176 9 = 184 from kp_mo hps (by decide : kw_mo 9 ≠ 0)) ?_
                    refine qa_iload_n (pc1 := 198) dX10_atPoint_197 rfl rfl rfl ?_
                    refine qa_bipush (pc1 := 200) dX10_atPoint_198 (v := (nI 7)) kc_b7N rfl ?_
                    refine qn_iadd (pc1 := 201) dX10_atPoint_200 rfl ?_
                    refine qa_aload_n (pc1 := 202) dX10_atPoint_201 rfl rfl rfl ?_
                    refine qa_getP (pc1 := 205) dX10_atPoint_202 rfl wf_X10_29 rfl ko_mo (by omega) (show P 176 8 = 183 from kp_mo hps (by decide : kw_mo 8 ≠ 0)) ?_
                    refine qa_iconst (pc1 := 206) dX10_atPoint_205 (v := (nI 4)) kc_i4N rfl ?_
                    refine qr_iald (pc1 := 207) dX10_atPoint_206 rfl ka_m183 rfl (by omega) (by omega) (by decide) ?_
                    refine qr_iast (pc1 := 208) dX10_atPoint_207 rfl ka_m184 rfl (by omega) (by omega) (by omega) ?_
                    refine qa_iconst (pc1 := 209) dX10_atPoint_208 (v := 1) kc_i1 rfl ?_
                    exact qa_iret dX10_atPoint_209 rfl (vp_nar_int _) (by rw [xr_apn, hft]) rfl (by rw [xr_ap, hft]; clear ih hf hft; simp only [xr_settle, xr_se1, xr_se0, ax_u_n (show (183 : Nat) ≠ 184 from by decide)] at *; grind) rfl
                · refine qa_aload_n (pc1 := 151) dX10_atPoint_150 rfl rfl rfl ?_
                  refine qa_getP (pc1 := 154) dX10_atPoint_151 rfl wf_X10_32 rfl ko_mo (by omega) (show P 176 9 = 184 from kp_mo hps (by decide : kw_mo 9 ≠ 0)) ?_
                  refine qa_iload_n (pc1 := 155) dX10_atPoint_154 rfl rfl rfl ?_
                  refine qa_iconst (pc1 := 156) dX10_atPoint_155 (v := (nI 1)) kc_i1N rfl ?_
                  refine qn_iadd (pc1 := 157) dX10_atPoint_156 rfl ?_
                  refine qr_iald (pc1 := 158) dX10_atPoint_157 rfl ka_m184 rfl (by omega) (by omega) (by omega) ?_
                  refine qa_goto (tgt := 167) dX10_atPoint_158 rfl ?_
                  refine qr_iast (pc1 := 168) dX10_atPoint_167 rfl ka_m184 rfl (by omega) (by omega) (by omega) ?_
                  refine qa_aload_n (pc1 := 169) dX10_atPoint_168 rfl rfl rfl ?_
                  refine qa_getP (pc1 := 172) dX10_atPoint_169 rfl wf_X10_29 rfl ko_mo (by omega) (show P 176 8 = 183 from kp_mo hps (by decide : kw_mo 8 ≠ 0)) ?_
                  refine qa_iconst (pc1 := 173) dX10_atPoint_172 (v := (nI 0)) kc_i0N rfl ?_
                  refine qr_iald (pc1 := 174) dX10_atPoint_173 rfl ka_m183 rfl (by omega) (by omega) (by decide) ?_
                  refine qa_iconst (pc1 := 175) dX10_atPoint_174 (v := 1) kc_i1 rfl ?_
                  refine qa_ic_ne (tgt := 208) (pc1 := 178) dX10_atPoint_175 rfl rfl (fun h175 => ?_) (fun h175 => ?_)
                  · refine qa_iconst (pc1 := 209) dX10_atPoint_208 (v := 1) kc_i1 rfl ?_
                    exact qa_iret dX10_atPoint_209 rfl (vp_nar_int _) (by rw [xr_apn, hft]) rfl (by rw [xr_ap, hft]; clear ih hf hft; simp only [xr_settle, xr_se1, xr_se0, ax_u_n (show (183 : Nat) ≠ 184 from by decide)] at *; grind) rfl
                  · refine qa_aload_n (pc1 := 179) dX10_atPoint_178 rfl rfl rfl ?_
                    refine qa_getP (pc1 := 182) dX10_atPoint_179 rfl wf_X10_32 rfl ko_mo (by omega) (show P 176 9 = 184 from kp_mo hps (by decide : kw_mo 9 ≠ 0)) ?_
                    refine qa_iload_n (pc1 := 183) dX10_atPoint_182 rfl rfl rfl ?_
                    refine qa_bipush (pc1 := 185) dX10_atPoint_183 (v := (nI 6)) kc_b6N rfl ?_
                    refine qn_iadd (pc1 := 186) dX10_atPoint_185 rfl ?_
                    refine qa_aload_n (pc1 := 187) dX10_atPoint_186 rfl rfl rfl ?_
                    refine qa_getP (pc1 := 190) dX10_atPoint_187 rfl wf_X10_29 rfl ko_mo (by omega) (show P 176 8 = 183 from kp_mo hps (by decide : kw_mo 8 ≠ 0)) ?_
                    refine qa_iconst (pc1 := 191) dX10_atPoint_190 (v := (nI 3)) kc_i3N rfl ?_
                    refine qr_iald (pc1 := 192) dX10_atPoint_191 rfl ka_m183 rfl (by omega) (by omega) (by decide) ?_
                    refine qr_iast (pc1 := 193) dX10_atPoint_192 rfl ka_m184 rfl (by omega) (by omega) (by omega) ?_
                    refine qa_aload_n (pc1 := 194) dX10_atPoint_193 rfl rfl rfl ?_
                    refine qa_getP (pc1 := 197) dX10_atPoint_194 rfl wf_X10_32 rfl ko_mo (by omega) (show P 176 9 = 184 from kp_mo hps (by decide : kw_mo 9 ≠ 0)) ?_
                    refine qa_iload_n (pc1 := 198) dX10_atPoint_197 rfl rfl rfl ?_
                    refine qa_bipush (pc1 := 200) dX10_atPoint_198 (v := (nI 7)) kc_b7N rfl ?_
                    refine qn_iadd (pc1 := 201) dX10_atPoint_200 rfl ?_
                    refine qa_aload_n (pc1 := 202) dX10_atPoint_201 rfl rfl rfl ?_
                    refine qa_getP (pc1 := 205) dX10_atPoint_202 rfl wf_X10_29 rfl ko_mo (by omega) (show P 176 8 = 183 from kp_mo hps (by decide : kw_mo 8 ≠ 0)) ?_
                    refine qa_iconst (pc1 := 206) dX10_atPoint_205 (v := (nI 4)) kc_i4N rfl ?_
                    refine qr_iald (pc1 := 207) dX10_atPoint_206 rfl ka_m183 rfl (by omega) (by omega) (by decide) ?_
                    refine qr_iast (pc1 := 208) dX10_atPoint_207 rfl ka_m184 rfl (by omega) (by omega) (by omega) ?_
                    refine qa_iconst (pc1 := 209) dX10_atPoint_208 (v := 1) kc_i1 rfl ?_
                    exact qa_iret dX10_atPoint_209 rfl (vp_nar_int _) (by rw [xr_apn, hft]) rfl (by rw [xr_ap, hft]; clear ih hf hft; simp only [xr_settle, xr_se1, xr_se0, ax_u_n (show (183 : Nat) ≠ 184 from by decide)] at *; grind) rfl
      refine qa_bipush (pc1 := 15) dX10_atPoint_13 (v := (nI 10)) kc_b10N rfl ?_
      refine qa_iload_n (pc1 := 16) dX10_atPoint_15 rfl rfl rfl ?_
      refine qn_imul (pc1 := 17) dX10_atPoint_16 rfl ?_
      refine qa_istore_n (pc1 := 18) dX10_atPoint_17 rfl (by decide) rfl ?_
      refine qa_aload_n (pc1 := 19) dX10_atPoint_18 rfl rfl rfl ?_
      refine qa_getP (pc1 := 22) dX10_atPoint_19 rfl wf_X10_32 rfl ko_mo (by omega) (show P 176 9 = 184 from kp_mo hps (by decide : kw_mo 9 ≠ 0)) ?_
      refine qa_iload_n (pc1 := 23) dX10_atPoint_22 rfl rfl rfl ?_
      refine qr_iald (pc1 := 24) dX10_atPoint_23 rfl ka_m184 rfl (by omega) (by omega) (by omega) ?_
      refine qa_iconst (pc1 := 25) dX10_atPoint_24 (v := 1) kc_i1 rfl ?_
      refine qa_ic_ne (tgt := 48) (pc1 := 28) dX10_atPoint_25 rfl rfl (fun h25 => ?_) (fun h25 => ?_)
      · refine qa_aload_n (pc1 := 49) dX10_atPoint_48 rfl rfl rfl ?_
        refine qa_getP (pc1 := 52) dX10_atPoint_49 rfl wf_X10_32 rfl ko_mo (by omega) (show P 176 9 = 184 from kp_mo hps (by decide : kw_mo 9 ≠ 0)) ?_
        refine qa_iload_n (pc1 := 53) dX10_atPoint_52 rfl rfl rfl ?_
        refine qr_iald (pc1 := 54) dX10_atPoint_53 rfl ka_m184 rfl (by omega) (by omega) (by omega) ?_
        refine qa_iconst (pc1 := 55) dX10_atPoint_54 (v := 3) kc_i3 rfl ?_
        refine qa_ic_ne (tgt := 72) (pc1 := 58) dX10_atPoint_55 rfl rfl (fun h55 => ?_) (fun h55 => ?_)
        · refine qa_iconst (pc1 := 73) dX10_atPoint_72 (v := 0) kc_i0 rfl ?_
          refine qa_istore (pc1 := 75) dX10_atPoint_73 (by decide) rfl ?_
          first
          | (rw [kw_bt (by grind)] at J; exact qa_ls (by exact (kw_lsc rfl (kw_lsc rfl (kw_lsc rfl (kw_lsc rfl (kw_lsc rfl kw_lsn)))))) J)
          | (rw [kw_bf (by grind)] at J; exact qa_ls (by exact (kw_lsc rfl (kw_lsc rfl (kw_lsc rfl (kw_lsc rfl (kw_lsc rfl kw_lsn)))))) J)
        · refine qa_aload_n (pc1 := 59) dX10_atPoint_58 rfl rfl rfl ?_
          refine qa_getP (pc1 := 62) dX10_atPoint_59 rfl wf_X10_29 rfl ko_mo (by omega) (show P 176 8 = 183 from kp_mo hps (by decide : kw_mo 8 ≠ 0)) ?_
          refine qa_iconst (pc1 := 63) dX10_atPoint_62 (v := (nI 0)) kc_i0N rfl ?_
          refine qr_iald (pc1 := 64) dX10_atPoint_63 rfl ka_m183 rfl (by omega) (by omega) (by decide) ?_
          refine qa_iconst (pc1 := 65) dX10_atPoint_64 (v := 4) kc_i4 rfl ?_
          refine qa_ic_ne (tgt := 72) (pc1 := 68) dX10_atPoint_65 rfl rfl (fun h65 => ?_) (fun h65 => ?_)
          · refine qa_iconst (pc1 := 73) dX10_atPoint_72 (v := 0) kc_i0 rfl ?_
            refine qa_istore (pc1 := 75) dX10_atPoint_73 (by decide) rfl ?_
            first
            | (rw [kw_bt (by grind)] at J; exact qa_ls (by exact (kw_lsc rfl (kw_lsc rfl (kw_lsc rfl (kw_lsc rfl (kw_lsc rfl kw_lsn)))))) J)
            | (rw [kw_bf (by grind)] at J; exact qa_ls (by exact (kw_lsc rfl (kw_lsc rfl (kw_lsc rfl (kw_lsc rfl (kw_lsc rfl kw_lsn)))))) J)
          · refine qa_iconst (pc1 := 69) dX10_atPoint_68 (v := 1) kc_i1 rfl ?_
            refine qa_goto (tgt := 73) dX10_atPoint_69 rfl ?_
            refine qa_istore (pc1 := 75) dX10_atPoint_73 (by decide) rfl ?_
            first
            | (rw [kw_bt (by grind)] at J; exact qa_ls (by exact (kw_lsc rfl (kw_lsc rfl (kw_lsc rfl (kw_lsc rfl (kw_lsc rfl kw_lsn)))))) J)
            | (rw [kw_bf (by grind)] at J; exact qa_ls (by exact (kw_lsc rfl (kw_lsc rfl (kw_lsc rfl (kw_lsc rfl (kw_lsc rfl kw_lsn)))))) J)
      · refine qa_aload_n (pc1 := 29) dX10_atPoint_28 rfl rfl rfl ?_
        refine qa_getP (pc1 := 32) dX10_atPoint_29 rfl wf_X10_29 rfl ko_mo (by omega) (show P 176 8 = 183 from kp_mo hps (by decide : kw_mo 8 ≠ 0)) ?_
        refine qa_iconst (pc1 := 33) dX10_atPoint_32 (v := (nI 0)) kc_i0N rfl ?_
        refine qr_iald (pc1 := 34) dX10_atPoint_33 rfl ka_m183 rfl (by omega) (by omega) (by decide) ?_
        refine qa_iconst (pc1 := 35) dX10_atPoint_34 (v := 1) kc_i1 rfl ?_
        refine qa_ic_eq (tgt := 68) (pc1 := 38) dX10_atPoint_35 rfl rfl (fun h35 => ?_) (fun h35 => ?_)
        · refine qa_iconst (pc1 := 69) dX10_atPoint_68 (v := 1) kc_i1 rfl ?_
          refine qa_goto (tgt := 73) dX10_atPoint_69 rfl ?_
          refine qa_istore (pc1 := 75) dX10_atPoint_73 (by decide) rfl ?_
          first
          | (rw [kw_bt (by grind)] at J; exact qa_ls (by exact (kw_lsc rfl (kw_lsc rfl (kw_lsc rfl (kw_lsc rfl (kw_lsc rfl kw_lsn)))))) J)
          | (rw [kw_bf (by grind)] at J; exact qa_ls (by exact (kw_lsc rfl (kw_lsc rfl (kw_lsc rfl (kw_lsc rfl (kw_lsc rfl kw_lsn)))))) J)
        · refine qa_aload_n (pc1 := 39) dX10_atPoint_38 rfl rfl rfl ?_
          refine qa_getP (pc1 := 42) dX10_atPoint_39 rfl wf_X10_29 rfl ko_mo (by omega) (show P 176 8 = 183 from kp_mo hps (by decide : kw_mo 8 ≠ 0)) ?_
          refine qa_iconst (pc1 := 43) dX10_atPoint_42 (v := (nI 0)) kc_i0N rfl ?_
          refine qr_iald (pc1 := 44) dX10_atPoint_43 rfl ka_m183 rfl (by omega) (by omega) (by decide) ?_
          refine qa_iconst (pc1 := 45) dX10_atPoint_44 (v := 2) kc_i2 rfl ?_
          refine qa_ic_eq (tgt := 68) (pc1 := 48) dX10_atPoint_45 rfl rfl (fun h45 => ?_) (fun h45 => ?_)
          · refine qa_iconst (pc1 := 69) dX10_atPoint_68 (v := 1) kc_i1 rfl ?_
            refine qa_goto (tgt := 73) dX10_atPoint_69 rfl ?_
            refine qa_istore (pc1 := 75) dX10_atPoint_73 (by decide) rfl ?_
            first
            | (rw [kw_bt (by grind)] at J; exact qa_ls (by exact (kw_lsc rfl (kw_lsc rfl (kw_lsc rfl (kw_lsc rfl (kw_lsc rfl kw_lsn)))))) J)
            | (rw [kw_bf (by grind)] at J; exact qa_ls (by exact (kw_lsc rfl (kw_lsc rfl (kw_lsc rfl (kw_lsc rfl (kw_lsc rfl kw_lsn)))))) J)
          · refine qa_aload_n (pc1 := 49) dX10_atPoint_48 rfl rfl rfl ?_
            refine qa_getP (pc1 := 52) dX10_atPoint_49 rfl wf_X10_32 rfl ko_mo (by omega) (show P 176 9 = 184 from kp_mo hps (by decide : kw_mo 9 ≠ 0)) ?_
            refine qa_iload_n (pc1 := 53) dX10_atPoint_52 rfl rfl rfl ?_
            refine qr_iald (pc1 := 54) dX10_atPoint_53 rfl ka_m184 rfl (by omega) (by omega) (by omega) ?_
            refine qa_iconst (pc1 := 55) dX10_atPoint_54 (v := 3) kc_i3 rfl ?_
            refine qa_ic_ne (tgt := 72) (pc1 := 58) dX10_atPoint_55 rfl rfl (fun h55 => ?_) (fun h55 => ?_)
            · refine qa_iconst (pc1 := 73) dX10_atPoint_72 (v := 0) kc_i0 rfl ?_
              refine qa_istore (pc1 := 75) dX10_atPoint_73 (by decide) rfl ?_
              first
              | (rw [kw_bt (by grind)] at J; exact qa_ls (by exact (kw_lsc rfl (kw_lsc rfl (kw_lsc rfl (kw_lsc rfl (kw_lsc rfl kw_lsn)))))) J)
              | (rw [kw_bf (by grind)] at J; exact qa_ls (by exact (kw_lsc rfl (kw_lsc rfl (kw_lsc rfl (kw_lsc rfl (kw_lsc rfl kw_lsn)))))) J)
            · refine qa_aload_n (pc1 := 59) dX10_atPoint_58 rfl rfl rfl ?_
              refine qa_getP (pc1 := 62) dX10_atPoint_59 rfl wf_X10_29 rfl ko_mo (by omega) (show P 176 8 = 183 from kp_mo hps (by decide : kw_mo 8 ≠ 0)) ?_
              refine qa_iconst (pc1 := 63) dX10_atPoint_62 (v := (nI 0)) kc_i0N rfl ?_
              refine qr_iald (pc1 := 64) dX10_atPoint_63 rfl ka_m183 rfl (by omega) (by omega) (by decide) ?_
              refine qa_iconst (pc1 := 65) dX10_atPoint_64 (v := 4) kc_i4 rfl ?_
              refine qa_ic_ne (tgt := 72) (pc1 := 68) dX10_atPoint_65 rfl rfl (fun h65 => ?_) (fun h65 => ?_)
              · refine qa_iconst (pc1 := 73) dX10_atPoint_72 (v := 0) kc_i0 rfl ?_
                refine qa_istore (pc1 := 75) dX10_atPoint_73 (by decide) rfl ?_
                first
                | (rw [kw_bt (by grind)] at J; exact qa_ls (by exact (kw_lsc rfl (kw_lsc rfl (kw_lsc rfl (kw_lsc rfl (kw_lsc rfl kw_lsn)))))) J)
                | (rw [kw_bf (by grind)] at J; exact qa_ls (by exact (kw_lsc rfl (kw_lsc rfl (kw_lsc rfl (kw_lsc rfl (kw_lsc rfl kw_lsn)))))) J)
              · refine qa_iconst (pc1 := 69) dX10_atPoint_68 (v := 1) kc_i1 rfl ?_
                refine qa_goto (tgt := 73) dX10_atPoint_69 rfl ?_
                refine qa_istore (pc1 := 75) dX10_atPoint_73 (by decide) rfl ?_
                first
                | (rw [kw_bt (by grind)] at J; exact qa_ls (by exact (kw_lsc rfl (kw_lsc rfl (kw_lsc rfl (kw_lsc rfl (kw_lsc rfl kw_lsn)))))) J)
                | (rw [kw_bf (by grind)] at J; exact qa_ls (by exact (kw_lsc rfl (kw_lsc rfl (kw_lsc rfl (kw_lsc rfl (kw_lsc rfl kw_lsn)))))) J)
  refine qa_iconst (pc1 := 1) dX10_atPoint_0 (v := (nI 4)) kc_i4N rfl ?_
  refine qa_iload_n (pc1 := 2) dX10_atPoint_1 rfl rfl rfl ?_
  refine qn_imul (pc1 := 3) dX10_atPoint_2 rfl ?_
  refine qa_istore_n (pc1 := 4) dX10_atPoint_3 rfl (by decide) rfl ?_
  exact qa_ls (by exact (kw_lsc rfl (kw_lsc rfl (kw_lsc rfl kw_lsn)))) (loop (4 * p) (Nat.le_refl _) (by omega) (by rw [show 4 * p + 4 - 4 * p = 4 from by omega]))
end REFB
