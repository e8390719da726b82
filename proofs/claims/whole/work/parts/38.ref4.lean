
def xr_fc (M : ax_I) (x : Int32) (e : Nat) : Bool := decide (M 186 (6 * e) = x ∧ M 186 (6 * e + 1) = M 183 0 ∧ M 186 (6 * e + 2) = M 183 1 ∧ M 186 (6 * e + 3) = M 183 2 ∧ ¬ nI e < M 176 12 - 8)
def xr_mk (M : ax_I) (x : Int32) (c : Nat) : ax_I :=
  ax_u (ax_u (ax_u (ax_u (ax_u (ax_u (ax_u M 186 (6 * c) x) 186 (6 * c + 1) (M 183 0)) 186 (6 * c + 2) (M 183 1)) 186 (6 * c + 3) (M 183 2)) 186 (6 * c + 4) (3 + (M 183 3 &&& 1))) 186 (6 * c + 5) (xa_mix (M 183 2) (nI c))) 176 12 (nI (c + 1))
def xr_hb (M : ax_I) (x : Int32) (e : Nat) : Int32 := if M 183 0 = 0 then M 183 4 ^^^ xa_mix (xr_key M 2 x) (M 183 2) ^^^ xa_mix (xr_key M 2 (M 186 (6 * e + 4))) (M 186 (6 * e + 5)) else M 183 4
def xr_ho (M : ax_I) (x : Int32) (e s0 : Nat) : ax_I := xr_snd M 2 (M 186 (6 * e + 4)) (M 183 0) (nI ((e - s0) % 8)) (M 186 (6 * e + 5)) (M 183 3) (xr_hb M x e)
theorem xr_mk_ok {M : ax_I} {x : Int32} {c : Nat} (hk : xr_nok M) : xr_nok (xr_mk M x c) := by
  have e : xr_mk M x c 176 7 = M 176 7 := by simp [xr_mk, ax_u]
  unfold xr_nok xr_n; rw [e]; exact hk
def xr_hc (M : ax_I) (x : Int32) (s0 e : Nat) : Bool := decide (¬ nI e < M 176 12 - 8 ∧ nI ((e - s0) % 8) = M 183 1 ∧ M 186 (6 * e + 4) = x ∧ xr_right M (M 186 (6 * e + 5)))
def xr_fh (M : ax_I) (e : Nat) : ax_I := xr_snd M 2 (M 186 (6 * e)) (M 183 0) (M 186 (6 * e + 2)) (M 186 (6 * e + 3)) (M 183 3) (M 183 4)
abbrev xr_rq (M : ax_I) : Prop := (M 183 0 = 0 ∨ M 183 0 = 3) ∧ xr_right M (M 183 2)
theorem xr_ans_ok {M : ax_I} (hk : xr_nok M) {h r : Nat} : xr_nok (xr_ans M h r) := xr_snd_ok hk
theorem xr_ans_o {M : ax_I} {h r n j : Nat} (h2 : ¬ n = 182) (h1 : ¬ (n = 176 ∧ j = 7)) : xr_ans M h r n j = M n j := xr_snd_o h2 h1

section REFD
variable {l : Launch} {D : va_G} {aC : Nat → ClassId} {b : Nat} {C M : ax_I} {P : ax_P}
set_option maxRecDepth 20000 in
set_option maxHeartbeats 4000000 in
theorem rt_ask (hps : kw_ps P) {h B : Nat} (hh : h < 2) (hB : B ≤ 790) : kw_C l D aC b yX10_ask cX10_ask 9 none 4 [.inr (.inl 176), .inl (nI h), .inl (nI B)] C M P none C (xr_ask M h B) P := by
  refine ax_body (own := RX10) (ini := false) (by decide) rfl (fun h => by cases h) (Nat.le_of_ble_eq_true rfl) ?_
  have lp : ∀ j, j ≤ 6 → ∀ n f : Int32, xr_do M (M 183 3) j n = xr_do M (M 183 3) 6 0 → xr_df M j f = xr_df M 6 (-1) → ax_G l D aC b RX10 cX10_ask 9 none false (kw_rm 4) 191 (ax_F D aC b 191 0 0 (kw_R none kw_K kw_L (kw_gl C (xr_ask M h B)) P)) (fun _ => True) 86 [(8, .inl (kw_m j)), (6, .inl n), (7, .inl f), (0, .inr (.inl 176)), (1, .inl (nI h)), (2, .inl (nI B)), (3, .inl (M 183 3)), (4, .inl (xr_pw M h)), (5, .inl (kw_b (xr_wr M h (M 183 3) (xr_pw M h))))] [] 0 0 kw_K kw_L (kw_gl C M) P := by
    intro j
    induction j with
    | zero =>
      intro hj n f hf hg
      have e1 : n = xr_do M (M 183 3) 6 0 := hf
      have e2 : f = xr_df M 6 (-1) := hg
      subst e1 e2
      refine qa_iload (pc1 := 88) dX10_ask_86 rfl rfl ?_
      refine qt_if_lt (tgt := 148) dX10_ask_88 rfl (by decide) ?_
      refine qa_iload (pc1 := 150) dX10_ask_148 rfl rfl ?_
      refine qb_if_eq (tgt := 164) (pc1 := 153) dX10_ask_150 rfl rfl (fun h150 => ?_) (fun h150 => ?_)
      · have hw := Classical.not_not.mp h150
        refine qa_iload (pc1 := 166) dX10_ask_164 rfl rfl ?_
        refine qa_aload_n (pc1 := 167) dX10_ask_166 rfl rfl rfl ?_
        refine qa_getP (pc1 := 170) dX10_ask_167 rfl wf_X10_23 rfl ko_mo (by omega) (show P 176 4 = 181 from kp_mo hps (by decide : kw_mo 4 ≠ 0)) ?_
        refine qa_iload_n (pc1 := 171) dX10_ask_170 rfl rfl rfl ?_
        refine qr_ialdx (pc1 := 172) dX10_ask_171 rfl ka_m181 rfl (by omega) (by omega) (kw_inq rfl hw.1 hw.2.1) ?_
        refine qa_ic_lt (tgt := 186) (pc1 := 175) dX10_ask_172 rfl rfl (fun h172 => ?_) (fun h172 => ?_)
        · refine qa_iload (pc1 := 188) dX10_ask_186 rfl rfl ?_
          refine qa_if_ge (tgt := 202) (pc1 := 191) dX10_ask_188 rfl rfl (fun h188 => ?_) (fun h188 => ?_)
          · refine qa_aload_n (pc1 := 203) dX10_ask_202 rfl rfl rfl ?_
            refine qa_iload_n (pc1 := 204) dX10_ask_203 rfl rfl rfl ?_
            refine qa_iconst (pc1 := 205) dX10_ask_204 (v := 1) kc_i1 rfl ?_
            refine qa_aload_n (pc1 := 206) dX10_ask_205 rfl rfl rfl ?_
            refine qa_getP (pc1 := 209) dX10_ask_206 rfl wf_X10_44 rfl ko_mo (by omega) (show P 176 15 = 188 from kp_mo hps (by decide : kw_mo 15 ≠ 0)) ?_
            refine qa_iload_n (pc1 := 210) dX10_ask_209 rfl rfl rfl ?_
            refine qr_iald (pc1 := 211) dX10_ask_210 rfl ka_m188 rfl (by omega) (by omega) (by omega) ?_
            refine qa_iload (pc1 := 213) dX10_ask_211 rfl rfl ?_
            refine qa_callVv (pc1 := 216) dX10_ask_213 rfl (rt_result hps (by assumption) _ _ _) wc_X10_148 wy_X10_result rfl rfl (ci := k_mo) rfl ko_mo (by omega) rfl ?_
            refine qa_aload_n (pc1 := 217) dX10_ask_216 rfl rfl rfl ?_
            refine qa_getP (pc1 := 220) dX10_ask_217 rfl wf_X10_41 rfl ko_mo (by omega) (show P 176 14 = 187 from kp_mo hps (by decide : kw_mo 14 ≠ 0)) ?_
            refine qa_iload_n (pc1 := 221) dX10_ask_220 rfl rfl rfl ?_
            refine qa_bipush (pc1 := 223) dX10_ask_221 (v := (nI 7)) kc_b7N rfl ?_
            refine qn_iadd (pc1 := 224) dX10_ask_223 rfl ?_
            refine qa_iconst (pc1 := 225) dX10_ask_224 (v := 1) kc_i1 rfl ?_
            refine qr_iast (pc1 := 226) dX10_ask_225 rfl ka_m187 rfl (by omega) (by omega) (by omega) ?_
            refine qa_aload_n (pc1 := 227) dX10_ask_226 rfl rfl rfl ?_
            refine qa_getP (pc1 := 230) dX10_ask_227 rfl wf_X10_41 rfl ko_mo (by omega) (show P 176 14 = 187 from kp_mo hps (by decide : kw_mo 14 ≠ 0)) ?_
            refine qa_iload_n (pc1 := 231) dX10_ask_230 rfl rfl rfl ?_
            refine qa_bipush (pc1 := 233) dX10_ask_231 (v := (nI 8)) kc_b8N rfl ?_
            refine qn_iadd (pc1 := 234) dX10_ask_233 rfl ?_
            refine qa_iload_n (pc1 := 235) dX10_ask_234 rfl rfl rfl ?_
            refine qr_iast (pc1 := 236) dX10_ask_235 rfl ka_m187 rfl (by omega) (by omega) (by omega) ?_
            refine qa_aload_n (pc1 := 237) dX10_ask_236 rfl rfl rfl ?_
            refine qa_getP (pc1 := 240) dX10_ask_237 rfl wf_X10_41 rfl ko_mo (by omega) (show P 176 14 = 187 from kp_mo hps (by decide : kw_mo 14 ≠ 0)) ?_
            refine qa_iload_n (pc1 := 241) dX10_ask_240 rfl rfl rfl ?_
            refine qa_bipush (pc1 := 243) dX10_ask_241 (v := (nI 9)) kc_b9N rfl ?_
            refine qn_iadd (pc1 := 244) dX10_ask_243 rfl ?_
            refine qa_iload (pc1 := 246) dX10_ask_244 rfl rfl ?_
            refine qr_iast (pc1 := 247) dX10_ask_246 rfl ka_m187 rfl (by omega) (by omega) (by omega) ?_
            exact qa_vret dX10_ask_247 rfl rfl rfl (by simp only [xr_ask]; grind) rfl
          · refine qa_aload_n (pc1 := 192) dX10_ask_191 rfl rfl rfl ?_
            refine qa_iload_n (pc1 := 193) dX10_ask_192 rfl rfl rfl ?_
            refine qa_iconst (pc1 := 194) dX10_ask_193 (v := 2) kc_i2 rfl ?_
            refine qa_iconst (pc1 := 195) dX10_ask_194 (v := 3) kc_i3 rfl ?_
            refine qa_iconst (pc1 := 196) dX10_ask_195 (v := 0) kc_i0 rfl ?_
            refine qa_callVv (pc1 := 199) dX10_ask_196 rfl (rt_result hps (by assumption) _ _ _) wc_X10_148 wy_X10_result rfl rfl (ci := k_mo) rfl ko_mo (by omega) rfl ?_
            refine qa_goto (tgt := 247) dX10_ask_199 rfl ?_
            exact qa_vret dX10_ask_247 rfl rfl rfl (by simp only [xr_ask]; grind) rfl
        · refine qa_aload_n (pc1 := 176) dX10_ask_175 rfl rfl rfl ?_
          refine qa_iload_n (pc1 := 177) dX10_ask_176 rfl rfl rfl ?_
          refine qa_iconst (pc1 := 178) dX10_ask_177 (v := 2) kc_i2 rfl ?_
          refine qa_iconst (pc1 := 179) dX10_ask_178 (v := 2) kc_i2 rfl ?_
          refine qa_iconst (pc1 := 180) dX10_ask_179 (v := 0) kc_i0 rfl ?_
          refine qa_callVv (pc1 := 183) dX10_ask_180 rfl (rt_result hps (by assumption) _ _ _) wc_X10_148 wy_X10_result rfl rfl (ci := k_mo) rfl ko_mo (by omega) rfl ?_
          refine qa_goto (tgt := 247) dX10_ask_183 rfl ?_
          exact qa_vret dX10_ask_247 rfl rfl rfl (by simp only [xr_ask]; grind) rfl
      · refine qa_aload_n (pc1 := 154) dX10_ask_153 rfl rfl rfl ?_
        refine qa_iload_n (pc1 := 155) dX10_ask_154 rfl rfl rfl ?_
        refine qa_iconst (pc1 := 156) dX10_ask_155 (v := 2) kc_i2 rfl ?_
        refine qa_iconst (pc1 := 157) dX10_ask_156 (v := 1) kc_i1 rfl ?_
        refine qa_iconst (pc1 := 158) dX10_ask_157 (v := 0) kc_i0 rfl ?_
        refine qa_callVv (pc1 := 161) dX10_ask_158 rfl (rt_result hps (by assumption) _ _ _) wc_X10_148 wy_X10_result rfl rfl (ci := k_mo) rfl ko_mo (by omega) rfl ?_
        refine qa_goto (tgt := 247) dX10_ask_161 rfl ?_
        exact qa_vret dX10_ask_247 rfl rfl rfl (by simp only [xr_ask]; grind) rfl
    | succ j ih =>
      intro hj n f hf hg
      have hj6 : j < 6 := by omega
      rw [kw_m_s]
      refine qa_iload (pc1 := 88) dX10_ask_86 rfl rfl ?_
      refine qn_if_lt (tgt := 148) (pc1 := 91) dX10_ask_88 rfl rfl (by omega) ?_
      refine qa_aload_n (pc1 := 92) dX10_ask_91 rfl rfl rfl ?_
      refine qa_getP (pc1 := 95) dX10_ask_92 rfl wf_X10_50 rfl ko_mo (by omega) (show P 176 17 = 190 from kp_mo hps (by decide : kw_mo 17 ≠ 0)) ?_
      refine qa_iload (pc1 := 97) dX10_ask_95 rfl rfl ?_
      refine qr_iald (pc1 := 98) dX10_ask_97 rfl ka_m190 rfl (by omega) (by omega) (by omega) ?_
      refine qa_if_lt (tgt := 119) (pc1 := 101) dX10_ask_98 rfl rfl (fun h98 => ?_) (fun h98 => ?_)
      · refine qa_iload (pc1 := 121) dX10_ask_119 rfl rfl ?_
        refine qa_istore (pc1 := 123) dX10_ask_121 (by decide) rfl ?_
        refine qa_aload_n (pc1 := 124) dX10_ask_123 rfl rfl rfl ?_
        refine qa_getP (pc1 := 127) dX10_ask_124 rfl wf_X10_50 rfl ko_mo (by omega) (show P 176 17 = 190 from kp_mo hps (by decide : kw_mo 17 ≠ 0)) ?_
        refine qa_iload (pc1 := 129) dX10_ask_127 rfl rfl ?_
        refine qr_iald (pc1 := 130) dX10_ask_129 rfl ka_m190 rfl (by omega) (by omega) (by omega) ?_
        refine qa_if_ge (tgt := 138) (pc1 := 133) dX10_ask_130 rfl rfl (fun h130 => ?_) (fun h130 => ?_)
        · refine qa_iload (pc1 := 140) dX10_ask_138 rfl rfl ?_
          refine qa_istore (pc1 := 142) dX10_ask_140 (by decide) rfl ?_
          refine qa_iinc (pc1 := 145) dX10_ask_142 rfl (kw_m_dec j) (by decide) rfl ?_
          refine qa_goto (tgt := 86) dX10_ask_145 rfl ?_
          exact qa_ls (by exact (kw_lsc rfl (kw_lsc rfl (kw_lsc rfl (kw_lsc rfl (kw_lsc rfl (kw_lsc rfl (kw_lsc rfl (kw_lsc rfl (kw_lsc rfl kw_lsn)))))))))) (ih (by omega) _ _ (by rw [← hf, xr_do]; congr 1; grind) (by rw [← hg, xr_df]; congr 1; grind))
        · refine qa_iload (pc1 := 135) dX10_ask_133 rfl rfl ?_
          refine qa_goto (tgt := 140) dX10_ask_135 rfl ?_
          refine qa_istore (pc1 := 142) dX10_ask_140 (by decide) rfl ?_
          refine qa_iinc (pc1 := 145) dX10_ask_142 rfl (kw_m_dec j) (by decide) rfl ?_
          refine qa_goto (tgt := 86) dX10_ask_145 rfl ?_
          exact qa_ls (by exact (kw_lsc rfl (kw_lsc rfl (kw_lsc rfl (kw_lsc rfl (kw_lsc rfl (kw_lsc rfl (kw_lsc rfl (kw_lsc rfl (kw_lsc rfl kw_lsn)))))))))) (ih (by omega) _ _ (by rw [← hf, xr_do]; congr 1; grind) (by rw [← hg, xr_df]; congr 1; grind))
      · refine qa_aload_n (pc1 := 102) dX10_ask_101 rfl rfl rfl ?_
        refine qa_getP (pc1 := 105) dX10_ask_102 rfl wf_X10_53 rfl ko_mo (by omega) (show P 176 18 = 191 from kp_mo hps (by decide : kw_mo 18 ≠ 0)) ?_
        refine qa_iload (pc1 := 107) dX10_ask_105 rfl rfl ?_
        refine qr_iald (pc1 := 108) dX10_ask_107 rfl ka_m191 rfl (by omega) (by omega) (by omega) ?_
        refine qa_iload_n (pc1 := 109) dX10_ask_108 rfl rfl rfl ?_
        refine qa_ic_ne (tgt := 119) (pc1 := 112) dX10_ask_109 rfl rfl (fun h109 => ?_) (fun h109 => ?_)
        · refine qa_iload (pc1 := 121) dX10_ask_119 rfl rfl ?_
          refine qa_istore (pc1 := 123) dX10_ask_121 (by decide) rfl ?_
          refine qa_aload_n (pc1 := 124) dX10_ask_123 rfl rfl rfl ?_
          refine qa_getP (pc1 := 127) dX10_ask_124 rfl wf_X10_50 rfl ko_mo (by omega) (show P 176 17 = 190 from kp_mo hps (by decide : kw_mo 17 ≠ 0)) ?_
          refine qa_iload (pc1 := 129) dX10_ask_127 rfl rfl ?_
          refine qr_iald (pc1 := 130) dX10_ask_129 rfl ka_m190 rfl (by omega) (by omega) (by omega) ?_
          refine qa_if_ge (tgt := 138) (pc1 := 133) dX10_ask_130 rfl rfl (fun h130 => ?_) (fun h130 => ?_)
          · refine qa_iload (pc1 := 140) dX10_ask_138 rfl rfl ?_
            refine qa_istore (pc1 := 142) dX10_ask_140 (by decide) rfl ?_
            refine qa_iinc (pc1 := 145) dX10_ask_142 rfl (kw_m_dec j) (by decide) rfl ?_
            refine qa_goto (tgt := 86) dX10_ask_145 rfl ?_
            exact qa_ls (by exact (kw_lsc rfl (kw_lsc rfl (kw_lsc rfl (kw_lsc rfl (kw_lsc rfl (kw_lsc rfl (kw_lsc rfl (kw_lsc rfl (kw_lsc rfl kw_lsn)))))))))) (ih (by omega) _ _ (by rw [← hf, xr_do]; congr 1; grind) (by rw [← hg, xr_df]; congr 1; grind))
          · refine qa_iload (pc1 := 135) dX10_ask_133 rfl rfl ?_
            refine qa_goto (tgt := 140) dX10_ask_135 rfl ?_
            refine qa_istore (pc1 := 142) dX10_ask_140 (by decide) rfl ?_
            refine qa_iinc (pc1 := 145) dX10_ask_142 rfl (kw_m_dec j) (by decide) rfl ?_
            refine qa_goto (tgt := 86) dX10_ask_145 rfl ?_
            exact qa_ls (by exact (kw_lsc rfl (kw_lsc rfl (kw_lsc rfl (kw_lsc rfl (kw_lsc rfl (kw_lsc rfl (kw_lsc rfl (kw_lsc rfl (kw_lsc rfl kw_lsn)))))))))) (ih (by omega) _ _ (by rw [← hf, xr_do]; congr 1; grind) (by rw [← hg, xr_df]; congr 1; grind))
        · refine qa_iload (pc1 := 114) dX10_ask_112 rfl rfl ?_
          refine qa_iconst (pc1 := 115) dX10_ask_114 (v := 1) kc_i1 rfl ?_
          refine qa_iadd (pc1 := 116) dX10_ask_115 rfl ?_
          refine qa_goto (tgt := 121) dX10_ask_116 rfl ?_
          refine qa_istore (pc1 := 123) dX10_ask_121 (by decide) rfl ?_
          refine qa_aload_n (pc1 := 124) dX10_ask_123 rfl rfl rfl ?_
          refine qa_getP (pc1 := 127) dX10_ask_124 rfl wf_X10_50 rfl ko_mo (by omega) (show P 176 17 = 190 from kp_mo hps (by decide : kw_mo 17 ≠ 0)) ?_
          refine qa_iload (pc1 := 129) dX10_ask_127 rfl rfl ?_
          refine qr_iald (pc1 := 130) dX10_ask_129 rfl ka_m190 rfl (by omega) (by omega) (by omega) ?_
          refine qa_if_ge (tgt := 138) (pc1 := 133) dX10_ask_130 rfl rfl (fun h130 => ?_) (fun h130 => ?_)
          · refine qa_iload (pc1 := 140) dX10_ask_138 rfl rfl ?_
            refine qa_istore (pc1 := 142) dX10_ask_140 (by decide) rfl ?_
            refine qa_iinc (pc1 := 145) dX10_ask_142 rfl (kw_m_dec j) (by decide) rfl ?_
            refine qa_goto (tgt := 86) dX10_ask_145 rfl ?_
            exact qa_ls (by exact (kw_lsc rfl (kw_lsc rfl (kw_lsc rfl (kw_lsc rfl (kw_lsc rfl (kw_lsc rfl (kw_lsc rfl (kw_lsc rfl (kw_lsc rfl kw_lsn)))))))))) (ih (by omega) _ _ (by rw [← hf, xr_do]; congr 1; grind) (by rw [← hg, xr_df]; congr 1; grind))
          · refine qa_iload (pc1 := 135) dX10_ask_133 rfl rfl ?_
            refine qa_goto (tgt := 140) dX10_ask_135 rfl ?_
            refine qa_istore (pc1 := 142) dX10_ask_140 (by decide) rfl ?_
            refine qa_iinc (pc1 := 145) dX10_ask_142 rfl (kw_m_dec j) (by decide) rfl ?_
            refine qa_goto (tgt := 86) dX10_ask_145 rfl ?_
            exact qa_ls (by exact (kw_lsc rfl (kw_lsc rfl (kw_lsc rfl (kw_lsc rfl (kw_lsc rfl (kw_lsc rfl (kw_lsc rfl (kw_lsc rfl (kw_lsc rfl kw_lsn)))))))))) (ih (by omega) _ _ (by rw [← hf, xr_do]; congr 1; grind) (by rw [← hg, xr_df]; congr 1; grind))
  have L0 := lp 6 (Nat.le_refl _) 0 (-1) rfl rfl
  rw [kw_m_s] at L0
  have hl2 := xr_lk3 hh
  refine qa_aload_n (pc1 := 1) dX10_ask_0 rfl rfl rfl ?_
  refine qa_getP (pc1 := 4) dX10_ask_1 rfl wf_X10_29 rfl ko_mo (by omega) (show P 176 8 = 183 from kp_mo hps (by decide : kw_mo 8 ≠ 0)) ?_
  refine qa_iconst (pc1 := 5) dX10_ask_4 (v := (nI 3)) kc_i3N rfl ?_
  refine qr_iald (pc1 := 6) dX10_ask_5 rfl ka_m183 rfl (by omega) (by omega) (by decide) ?_
  refine qa_istore_n (pc1 := 7) dX10_ask_6 rfl (by decide) rfl ?_
  refine qa_aload_n (pc1 := 8) dX10_ask_7 rfl rfl rfl ?_
  refine qa_getP (pc1 := 11) dX10_ask_8 rfl wf_X10_29 rfl ko_mo (by omega) (show P 176 8 = 183 from kp_mo hps (by decide : kw_mo 8 ≠ 0)) ?_
  refine qa_iconst (pc1 := 12) dX10_ask_11 (v := (nI 4)) kc_i4N rfl ?_
  refine qr_iald (pc1 := 13) dX10_ask_12 rfl ka_m183 rfl (by omega) (by omega) (by decide) ?_
  refine qa_aload_n (pc1 := 14) dX10_ask_13 rfl rfl rfl ?_
  refine qa_iload_n (pc1 := 15) dX10_ask_14 rfl rfl rfl ?_
  refine qa_iconst (pc1 := 16) dX10_ask_15 (v := (nI 3)) kc_i3N rfl ?_
  refine qn_iadd (pc1 := 17) dX10_ask_16 rfl ?_
  refine qa_iconst (pc1 := 18) dX10_ask_17 (v := 2) kc_i2 rfl ?_
  refine qa_callVi (pc1 := 21) dX10_ask_18 rfl (rt_keyAt hps _ _ (by assumption)) wc_X10_65 wy_X10_keyAt rfl rfl (ci := k_mo) rfl ko_mo (by omega) rfl ?_
  refine qa_aload_n (pc1 := 22) dX10_ask_21 rfl rfl rfl ?_
  refine qa_getP (pc1 := 25) dX10_ask_22 rfl wf_X10_29 rfl ko_mo (by omega) (show P 176 8 = 183 from kp_mo hps (by decide : kw_mo 8 ≠ 0)) ?_
  refine qa_iconst (pc1 := 26) dX10_ask_25 (v := (nI 2)) kc_i2N rfl ?_
  refine qr_iald (pc1 := 27) dX10_ask_26 rfl ka_m183 rfl (by omega) (by omega) (by decide) ?_
  refine qa_callSi (pc1 := 30) dX10_ask_27 rfl (rt_mix _ _) wc_X10_57 wy_X10_mix rfl rfl rfl ?_
  refine qa_ixor (pc1 := 31) dX10_ask_30 rfl ?_
  refine qa_istore (pc1 := 33) dX10_ask_31 (by decide) rfl ?_
  refine qa_iload_n (pc1 := 34) dX10_ask_33 rfl rfl rfl ?_
  refine qa_if_lt (tgt := 70) (pc1 := 37) dX10_ask_34 rfl rfl (fun h34 => ?_) (fun h34 => ?_)
  · refine qa_iconst (pc1 := 71) dX10_ask_70 (v := 1) kc_i1 rfl ?_
    refine qa_goto (tgt := 75) dX10_ask_71 rfl ?_
    refine qa_istore (pc1 := 77) dX10_ask_75 (by decide) rfl ?_
    refine qa_iconst (pc1 := 78) dX10_ask_77 (v := 0) kc_i0 rfl ?_
    refine qa_istore (pc1 := 80) dX10_ask_78 (by decide) rfl ?_
    refine qa_iconst (pc1 := 81) dX10_ask_80 (v := (-1)) kc_im1 rfl ?_
    refine qa_istore (pc1 := 83) dX10_ask_81 (by decide) rfl ?_
    refine qa_iconst (pc1 := 84) dX10_ask_83 (v := (nI 5)) kc_i5N rfl ?_
    refine qa_istore (pc1 := 86) dX10_ask_84 (by decide) rfl ?_
    first
    | (rw [kw_bt (show xr_wr M h (M 183 3) (xr_pw M h) from by simp only [xr_wr, xr_pw]; grind)] at L0; exact qa_ls (by exact (kw_lsc rfl (kw_lsc rfl (kw_lsc rfl (kw_lsc rfl (kw_lsc rfl (kw_lsc rfl (kw_lsc rfl (kw_lsc rfl (kw_lsc rfl kw_lsn)))))))))) L0)
    | (rw [kw_bf (show ¬ xr_wr M h (M 183 3) (xr_pw M h) from by simp only [xr_wr, xr_pw]; grind)] at L0; exact qa_ls (by exact (kw_lsc rfl (kw_lsc rfl (kw_lsc rfl (kw_lsc rfl (kw_lsc rfl (kw_lsc rfl (kw_lsc rfl (kw_lsc rfl (kw_lsc rfl kw_lsn)))))))))) L0)
  · refine qa_iload_n (pc1 := 38) dX10_ask_37 rfl rfl rfl ?_
    refine qa_bipush (pc1 := 40) dX10_ask_38 (v := 11) kc_b11 rfl ?_
    refine qa_ic_gt (tgt := 70) (pc1 := 43) dX10_ask_40 rfl rfl (fun h40 => ?_) (fun h40 => ?_)
    · refine qa_iconst (pc1 := 71) dX10_ask_70 (v := 1) kc_i1 rfl ?_
      refine qa_goto (tgt := 75) dX10_ask_71 rfl ?_
      refine qa_istore (pc1 := 77) dX10_ask_75 (by decide) rfl ?_
      refine qa_iconst (pc1 := 78) dX10_ask_77 (v := 0) kc_i0 rfl ?_
      refine qa_istore (pc1 := 80) dX10_ask_78 (by decide) rfl ?_
      refine qa_iconst (pc1 := 81) dX10_ask_80 (v := (-1)) kc_im1 rfl ?_
      refine qa_istore (pc1 := 83) dX10_ask_81 (by decide) rfl ?_
      refine qa_iconst (pc1 := 84) dX10_ask_83 (v := (nI 5)) kc_i5N rfl ?_
      refine qa_istore (pc1 := 86) dX10_ask_84 (by decide) rfl ?_
      first
      | (rw [kw_bt (show xr_wr M h (M 183 3) (xr_pw M h) from by simp only [xr_wr, xr_pw]; grind)] at L0; exact qa_ls (by exact (kw_lsc rfl (kw_lsc rfl (kw_lsc rfl (kw_lsc rfl (kw_lsc rfl (kw_lsc rfl (kw_lsc rfl (kw_lsc rfl (kw_lsc rfl kw_lsn)))))))))) L0)
      | (rw [kw_bf (show ¬ xr_wr M h (M 183 3) (xr_pw M h) from by simp only [xr_wr, xr_pw]; grind)] at L0; exact qa_ls (by exact (kw_lsc rfl (kw_lsc rfl (kw_lsc rfl (kw_lsc rfl (kw_lsc rfl (kw_lsc rfl (kw_lsc rfl (kw_lsc rfl (kw_lsc rfl kw_lsn)))))))))) L0)
    · refine qa_iload_n (pc1 := 44) dX10_ask_43 rfl rfl rfl ?_
      refine qa_iconst (pc1 := 45) dX10_ask_44 (v := 1) kc_i1 rfl ?_
      refine qa_iand (pc1 := 46) dX10_ask_45 rfl ?_
      refine qa_iload_n (pc1 := 47) dX10_ask_46 rfl rfl rfl ?_
      refine qa_ic_ne (tgt := 70) (pc1 := 50) dX10_ask_47 rfl rfl (fun h47 => ?_) (fun h47 => ?_)
      · refine qa_iconst (pc1 := 71) dX10_ask_70 (v := 1) kc_i1 rfl ?_
        refine qa_goto (tgt := 75) dX10_ask_71 rfl ?_
        refine qa_istore (pc1 := 77) dX10_ask_75 (by decide) rfl ?_
        refine qa_iconst (pc1 := 78) dX10_ask_77 (v := 0) kc_i0 rfl ?_
        refine qa_istore (pc1 := 80) dX10_ask_78 (by decide) rfl ?_
        refine qa_iconst (pc1 := 81) dX10_ask_80 (v := (-1)) kc_im1 rfl ?_
        refine qa_istore (pc1 := 83) dX10_ask_81 (by decide) rfl ?_
        refine qa_iconst (pc1 := 84) dX10_ask_83 (v := (nI 5)) kc_i5N rfl ?_
        refine qa_istore (pc1 := 86) dX10_ask_84 (by decide) rfl ?_
        first
        | (rw [kw_bt (show xr_wr M h (M 183 3) (xr_pw M h) from by simp only [xr_wr, xr_pw]; grind)] at L0; exact qa_ls (by exact (kw_lsc rfl (kw_lsc rfl (kw_lsc rfl (kw_lsc rfl (kw_lsc rfl (kw_lsc rfl (kw_lsc rfl (kw_lsc rfl (kw_lsc rfl kw_lsn)))))))))) L0)
        | (rw [kw_bf (show ¬ xr_wr M h (M 183 3) (xr_pw M h) from by simp only [xr_wr, xr_pw]; grind)] at L0; exact qa_ls (by exact (kw_lsc rfl (kw_lsc rfl (kw_lsc rfl (kw_lsc rfl (kw_lsc rfl (kw_lsc rfl (kw_lsc rfl (kw_lsc rfl (kw_lsc rfl kw_lsn)))))))))) L0)
      · refine qa_aload_n (pc1 := 51) dX10_ask_50 rfl rfl rfl ?_
        refine qa_getP (pc1 := 54) dX10_ask_51 rfl wf_X10_16 rfl ko_mo (by omega) (show P 176 2 = 179 from kp_mo hps (by decide : kw_mo 2 ≠ 0)) ?_
        refine qa_iload_n (pc1 := 55) dX10_ask_54 rfl rfl rfl ?_
        refine qr_zaldx (pc1 := 56) dX10_ask_55 rfl ka_m179 rfl (by omega) (by omega) (kw_inq rfl h34 h40) ?_
        refine qa_if_eq (tgt := 70) (pc1 := 59) dX10_ask_56 rfl rfl (fun h56 => ?_) (fun h56 => ?_)
        · refine qa_iconst (pc1 := 71) dX10_ask_70 (v := 1) kc_i1 rfl ?_
          refine qa_goto (tgt := 75) dX10_ask_71 rfl ?_
          refine qa_istore (pc1 := 77) dX10_ask_75 (by decide) rfl ?_
          refine qa_iconst (pc1 := 78) dX10_ask_77 (v := 0) kc_i0 rfl ?_
          refine qa_istore (pc1 := 80) dX10_ask_78 (by decide) rfl ?_
          refine qa_iconst (pc1 := 81) dX10_ask_80 (v := (-1)) kc_im1 rfl ?_
          refine qa_istore (pc1 := 83) dX10_ask_81 (by decide) rfl ?_
          refine qa_iconst (pc1 := 84) dX10_ask_83 (v := (nI 5)) kc_i5N rfl ?_
          refine qa_istore (pc1 := 86) dX10_ask_84 (by decide) rfl ?_
          first
          | (rw [kw_bt (show xr_wr M h (M 183 3) (xr_pw M h) from by simp only [xr_wr, xr_pw]; grind)] at L0; exact qa_ls (by exact (kw_lsc rfl (kw_lsc rfl (kw_lsc rfl (kw_lsc rfl (kw_lsc rfl (kw_lsc rfl (kw_lsc rfl (kw_lsc rfl (kw_lsc rfl kw_lsn)))))))))) L0)
          | (rw [kw_bf (show ¬ xr_wr M h (M 183 3) (xr_pw M h) from by simp only [xr_wr, xr_pw]; grind)] at L0; exact qa_ls (by exact (kw_lsc rfl (kw_lsc rfl (kw_lsc rfl (kw_lsc rfl (kw_lsc rfl (kw_lsc rfl (kw_lsc rfl (kw_lsc rfl (kw_lsc rfl kw_lsn)))))))))) L0)
        · refine qa_aload_n (pc1 := 60) dX10_ask_59 rfl rfl rfl ?_
          refine qa_getP (pc1 := 63) dX10_ask_60 rfl wf_X10_20 rfl ko_mo (by omega) (show P 176 3 = 180 from kp_mo hps (by decide : kw_mo 3 ≠ 0)) ?_
          refine qa_iload_n (pc1 := 64) dX10_ask_63 rfl rfl rfl ?_
          refine qr_ialdx (pc1 := 65) dX10_ask_64 rfl ka_m180 rfl (by omega) (by omega) (kw_inq rfl h34 h40) ?_
          refine qa_iload (pc1 := 67) dX10_ask_65 rfl rfl ?_
          refine qa_ic_eq (tgt := 74) (pc1 := 70) dX10_ask_67 rfl rfl (fun h67 => ?_) (fun h67 => ?_)
          · refine qa_iconst (pc1 := 75) dX10_ask_74 (v := 0) kc_i0 rfl ?_
            refine qa_istore (pc1 := 77) dX10_ask_75 (by decide) rfl ?_
            refine qa_iconst (pc1 := 78) dX10_ask_77 (v := 0) kc_i0 rfl ?_
            refine qa_istore (pc1 := 80) dX10_ask_78 (by decide) rfl ?_
            refine qa_iconst (pc1 := 81) dX10_ask_80 (v := (-1)) kc_im1 rfl ?_
            refine qa_istore (pc1 := 83) dX10_ask_81 (by decide) rfl ?_
            refine qa_iconst (pc1 := 84) dX10_ask_83 (v := (nI 5)) kc_i5N rfl ?_
            refine qa_istore (pc1 := 86) dX10_ask_84 (by decide) rfl ?_
            first
            | (rw [kw_bt (show xr_wr M h (M 183 3) (xr_pw M h) from by simp only [xr_wr, xr_pw]; grind)] at L0; exact qa_ls (by exact (kw_lsc rfl (kw_lsc rfl (kw_lsc rfl (kw_lsc rfl (kw_lsc rfl (kw_lsc rfl (kw_lsc rfl (kw_lsc rfl (kw_lsc rfl kw_lsn)))))))))) L0)
            | (rw [kw_bf (show ¬ xr_wr M h (M 183 3) (xr_pw M h) from by simp only [xr_wr, xr_pw]; grind)] at L0; exact qa_ls (by exact (kw_lsc rfl (kw_lsc rfl (kw_lsc rfl (kw_lsc rfl (kw_lsc rfl (kw_lsc rfl (kw_lsc rfl (kw_lsc rfl (kw_lsc rfl kw_lsn)))))))))) L0)
          · refine qa_iconst (pc1 := 71) dX10_ask_70 (v := 1) kc_i1 rfl ?_
            refine qa_goto (tgt := 75) dX10_ask_71 rfl ?_
            refine qa_istore (pc1 := 77) dX10_ask_75 (by decide) rfl ?_
            refine qa_iconst (pc1 := 78) dX10_ask_77 (v := 0) kc_i0 rfl ?_
            refine qa_istore (pc1 := 80) dX10_ask_78 (by decide) rfl ?_
            refine qa_iconst (pc1 := 81) dX10_ask_80 (v := (-1)) kc_im1 rfl ?_
            refine qa_istore (pc1 := 83) dX10_ask_81 (by decide) rfl ?_
            refine qa_iconst (pc1 := 84) dX10_ask_83 (v := (nI 5)) kc_i5N rfl ?_
            refine qa_istore (pc1 := 86) dX10_ask_84 (by decide) rfl ?_
            first
            | (rw [kw_bt (show xr_wr M h (M 183 3) (xr_pw M h) from by simp only [xr_wr, xr_pw]; grind)] at L0; exact qa_ls (by exact (kw_lsc rfl (kw_lsc rfl (kw_lsc rfl (kw_lsc rfl (kw_lsc rfl (kw_lsc rfl (kw_lsc rfl (kw_lsc rfl (kw_lsc rfl kw_lsn)))))))))) L0)
            | (rw [kw_bf (show ¬ xr_wr M h (M 183 3) (xr_pw M h) from by simp only [xr_wr, xr_pw]; grind)] at L0; exact qa_ls (by exact (kw_lsc rfl (kw_lsc rfl (kw_lsc rfl (kw_lsc rfl (kw_lsc rfl (kw_lsc rfl (kw_lsc rfl (kw_lsc rfl (kw_lsc rfl kw_lsn)))))))))) L0)
set_option maxRecDepth 20000 in
set_option maxHeartbeats 4000000 in
theorem rt_close (hps : kw_ps P) {B : Nat} (hB : B ≤ 790) : kw_C l D aC b yX10_close cX10_close 3 none 2 [.inr (.inl 176), .inl (nI B)] C M P none C (xr_close M B) P := by
  refine ax_body (own := RX10) (ini := false) (by decide) rfl (fun h => by cases h) (Nat.le_of_ble_eq_true rfl) ?_
  have loop : ∀ a, a ≤ 6 → ∀ M1 : ax_I, xr_cs B a (6 - a) M1 = xr_close M B → ax_G l D aC b RX10 cX10_close 3 none false (kw_rm 2) 191 (ax_F D aC b 191 0 0 (kw_R none kw_K kw_L (kw_gl C (xr_close M B)) P)) (fun _ => True) 20 [(2, .inl (nI a)), (0, .inr (.inl 176)), (1, .inl (nI B))] [] 0 0 kw_K kw_L (kw_gl C M1) P := by
    refine kw_loopB 6 (fun a hiN ih M1 hf => ?_)
    refine qa_iload_n (pc1 := 21) dX10_close_20 rfl rfl rfl ?_
    refine qa_bipush (pc1 := 23) dX10_close_21 (v := (nI 6)) kc_b6N rfl ?_
    refine qn_ic_ge (tgt := 96) (pc1 := 26) dX10_close_23 rfl rfl (by omega) (by omega) (fun h23 => ?_) (fun h23 => ?_)
    · exact qa_vret dX10_close_96 rfl rfl rfl (by rw [← hf, show 6 - a = 0 from by omega]; rfl) rfl
    · have ha : a < 6 := by omega
      refine qa_aload_n (pc1 := 27) dX10_close_26 rfl rfl rfl ?_
      refine qa_getP (pc1 := 30) dX10_close_27 rfl wf_X10_50 rfl ko_mo (by omega) (show P 176 17 = 190 from kp_mo hps (by decide : kw_mo 17 ≠ 0)) ?_
      refine qa_iload_n (pc1 := 31) dX10_close_30 rfl rfl rfl ?_
      refine qr_iald (pc1 := 32) dX10_close_31 rfl ka_m190 rfl (by omega) (by omega) (by omega) ?_
      refine qa_if_lt (tgt := 90) (pc1 := 35) dX10_close_32 rfl rfl (fun h32 => ?_) (fun h32 => ?_)
      · refine qa_iincN (pc1 := 93) dX10_close_90 rfl (by decide) rfl ?_
        refine qa_goto (tgt := 20) dX10_close_93 rfl ?_
        refine qa_memM (M1 := xr_c1 M1 B a) (by clear ih hf; simp only [xr_c1, xr_cc, ax_u_n (show (183 : Nat) ≠ 187 from by decide)]; grind) ?_
        exact qa_ls (by exact (kw_lsc rfl (kw_lsc rfl (kw_lsc rfl kw_lsn)))) (ih (by omega) _ (by rw [← hf, show 6 - a = (6 - (a + 1)) + 1 from by omega]; rfl))
      · refine qa_aload_n (pc1 := 36) dX10_close_35 rfl rfl rfl ?_
        refine qa_getP (pc1 := 39) dX10_close_36 rfl wf_X10_50 rfl ko_mo (by omega) (show P 176 17 = 190 from kp_mo hps (by decide : kw_mo 17 ≠ 0)) ?_
        refine qa_iload_n (pc1 := 40) dX10_close_39 rfl rfl rfl ?_
        refine qr_iald (pc1 := 41) dX10_close_40 rfl ka_m190 rfl (by omega) (by omega) (by omega) ?_
        refine qa_aload_n (pc1 := 42) dX10_close_41 rfl rfl rfl ?_
        refine qa_getP (pc1 := 45) dX10_close_42 rfl wf_X10_29 rfl ko_mo (by omega) (show P 176 8 = 183 from kp_mo hps (by decide : kw_mo 8 ≠ 0)) ?_
        refine qa_iconst (pc1 := 46) dX10_close_45 (v := (nI 4)) kc_i4N rfl ?_
        refine qr_iald (pc1 := 47) dX10_close_46 rfl ka_m183 rfl (by omega) (by omega) (by decide) ?_
        refine qa_ic_ne (tgt := 90) (pc1 := 50) dX10_close_47 rfl rfl (fun h47 => ?_) (fun h47 => ?_)
        · refine qa_iincN (pc1 := 93) dX10_close_90 rfl (by decide) rfl ?_
          refine qa_goto (tgt := 20) dX10_close_93 rfl ?_
          refine qa_memM (M1 := xr_c1 M1 B a) (by clear ih hf; simp only [xr_c1, xr_cc, ax_u_n (show (183 : Nat) ≠ 187 from by decide)]; grind) ?_
          exact qa_ls (by exact (kw_lsc rfl (kw_lsc rfl (kw_lsc rfl kw_lsn)))) (ih (by omega) _ (by rw [← hf, show 6 - a = (6 - (a + 1)) + 1 from by omega]; rfl))
        · refine qa_aload_n (pc1 := 51) dX10_close_50 rfl rfl rfl ?_
          refine qa_getP (pc1 := 54) dX10_close_51 rfl wf_X10_53 rfl ko_mo (by omega) (show P 176 18 = 191 from kp_mo hps (by decide : kw_mo 18 ≠ 0)) ?_
          refine qa_iload_n (pc1 := 55) dX10_close_54 rfl rfl rfl ?_
          refine qr_iald (pc1 := 56) dX10_close_55 rfl ka_m191 rfl (by omega) (by omega) (by omega) ?_
          refine qa_aload_n (pc1 := 57) dX10_close_56 rfl rfl rfl ?_
          refine qa_getP (pc1 := 60) dX10_close_57 rfl wf_X10_29 rfl ko_mo (by omega) (show P 176 8 = 183 from kp_mo hps (by decide : kw_mo 8 ≠ 0)) ?_
          refine qa_iconst (pc1 := 61) dX10_close_60 (v := (nI 3)) kc_i3N rfl ?_
          refine qr_iald (pc1 := 62) dX10_close_61 rfl ka_m183 rfl (by omega) (by omega) (by decide) ?_
          refine qa_ic_ne (tgt := 90) (pc1 := 65) dX10_close_62 rfl rfl (fun h62 => ?_) (fun h62 => ?_)
          · refine qa_iincN (pc1 := 93) dX10_close_90 rfl (by decide) rfl ?_
            refine qa_goto (tgt := 20) dX10_close_93 rfl ?_
            refine qa_memM (M1 := xr_c1 M1 B a) (by clear ih hf; simp only [xr_c1, xr_cc, ax_u_n (show (183 : Nat) ≠ 187 from by decide)]; grind) ?_
            exact qa_ls (by exact (kw_lsc rfl (kw_lsc rfl (kw_lsc rfl kw_lsn)))) (ih (by omega) _ (by rw [← hf, show 6 - a = (6 - (a + 1)) + 1 from by omega]; rfl))
          · refine qa_aload_n (pc1 := 66) dX10_close_65 rfl rfl rfl ?_
            refine qa_getP (pc1 := 69) dX10_close_66 rfl wf_X10_41 rfl ko_mo (by omega) (show P 176 14 = 187 from kp_mo hps (by decide : kw_mo 14 ≠ 0)) ?_
            refine qa_iload_n (pc1 := 70) dX10_close_69 rfl rfl rfl ?_
            refine qa_bipush (pc1 := 72) dX10_close_70 (v := (nI 7)) kc_b7N rfl ?_
            refine qn_iadd (pc1 := 73) dX10_close_72 rfl ?_
            refine qa_iconst (pc1 := 74) dX10_close_73 (v := 2) kc_i2 rfl ?_
            refine qr_iast (pc1 := 75) dX10_close_74 rfl ka_m187 rfl (by omega) (by omega) (by omega) ?_
            refine qa_aload_n (pc1 := 76) dX10_close_75 rfl rfl rfl ?_
            refine qa_getP (pc1 := 79) dX10_close_76 rfl wf_X10_41 rfl ko_mo (by omega) (show P 176 14 = 187 from kp_mo hps (by decide : kw_mo 14 ≠ 0)) ?_
            refine qa_iload_n (pc1 := 80) dX10_close_79 rfl rfl rfl ?_
            refine qa_bipush (pc1 := 82) dX10_close_80 (v := (nI 8)) kc_b8N rfl ?_
            refine qn_iadd (pc1 := 83) dX10_close_82 rfl ?_
            refine qa_aload_n (pc1 := 84) dX10_close_83 rfl rfl rfl ?_
            refine qa_getP (pc1 := 87) dX10_close_84 rfl wf_X10_29 rfl ko_mo (by omega) (show P 176 8 = 183 from kp_mo hps (by decide : kw_mo 8 ≠ 0)) ?_
            refine qa_iconst (pc1 := 88) dX10_close_87 (v := (nI 4)) kc_i4N rfl ?_
            refine qr_iald (pc1 := 89) dX10_close_88 rfl ka_m183 rfl (by omega) (by omega) (by decide) ?_
            refine qr_iast (pc1 := 90) dX10_close_89 rfl ka_m187 rfl (by omega) (by omega) (by omega) ?_
            refine qa_iincN (pc1 := 93) dX10_close_90 rfl (by decide) rfl ?_
            refine qa_goto (tgt := 20) dX10_close_93 rfl ?_
            refine qa_memM (M1 := xr_c1 M1 B a) (by clear ih hf; simp only [xr_c1, xr_cc, ax_u_n (show (183 : Nat) ≠ 187 from by decide)]; grind) ?_
            exact qa_ls (by exact (kw_lsc rfl (kw_lsc rfl (kw_lsc rfl kw_lsn)))) (ih (by omega) _ (by rw [← hf, show 6 - a = (6 - (a + 1)) + 1 from by omega]; rfl))
  refine qa_aload_n (pc1 := 1) dX10_close_0 rfl rfl rfl ?_
  refine qa_iload_n (pc1 := 2) dX10_close_1 rfl rfl rfl ?_
  refine qa_iconst (pc1 := 3) dX10_close_2 (v := 4) kc_i4 rfl ?_
  refine qa_aload_n (pc1 := 4) dX10_close_3 rfl rfl rfl ?_
  refine qa_getP (pc1 := 7) dX10_close_4 rfl wf_X10_29 rfl ko_mo (by omega) (show P 176 8 = 183 from kp_mo hps (by decide : kw_mo 8 ≠ 0)) ?_
  refine qa_iconst (pc1 := 8) dX10_close_7 (v := (nI 3)) kc_i3N rfl ?_
  refine qr_iald (pc1 := 9) dX10_close_8 rfl ka_m183 rfl (by omega) (by omega) (by decide) ?_
  refine qa_aload_n (pc1 := 10) dX10_close_9 rfl rfl rfl ?_
  refine qa_getP (pc1 := 13) dX10_close_10 rfl wf_X10_29 rfl ko_mo (by omega) (show P 176 8 = 183 from kp_mo hps (by decide : kw_mo 8 ≠ 0)) ?_
  refine qa_iconst (pc1 := 14) dX10_close_13 (v := (nI 4)) kc_i4N rfl ?_
  refine qr_iald (pc1 := 15) dX10_close_14 rfl ka_m183 rfl (by omega) (by omega) (by decide) ?_
  refine qa_callVv (pc1 := 18) dX10_close_15 rfl (rt_result hps (by assumption) _ _ _) wc_X10_148 wy_X10_result rfl rfl (ci := k_mo) rfl ko_mo (by omega) rfl ?_
  refine qa_iconst (pc1 := 19) dX10_close_18 (v := (nI 0)) kc_i0N rfl ?_
  refine qa_istore_n (pc1 := 20) dX10_close_19 rfl (by decide) rfl ?_
  exact qa_ls (by exact (kw_lsc rfl (kw_lsc rfl (kw_lsc rfl kw_lsn)))) (loop 0 (Nat.zero_le _) _ rfl)
set_option maxRecDepth 20000 in
set_option maxHeartbeats 4000000 in
theorem rt_ah0 (hps : kw_ps P) {h : Nat} (hl : xr_lk (M 183 7) (M 183 6)) (hq : ¬ xr_rq M) : kw_C l D aC b yX10_atHome cX10_atHome 5 (some .int) 6 [.inr (.inl 176), .inl (nI h)] C M P (some (.inl 0)) C M P := by
  refine ax_body (own := RX10) (ini := false) (by decide) rfl (fun h => by cases h) (Nat.le_of_ble_eq_true rfl) ?_
  refine qa_aload_n (pc1 := 1) dX10_atHome_0 rfl rfl rfl ?_
  refine qa_getP (pc1 := 4) dX10_atHome_1 rfl wf_X10_29 rfl ko_mo (by omega) (show P 176 8 = 183 from kp_mo hps (by decide : kw_mo 8 ≠ 0)) ?_
  refine qa_iconst (pc1 := 5) dX10_atHome_4 (v := (nI 0)) kc_i0N rfl ?_
  refine qr_iald (pc1 := 6) dX10_atHome_5 rfl ka_m183 rfl (by omega) (by omega) (by decide) ?_
  refine qa_callSi (pc1 := 9) dX10_atHome_6 rfl (rt_request _) wc_X10_68 wy_X10_request rfl rfl rfl ?_
  refine qb_if_eq (tgt := 25) (pc1 := 12) dX10_atHome_9 rfl rfl (fun h9 => ?_) (fun h9 => ?_)
  · refine qa_iconst (pc1 := 26) dX10_atHome_25 (v := 0) kc_i0 rfl ?_
    exact qa_iret dX10_atHome_26 rfl (vp_nar_int _) rfl rfl rfl rfl
  · refine qa_aload_n (pc1 := 13) dX10_atHome_12 rfl rfl rfl ?_
    refine qa_aload_n (pc1 := 14) dX10_atHome_13 rfl rfl rfl ?_
    refine qa_getP (pc1 := 17) dX10_atHome_14 rfl wf_X10_29 rfl ko_mo (by omega) (show P 176 8 = 183 from kp_mo hps (by decide : kw_mo 8 ≠ 0)) ?_
    refine qa_iconst (pc1 := 18) dX10_atHome_17 (v := (nI 2)) kc_i2N rfl ?_
    refine qr_iald (pc1 := 19) dX10_atHome_18 rfl ka_m183 rfl (by omega) (by omega) (by decide) ?_
    refine qa_callVi (pc1 := 22) dX10_atHome_19 rfl (rt_right hps _ (by assumption)) wc_X10_117 wy_X10_right rfl rfl (ci := k_mo) rfl ko_mo (by omega) rfl ?_
    refine qb_if_ne (tgt := 27) (pc1 := 25) dX10_atHome_22 rfl rfl (fun h22 => ?_) (fun h22 => ?_)
    · exact absurd ⟨h9, h22⟩ hq
    · refine qa_iconst (pc1 := 26) dX10_atHome_25 (v := 0) kc_i0 rfl ?_
      exact qa_iret dX10_atHome_26 rfl (vp_nar_int _) rfl rfl rfl rfl
set_option maxRecDepth 20000 in
set_option maxHeartbeats 4000000 in
theorem rt_ah1 (hps : kw_ps P) (hk : xr_nok M) {h k : Nat} (hh : h < 2) (hk40 : k ≤ 40) (hc : M 188 h = nI k) (hl : xr_lk (M 183 7) (M 183 6)) (hq : xr_rq M) {j : Nat} (hkn : kw_last (xr_kc M h) k = some j) : kw_C l D aC b yX10_atHome cX10_atHome 5 (some .int) 6 [.inr (.inl 176), .inl (nI h)] C M P (some (.inl (if nI j < M 189 h then 2 else 3))) C (if nI j < M 189 h then xr_ans M h j else M) P := by
  refine ax_body (own := RX10) (ini := false) (by decide) rfl (fun h => by cases h) (Nat.le_of_ble_eq_true rfl) ?_
  have hj : j < 40 := by have := (kw_last_some hkn).1; omega
  refine qa_aload_n (pc1 := 1) dX10_atHome_0 rfl rfl rfl ?_
  refine qa_getP (pc1 := 4) dX10_atHome_1 rfl wf_X10_29 rfl ko_mo (by omega) (show P 176 8 = 183 from kp_mo hps (by decide : kw_mo 8 ≠ 0)) ?_
  refine qa_iconst (pc1 := 5) dX10_atHome_4 (v := (nI 0)) kc_i0N rfl ?_
  refine qr_iald (pc1 := 6) dX10_atHome_5 rfl ka_m183 rfl (by omega) (by omega) (by decide) ?_
  refine qa_callSi (pc1 := 9) dX10_atHome_6 rfl (rt_request _) wc_X10_68 wy_X10_request rfl rfl rfl ?_
  refine qf_if_eq (tgt := 25) (pc1 := 12) dX10_atHome_9 rfl rfl (kw_b1.mpr hq.1) ?_
  refine qa_aload_n (pc1 := 13) dX10_atHome_12 rfl rfl rfl ?_
  refine qa_aload_n (pc1 := 14) dX10_atHome_13 rfl rfl rfl ?_
  refine qa_getP (pc1 := 17) dX10_atHome_14 rfl wf_X10_29 rfl ko_mo (by omega) (show P 176 8 = 183 from kp_mo hps (by decide : kw_mo 8 ≠ 0)) ?_
  refine qa_iconst (pc1 := 18) dX10_atHome_17 (v := (nI 2)) kc_i2N rfl ?_
  refine qr_iald (pc1 := 19) dX10_atHome_18 rfl ka_m183 rfl (by omega) (by omega) (by decide) ?_
  refine qa_callVi (pc1 := 22) dX10_atHome_19 rfl (rt_right hps _ (by assumption)) wc_X10_117 wy_X10_right rfl rfl (ci := k_mo) rfl ko_mo (by omega) rfl ?_
  refine qt_if_ne (tgt := 27) dX10_atHome_22 rfl (kw_b1.mpr hq.2) ?_
  refine qa_aload_n (pc1 := 28) dX10_atHome_27 rfl rfl rfl ?_
  refine qa_iload_n (pc1 := 29) dX10_atHome_28 rfl rfl rfl ?_
  refine qa_callVi (pc1 := 32) dX10_atHome_29 rfl (rt_known hps hh hk40 hc) wc_X10_132 wy_X10_known rfl rfl (ci := k_mo) rfl ko_mo (by omega) rfl ?_
  refine qa_top (show _ = nI j from by rw [hkn]; rfl) ?_
  refine qa_istore_n (pc1 := 33) dX10_atHome_32 rfl (by decide) rfl ?_
  refine qa_iload_n (pc1 := 34) dX10_atHome_33 rfl rfl rfl ?_
  refine qn_if_lt (tgt := 57) (pc1 := 37) dX10_atHome_34 rfl rfl (by omega) ?_
  refine qa_iload_n (pc1 := 38) dX10_atHome_37 rfl rfl rfl ?_
  refine qa_aload_n (pc1 := 39) dX10_atHome_38 rfl rfl rfl ?_
  refine qa_getP (pc1 := 42) dX10_atHome_39 rfl wf_X10_47 rfl ko_mo (by omega) (show P 176 16 = 189 from kp_mo hps (by decide : kw_mo 16 ≠ 0)) ?_
  refine qa_iload_n (pc1 := 43) dX10_atHome_42 rfl rfl rfl ?_
  refine qr_iald (pc1 := 44) dX10_atHome_43 rfl ka_m189 rfl (by omega) (by omega) (by omega) ?_
  refine qa_ic_lt (tgt := 49) (pc1 := 47) dX10_atHome_44 rfl rfl (fun h44 => ?_) (fun h44 => ?_)
  · refine qa_aload_n (pc1 := 50) dX10_atHome_49 rfl rfl rfl ?_
    refine qa_iload_n (pc1 := 51) dX10_atHome_50 rfl rfl rfl ?_
    refine qa_iload_n (pc1 := 52) dX10_atHome_51 rfl rfl rfl ?_
    refine qa_callVv (pc1 := 55) dX10_atHome_52 rfl (rt_answer hps (by assumption) (by assumption) (by assumption)) wc_X10_135 wy_X10_answer rfl rfl (ci := k_mo) rfl ko_mo (by omega) rfl ?_
    refine qa_iconst (pc1 := 56) dX10_atHome_55 (v := 2) kc_i2 rfl ?_
    exact qa_iret dX10_atHome_56 rfl (vp_nar_int _) (by grind) rfl (by grind) rfl
  · refine qa_iconst (pc1 := 48) dX10_atHome_47 (v := 3) kc_i3 rfl ?_
    exact qa_iret dX10_atHome_48 rfl (vp_nar_int _) (by grind) rfl (by grind) rfl
set_option maxRecDepth 20000 in
set_option maxHeartbeats 4000000 in
theorem rt_ah2 (hps : kw_ps P) (hk : xr_nok M) {h k : Nat} (hh : h < 2) (hk40 : k ≤ 40) (hc : M 188 h = nI k) (hl : xr_lk (M 183 7) (M 183 6)) (hq : xr_rq M) (hkn : kw_last (xr_kc M h) k = none) (h40 : k = 40) : kw_C l D aC b yX10_atHome cX10_atHome 5 (some .int) 6 [.inr (.inl 176), .inl (nI h)] C M P (some (.inl 0)) C M P := by
  refine ax_body (own := RX10) (ini := false) (by decide) rfl (fun h => by cases h) (Nat.le_of_ble_eq_true rfl) ?_
  refine qa_aload_n (pc1 := 1) dX10_atHome_0 rfl rfl rfl ?_
  refine qa_getP (pc1 := 4) dX10_atHome_1 rfl wf_X10_29 rfl ko_mo (by omega) (show P 176 8 = 183 from kp_mo hps (by decide : kw_mo 8 ≠ 0)) ?_
  refine qa_iconst (pc1 := 5) dX10_atHome_4 (v := (nI 0)) kc_i0N rfl ?_
  refine qr_iald (pc1 := 6) dX10_atHome_5 rfl ka_m183 rfl (by omega) (by omega) (by decide) ?_
  refine qa_callSi (pc1 := 9) dX10_atHome_6 rfl (rt_request _) wc_X10_68 wy_X10_request rfl rfl rfl ?_
  refine qf_if_eq (tgt := 25) (pc1 := 12) dX10_atHome_9 rfl rfl (kw_b1.mpr hq.1) ?_
  refine qa_aload_n (pc1 := 13) dX10_atHome_12 rfl rfl rfl ?_
  refine qa_aload_n (pc1 := 14) dX10_atHome_13 rfl rfl rfl ?_
  refine qa_getP (pc1 := 17) dX10_atHome_14 rfl wf_X10_29 rfl ko_mo (by omega) (show P 176 8 = 183 from kp_mo hps (by decide : kw_mo 8 ≠ 0)) ?_
  refine qa_iconst (pc1 := 18) dX10_atHome_17 (v := (nI 2)) kc_i2N rfl ?_
  refine qr_iald (pc1 := 19) dX10_atHome_18 rfl ka_m183 rfl (by omega) (by omega) (by decide) ?_
  refine qa_callVi (pc1 := 22) dX10_atHome_19 rfl (rt_right hps _ (by assumption)) wc_X10_117 wy_X10_right rfl rfl (ci := k_mo) rfl ko_mo (by omega) rfl ?_
  refine qt_if_ne (tgt := 27) dX10_atHome_22 rfl (kw_b1.mpr hq.2) ?_
  refine qa_aload_n (pc1 := 28) dX10_atHome_27 rfl rfl rfl ?_
  refine qa_iload_n (pc1 := 29) dX10_atHome_28 rfl rfl rfl ?_
  refine qa_callVi (pc1 := 32) dX10_atHome_29 rfl (rt_known hps hh hk40 hc) wc_X10_132 wy_X10_known rfl rfl (ci := k_mo) rfl ko_mo (by omega) rfl ?_
  refine qa_top (show _ = (-1 : Int32) from by rw [hkn]; rfl) ?_
  refine qa_istore_n (pc1 := 33) dX10_atHome_32 rfl (by decide) rfl ?_
  refine qa_iload_n (pc1 := 34) dX10_atHome_33 rfl rfl rfl ?_
  refine qt_if_lt (tgt := 57) dX10_atHome_34 rfl (by decide) ?_
  refine qa_aload_n (pc1 := 58) dX10_atHome_57 rfl rfl rfl ?_
  refine qa_getP (pc1 := 61) dX10_atHome_58 rfl wf_X10_44 rfl ko_mo (by omega) (show P 176 15 = 188 from kp_mo hps (by decide : kw_mo 15 ≠ 0)) ?_
  refine qa_iload_n (pc1 := 62) dX10_atHome_61 rfl rfl rfl ?_
  refine qr_iald (pc1 := 63) dX10_atHome_62 rfl ka_m188 rfl (by omega) (by omega) (by omega) ?_
  refine qa_bipush (pc1 := 65) dX10_atHome_63 (v := 40) kc_b40 rfl ?_
  refine qf_ic_ne (tgt := 70) (pc1 := 68) dX10_atHome_65 rfl rfl (by rw [hc, h40]; rfl) ?_
  refine qa_iconst (pc1 := 69) dX10_atHome_68 (v := 0) kc_i0 rfl ?_
  exact qa_iret dX10_atHome_69 rfl (vp_nar_int _) rfl rfl rfl rfl
set_option maxRecDepth 20000 in
set_option maxHeartbeats 4000000 in
theorem rt_ah3 (hps : kw_ps P) (hk : xr_nok M) {h k : Nat} (hh : h < 2) (hk40 : k < 40) (hc : M 188 h = nI k) (hl : xr_lk (M 183 7) (M 183 6)) (hq : xr_rq M) (hkn : kw_last (xr_kc M h) k = none) (hok : ∀ r, r < k → xr_bok M (400 * h + 10 * r)) : kw_C l D aC b yX10_atHome cX10_atHome 5 (some .int) 6 [.inr (.inl 176), .inl (nI h)] C M P (some (.inl 1)) C (xr_ah M h k) P := by
  refine ax_body (own := RX10) (ini := false) (by decide) rfl (fun h => by cases h) (Nat.le_of_ble_eq_true rfl) ?_
  have J : ax_G l D aC b RX10 cX10_atHome 5 (some .int) false (kw_rm 6) 191 (ax_F D aC b 191 0 0 (kw_R (some (.inl 1)) kw_K kw_L (kw_gl C (xr_ah M h k)) P)) (fun _ => True) 167 [(0, .inr (.inl 176)), (1, .inl (nI h)), (3, .inl (nI (400 * h + 10 * k)))] [] 0 0 kw_K kw_L (kw_gl C (xr_nw (xr_rp M h k) h (400 * h + 10 * k))) P := by
    refine qa_aload_n (pc1 := 168) dX10_atHome_167 rfl rfl rfl ?_
    refine qa_getP (pc1 := 171) dX10_atHome_168 rfl wf_X10_44 rfl ko_mo (by omega) (show P 176 15 = 188 from kp_mo hps (by decide : kw_mo 15 ≠ 0)) ?_
    refine qa_iload_n (pc1 := 172) dX10_atHome_171 rfl rfl rfl ?_
    refine qa_dup2 (pc1 := 173) dX10_atHome_172 rfl ?_
    refine qr_iald (pc1 := 174) dX10_atHome_173 rfl ka_m188 rfl (by omega) (by omega) (by omega) ?_
    refine qa_top (show _ = nI k from by rw [xr_nw_o (by omega), xr_rp_o (by omega) (by omega) (by omega)]; exact hc) ?_
    refine qa_iconst (pc1 := 175) dX10_atHome_174 (v := (nI 1)) kc_i1N rfl ?_
    refine qn_iadd (pc1 := 176) dX10_atHome_175 rfl ?_
    refine qr_iast (pc1 := 177) dX10_atHome_176 rfl ka_m188 rfl (by omega) (by omega) (by omega) ?_
    refine qa_iconst (pc1 := 178) dX10_atHome_177 (v := 1) kc_i1 rfl ?_
    exact qa_iret dX10_atHome_178 rfl (vp_nar_int _) rfl rfl rfl rfl
  have loop : ∀ i, i ≤ 3 → ∀ M1 : ax_I, xr_w3 (400 * h + 10 * k) i (3 - i) M1 = xr_w3 (400 * h + 10 * k) 0 3 (xr_rp M h k) → ax_G l D aC b RX10 cX10_atHome 5 (some .int) false (kw_rm 6) 191 (ax_F D aC b 191 0 0 (kw_R (some (.inl 1)) kw_K kw_L (kw_gl C (xr_ah M h k)) P)) (fun _ => True) 94 [(4, .inl (nI i)), (0, .inr (.inl 176)), (1, .inl (nI h)), (3, .inl (nI (400 * h + 10 * k)))] [] 0 0 kw_K kw_L (kw_gl C M1) P := by
    refine kw_loopB 3 (fun i hiN ih M1 hf => ?_)
    refine qa_iload (pc1 := 96) dX10_atHome_94 rfl rfl ?_
    refine qa_iconst (pc1 := 97) dX10_atHome_96 (v := (nI 3)) kc_i3N rfl ?_
    refine qn_ic_ge (tgt := 122) (pc1 := 100) dX10_atHome_97 rfl rfl (by omega) (by omega) (fun h97 => ?_) (fun h97 => ?_)
    · have e1 : M1 = xr_w3 (400 * h + 10 * k) 0 3 (xr_rp M h k) := by rw [← hf, show 3 - i = 0 from by omega]; rfl
      subst e1
      refine qa_aload_n (pc1 := 123) dX10_atHome_122 rfl rfl rfl ?_
      refine qa_getP (pc1 := 126) dX10_atHome_123 rfl wf_X10_41 rfl ko_mo (by omega) (show P 176 14 = 187 from kp_mo hps (by decide : kw_mo 14 ≠ 0)) ?_
      refine qa_iload_n (pc1 := 127) dX10_atHome_126 rfl rfl rfl ?_
      refine qa_iconst (pc1 := 128) dX10_atHome_127 (v := (nI 3)) kc_i3N rfl ?_
      refine qn_iadd (pc1 := 129) dX10_atHome_128 rfl ?_
      refine qa_aload_n (pc1 := 130) dX10_atHome_129 rfl rfl rfl ?_
      refine qr_getI (pc1 := 133) dX10_atHome_130 rfl wf_X10_106 rfl ko_mo (by omega) (by omega) ?_
      refine qa_top (show _ = (xr_rp M h k) 176 5 from by rw [xr_w3_o (by omega)]) ?_
      refine qr_iast (pc1 := 134) dX10_atHome_133 rfl ka_m187 rfl (by omega) (by omega) (by omega) ?_
      refine qa_aload_n (pc1 := 135) dX10_atHome_134 rfl rfl rfl ?_
      refine qa_getP (pc1 := 138) dX10_atHome_135 rfl wf_X10_41 rfl ko_mo (by omega) (show P 176 14 = 187 from kp_mo hps (by decide : kw_mo 14 ≠ 0)) ?_
      refine qa_iload_n (pc1 := 139) dX10_atHome_138 rfl rfl rfl ?_
      refine qa_bipush (pc1 := 141) dX10_atHome_139 (v := (nI 7)) kc_b7N rfl ?_
      refine qn_iadd (pc1 := 142) dX10_atHome_141 rfl ?_
      refine qa_iconst (pc1 := 143) dX10_atHome_142 (v := 0) kc_i0 rfl ?_
      refine qr_iast (pc1 := 144) dX10_atHome_143 rfl ka_m187 rfl (by omega) (by omega) (by omega) ?_
      have hB : (400 * h + 10 * k) ≤ 790 := by omega
      change ax_G l D aC b RX10 cX10_atHome 5 (some .int) false (kw_rm 6) 191 _ (fun _ => True) 144 _ _ 0 0 kw_K kw_L (kw_gl C (xr_bk (xr_rp M h k) (400 * h + 10 * k))) P
      refine qa_aload_n (pc1 := 145) dX10_atHome_144 rfl rfl rfl ?_
      refine qa_getP (pc1 := 148) dX10_atHome_145 rfl wf_X10_29 rfl ko_mo (by omega) (show P 176 8 = 183 from kp_mo hps (by decide : kw_mo 8 ≠ 0)) ?_
      refine qa_iconst (pc1 := 149) dX10_atHome_148 (v := (nI 0)) kc_i0N rfl ?_
      refine qr_iald (pc1 := 150) dX10_atHome_149 rfl ka_m183 rfl (by omega) (by omega) (by decide) ?_
      refine qa_top (show _ = (xr_rp M h k) 183 0 from by rw [xr_bk_o (by omega)]) ?_
      refine qa_if_ne (tgt := 162) (pc1 := 153) dX10_atHome_150 rfl rfl (fun h150 => ?_) (fun h150 => ?_)
      · refine qa_aload_n (pc1 := 163) dX10_atHome_162 rfl rfl rfl ?_
        refine qa_iload_n (pc1 := 164) dX10_atHome_163 rfl rfl rfl ?_
        refine qa_callVv (pc1 := 167) dX10_atHome_164 rfl (rt_close hps (by assumption)) wc_X10_145 wy_X10_close rfl rfl (ci := k_mo) rfl ko_mo (by omega) rfl ?_
        exact qa_memM (by simp only [xr_nw]; grind) (qa_ls (by exact (kw_lsc rfl (kw_lsc rfl (kw_lsc rfl kw_lsn)))) J)
      · refine qa_aload_n (pc1 := 154) dX10_atHome_153 rfl rfl rfl ?_
        refine qa_iload_n (pc1 := 155) dX10_atHome_154 rfl rfl rfl ?_
        refine qa_iload_n (pc1 := 156) dX10_atHome_155 rfl rfl rfl ?_
        refine qa_callVv (pc1 := 159) dX10_atHome_156 rfl (rt_ask hps (by assumption) (by assumption)) wc_X10_142 wy_X10_ask rfl rfl (ci := k_mo) rfl ko_mo (by omega) rfl ?_
        refine qa_goto (tgt := 167) dX10_atHome_159 rfl ?_
        exact qa_memM (by simp only [xr_nw]; grind) (qa_ls (by exact (kw_lsc rfl (kw_lsc rfl (kw_lsc rfl kw_lsn)))) J)
    · refine qa_aload_n (pc1 := 101) dX10_atHome_100 rfl rfl rfl ?_
      refine qa_getP (pc1 := 104) dX10_atHome_101 rfl wf_X10_41 rfl ko_mo (by omega) (show P 176 14 = 187 from kp_mo hps (by decide : kw_mo 14 ≠ 0)) ?_
      refine qa_iload_n (pc1 := 105) dX10_atHome_104 rfl rfl rfl ?_
      refine qa_iload (pc1 := 107) dX10_atHome_105 rfl rfl ?_
      refine qn_iadd (pc1 := 108) dX10_atHome_107 rfl ?_
      refine qa_aload_n (pc1 := 109) dX10_atHome_108 rfl rfl rfl ?_
      refine qa_getP (pc1 := 112) dX10_atHome_109 rfl wf_X10_29 rfl ko_mo (by omega) (show P 176 8 = 183 from kp_mo hps (by decide : kw_mo 8 ≠ 0)) ?_
      refine qa_iload (pc1 := 114) dX10_atHome_112 rfl rfl ?_
      refine qr_iald (pc1 := 115) dX10_atHome_114 rfl ka_m183 rfl (by omega) (by omega) (by omega) ?_
      refine qr_iast (pc1 := 116) dX10_atHome_115 rfl ka_m187 rfl (by omega) (by omega) (by omega) ?_
      refine qa_iincN (pc1 := 119) dX10_atHome_116 rfl (by decide) rfl ?_
      refine qa_goto (tgt := 94) dX10_atHome_119 rfl ?_
      exact qa_ls (by exact (kw_lsc rfl (kw_lsc rfl (kw_lsc rfl (kw_lsc rfl kw_lsn))))) (ih (by omega) _ (by rw [← hf, show 3 - i = (3 - (i + 1)) + 1 from by omega]; rfl))
  refine qa_aload_n (pc1 := 1) dX10_atHome_0 rfl rfl rfl ?_
  refine qa_getP (pc1 := 4) dX10_atHome_1 rfl wf_X10_29 rfl ko_mo (by omega) (show P 176 8 = 183 from kp_mo hps (by decide : kw_mo 8 ≠ 0)) ?_
  refine qa_iconst (pc1 := 5) dX10_atHome_4 (v := (nI 0)) kc_i0N rfl ?_
  refine qr_iald (pc1 := 6) dX10_atHome_5 rfl ka_m183 rfl (by omega) (by omega) (by decide) ?_
  refine qa_callSi (pc1 := 9) dX10_atHome_6 rfl (rt_request _) wc_X10_68 wy_X10_request rfl rfl rfl ?_
  refine qf_if_eq (tgt := 25) (pc1 := 12) dX10_atHome_9 rfl rfl (kw_b1.mpr hq.1) ?_
  refine qa_aload_n (pc1 := 13) dX10_atHome_12 rfl rfl rfl ?_
  refine qa_aload_n (pc1 := 14) dX10_atHome_13 rfl rfl rfl ?_
  refine qa_getP (pc1 := 17) dX10_atHome_14 rfl wf_X10_29 rfl ko_mo (by omega) (show P 176 8 = 183 from kp_mo hps (by decide : kw_mo 8 ≠ 0)) ?_
  refine qa_iconst (pc1 := 18) dX10_atHome_17 (v := (nI 2)) kc_i2N rfl ?_
  refine qr_iald (pc1 := 19) dX10_atHome_18 rfl ka_m183 rfl (by omega) (by omega) (by decide) ?_
  refine qa_callVi (pc1 := 22) dX10_atHome_19 rfl (rt_right hps _ (by assumption)) wc_X10_117 wy_X10_right rfl rfl (ci := k_mo) rfl ko_mo (by omega) rfl ?_
  refine qt_if_ne (tgt := 27) dX10_atHome_22 rfl (kw_b1.mpr hq.2) ?_
  refine qa_aload_n (pc1 := 28) dX10_atHome_27 rfl rfl rfl ?_
  refine qa_iload_n (pc1 := 29) dX10_atHome_28 rfl rfl rfl ?_
  refine qa_callVi (pc1 := 32) dX10_atHome_29 rfl (rt_known hps hh (Nat.le_of_lt hk40) hc) wc_X10_132 wy_X10_known rfl rfl (ci := k_mo) rfl ko_mo (by omega) rfl ?_
  refine qa_top (show _ = (-1 : Int32) from by rw [hkn]; rfl) ?_
  refine qa_istore_n (pc1 := 33) dX10_atHome_32 rfl (by decide) rfl ?_
  refine qa_iload_n (pc1 := 34) dX10_atHome_33 rfl rfl rfl ?_
  refine qt_if_lt (tgt := 57) dX10_atHome_34 rfl (by decide) ?_
  refine qa_aload_n (pc1 := 58) dX10_atHome_57 rfl rfl rfl ?_
  refine qa_getP (pc1 := 61) dX10_atHome_58 rfl wf_X10_44 rfl ko_mo (by omega) (show P 176 15 = 188 from kp_mo hps (by decide : kw_mo 15 ≠ 0)) ?_
  refine qa_iload_n (pc1 := 62) dX10_atHome_61 rfl rfl rfl ?_
  refine qr_iald (pc1 := 63) dX10_atHome_62 rfl ka_m188 rfl (by omega) (by omega) (by omega) ?_
  refine qa_bipush (pc1 := 65) dX10_atHome_63 (v := 40) kc_b40 rfl ?_
  refine qt_ic_ne (tgt := 70) dX10_atHome_65 rfl (by rw [hc]; exact fun e => absurd ((nI_eq (a := k) (b := 40) (by omega) (by decide)).mp e) (by omega)) ?_
  refine qa_aload_n (pc1 := 71) dX10_atHome_70 rfl rfl rfl ?_
  refine qa_iload_n (pc1 := 72) dX10_atHome_71 rfl rfl rfl ?_
  refine qa_callVv (pc1 := 75) dX10_atHome_72 rfl (rt_replay hps hh (Nat.le_of_lt hk40) hc hok) wc_X10_139 wy_X10_replay rfl rfl (ci := k_mo) rfl ko_mo (by omega) rfl ?_
  refine qa_sipush (pc1 := 78) dX10_atHome_75 (v := (nI 400)) kc_s400N rfl ?_
  refine qa_iload_n (pc1 := 79) dX10_atHome_78 rfl rfl rfl ?_
  refine qn_imul (pc1 := 80) dX10_atHome_79 rfl ?_
  refine qa_bipush (pc1 := 82) dX10_atHome_80 (v := (nI 10)) kc_b10N rfl ?_
  refine qa_aload_n (pc1 := 83) dX10_atHome_82 rfl rfl rfl ?_
  refine qa_getP (pc1 := 86) dX10_atHome_83 rfl wf_X10_44 rfl ko_mo (by omega) (show P 176 15 = 188 from kp_mo hps (by decide : kw_mo 15 ≠ 0)) ?_
  refine qa_iload_n (pc1 := 87) dX10_atHome_86 rfl rfl rfl ?_
  refine qr_iald (pc1 := 88) dX10_atHome_87 rfl ka_m188 rfl (by omega) (by omega) (by omega) ?_
  refine qa_top (show _ = nI k from by rw [xr_rp_o (by omega) (by omega) (by omega)]; exact hc) ?_
  refine qn_imul (pc1 := 89) dX10_atHome_88 rfl ?_
  refine qn_iadd (pc1 := 90) dX10_atHome_89 rfl ?_
  refine qa_istore_n (pc1 := 91) dX10_atHome_90 rfl (by decide) rfl ?_
  refine qa_iconst (pc1 := 92) dX10_atHome_91 (v := (nI 0)) kc_i0N rfl ?_
  refine qa_istore (pc1 := 94) dX10_atHome_92 (by decide) rfl ?_
  exact qa_ls (by exact (kw_lsc rfl (kw_lsc rfl (kw_lsc rfl (kw_lsc rfl kw_lsn))))) (loop 0 (Nat.zero_le _) _ rfl)
set_option maxRecDepth 20000 in
set_option maxHeartbeats 4000000 in
theorem rt_syncO (s : Int32) (hs : ¬ (¬ s < 3 ∧ s ≤ 4)) : kw_C l D aC b yX10_sync cX10_sync 5 (some .int) 5 [.inr (.inl 176), .inl s] C M P (some (.inl (-1))) C M P := by
  refine ax_body (own := RX10) (ini := false) (by decide) rfl (fun h => by cases h) (Nat.le_of_ble_eq_true rfl) ?_
  refine qa_iload_n (pc1 := 1) dX10_sync_0 rfl rfl rfl ?_
  refine qa_iconst (pc1 := 2) dX10_sync_1 (v := 3) kc_i3 rfl ?_
  refine qa_ic_lt (tgt := 10) (pc1 := 5) dX10_sync_2 rfl rfl (fun h2 => ?_) (fun h2 => ?_)
  · refine qa_iconst (pc1 := 11) dX10_sync_10 (v := (-1)) kc_im1 rfl ?_
    exact qa_iret dX10_sync_11 rfl (vp_nar_int _) rfl rfl rfl rfl
  · refine qa_iload_n (pc1 := 6) dX10_sync_5 rfl rfl rfl ?_
    refine qa_iconst (pc1 := 7) dX10_sync_6 (v := 4) kc_i4 rfl ?_
    refine qa_ic_le (tgt := 12) (pc1 := 10) dX10_sync_7 rfl rfl (fun h7 => ?_) (fun h7 => ?_)
    · exact absurd ⟨h2, h7⟩ hs
    · refine qa_iconst (pc1 := 11) dX10_sync_10 (v := (-1)) kc_im1 rfl ?_
      exact qa_iret dX10_sync_11 rfl (vp_nar_int _) rfl rfl rfl rfl
theorem xr_nok_sub {M : ax_I} {h : Nat} {v : Int32} (hk : xr_nok M) : xr_nok (ax_u M 189 h v) := by
  have e : ax_u M 189 h v 176 7 = M 176 7 := ax_u_n (by omega)
  unfold xr_nok xr_n; rw [e]; exact hk
set_option maxRecDepth 20000 in
set_option maxHeartbeats 4000000 in
theorem rt_syncI (hps : kw_ps P) (hk0 : xr_nok M) {h k u : Nat} (hh : h < 2) (hk40 : k ≤ 40) (huk : u ≤ k) (hc : M 188 h = nI k) (hu : M 189 h = nI u) : kw_C l D aC b yX10_sync cX10_sync 5 (some .int) 5 [.inr (.inl 176), .inl (nI (3 + h))] C M P (some (.inl (nI (k - u)))) C (xr_sy h u (k - u) (ax_u M 189 h (nI k))) P := by
  refine ax_body (own := RX10) (ini := false) (by decide) rfl (fun h => by cases h) (Nat.le_of_ble_eq_true rfl) ?_
  have loop : ∀ r, u ≤ r → r ≤ k → ∀ M1 : ax_I, xr_nok M1 → M1 188 h = nI k → xr_sy h r (k - r) M1 = xr_sy h u (k - u) (ax_u M 189 h (nI k)) → ax_G l D aC b RX10 cX10_sync 5 (some .int) false (kw_rm 5) 191 (ax_F D aC b 191 0 0 (kw_R (some (.inl (nI (k - u)))) kw_K kw_L (kw_gl C (xr_sy h u (k - u) (ax_u M 189 h (nI k)))) P)) (fun _ => True) 38 [(4, .inl (nI r)), (0, .inr (.inl 176)), (2, .inl (nI h)), (3, .inl (nI u))] [] 0 0 kw_K kw_L (kw_gl C M1) P := by
    refine kw_loop k (fun r ih hur hrk M1 hk hc1 hf => ?_)
    refine qa_iload (pc1 := 40) dX10_sync_38 rfl rfl ?_
    refine qa_aload_n (pc1 := 41) dX10_sync_40 rfl rfl rfl ?_
    refine qa_getP (pc1 := 44) dX10_sync_41 rfl wf_X10_44 rfl ko_mo (by omega) (show P 176 15 = 188 from kp_mo hps (by decide : kw_mo 15 ≠ 0)) ?_
    refine qa_iload_n (pc1 := 45) dX10_sync_44 rfl rfl rfl ?_
    refine qr_iald (pc1 := 46) dX10_sync_45 rfl ka_m188 rfl (by omega) (by omega) (by omega) ?_
    refine qa_top hc1 ?_
    refine qn_ic_ge (tgt := 81) (pc1 := 49) dX10_sync_46 rfl rfl (by omega) (by omega) (fun h46 => ?_) (fun h46 => ?_)
    · refine qa_aload_n (pc1 := 82) dX10_sync_81 rfl rfl rfl ?_
      refine qa_getP (pc1 := 85) dX10_sync_82 rfl wf_X10_44 rfl ko_mo (by omega) (show P 176 15 = 188 from kp_mo hps (by decide : kw_mo 15 ≠ 0)) ?_
      refine qa_iload_n (pc1 := 86) dX10_sync_85 rfl rfl rfl ?_
      refine qr_iald (pc1 := 87) dX10_sync_86 rfl ka_m188 rfl (by omega) (by omega) (by omega) ?_
      refine qa_top hc1 ?_
      refine qa_iload_n (pc1 := 88) dX10_sync_87 rfl rfl rfl ?_
      refine qn_isub (pc1 := 89) dX10_sync_88 rfl (by omega) ?_
      exact qa_iret dX10_sync_89 rfl (vp_nar_int _) rfl rfl (by rw [← hf, show k - r = 0 from by omega]; rfl) rfl
    · have hr : r < 40 := by omega
      refine qa_aload_n (pc1 := 50) dX10_sync_49 rfl rfl rfl ?_
      refine qa_getP (pc1 := 53) dX10_sync_50 rfl wf_X10_41 rfl ko_mo (by omega) (show P 176 14 = 187 from kp_mo hps (by decide : kw_mo 14 ≠ 0)) ?_
      refine qa_sipush (pc1 := 56) dX10_sync_53 (v := (nI 400)) kc_s400N rfl ?_
      refine qa_iload_n (pc1 := 57) dX10_sync_56 rfl rfl rfl ?_
      refine qn_imul (pc1 := 58) dX10_sync_57 rfl ?_
      refine qa_bipush (pc1 := 60) dX10_sync_58 (v := (nI 10)) kc_b10N rfl ?_
      refine qa_iload (pc1 := 62) dX10_sync_60 rfl rfl ?_
      refine qn_imul (pc1 := 63) dX10_sync_62 rfl ?_
      refine qn_iadd (pc1 := 64) dX10_sync_63 rfl ?_
      refine qr_iald (pc1 := 65) dX10_sync_64 rfl ka_m187 rfl (by omega) (by omega) (by omega) ?_
      refine qa_if_lt (tgt := 75) (pc1 := 68) dX10_sync_65 rfl rfl (fun h65 => ?_) (fun h65 => ?_)
      · refine qa_iincN (pc1 := 78) dX10_sync_75 rfl (by decide) rfl ?_
        refine qa_goto (tgt := 38) dX10_sync_78 rfl ?_
        first
        | exact qa_ls (by exact (kw_lsc rfl (kw_lsc rfl (kw_lsc rfl (kw_lsc rfl kw_lsn))))) (ih (by omega) (by omega) (by omega) _ (xr_ans_ok hk) (by rw [xr_ans_o (by omega) (by omega)]; exact hc1) (by rw [← hf, show k - r = (k - (r + 1)) + 1 from by omega, xr_sy, if_neg h65]))
        | exact qa_ls (by exact (kw_lsc rfl (kw_lsc rfl (kw_lsc rfl (kw_lsc rfl kw_lsn))))) (ih (by omega) (by omega) (by omega) _ hk hc1 (by rw [← hf, show k - r = (k - (r + 1)) + 1 from by omega, xr_sy, if_pos h65]))
      · refine qa_aload_n (pc1 := 69) dX10_sync_68 rfl rfl rfl ?_
        refine qa_iload_n (pc1 := 70) dX10_sync_69 rfl rfl rfl ?_
        refine qa_iload (pc1 := 72) dX10_sync_70 rfl rfl ?_
        refine qa_callVv (pc1 := 75) dX10_sync_72 rfl (rt_answer hps (by assumption) (by assumption) (by assumption)) wc_X10_135 wy_X10_answer rfl rfl (ci := k_mo) rfl ko_mo (by omega) rfl ?_
        refine qa_iincN (pc1 := 78) dX10_sync_75 rfl (by decide) rfl ?_
        refine qa_goto (tgt := 38) dX10_sync_78 rfl ?_
        first
        | exact qa_ls (by exact (kw_lsc rfl (kw_lsc rfl (kw_lsc rfl (kw_lsc rfl kw_lsn))))) (ih (by omega) (by omega) (by omega) _ (xr_ans_ok hk) (by rw [xr_ans_o (by omega) (by omega)]; exact hc1) (by rw [← hf, show k - r = (k - (r + 1)) + 1 from by omega, xr_sy, if_neg h65]))
        | exact qa_ls (by exact (kw_lsc rfl (kw_lsc rfl (kw_lsc rfl (kw_lsc rfl kw_lsn))))) (ih (by omega) (by omega) (by omega) _ hk hc1 (by rw [← hf, show k - r = (k - (r + 1)) + 1 from by omega, xr_sy, if_pos h65]))
  refine qa_iload_n (pc1 := 1) dX10_sync_0 rfl rfl rfl ?_
  refine qa_iconst (pc1 := 2) dX10_sync_1 (v := 3) kc_i3 rfl ?_
  refine qf_ic_lt (tgt := 10) (pc1 := 5) dX10_sync_2 rfl rfl (nI_nlt (a := 3 + h) (b := 3) (by omega) (by omega)) ?_
  refine qa_iload_n (pc1 := 6) dX10_sync_5 rfl rfl rfl ?_
  refine qa_iconst (pc1 := 7) dX10_sync_6 (v := 4) kc_i4 rfl ?_
  refine qt_ic_le (tgt := 12) dX10_sync_7 rfl (nI_le (a := 3 + h) (b := 4) (by omega) (by decide)) ?_
  refine qa_iload_n (pc1 := 13) dX10_sync_12 rfl rfl rfl ?_
  refine qa_iconst (pc1 := 14) dX10_sync_13 (v := (nI 3)) kc_i3N rfl ?_
  refine qn_isub (pc1 := 15) dX10_sync_14 rfl (by omega) ?_
  refine qa_top (show nI (3 + h - 3) = nI h from congrArg nI (by omega)) ?_
  refine qa_istore_n (pc1 := 16) dX10_sync_15 rfl (by decide) rfl ?_
  refine qa_aload_n (pc1 := 17) dX10_sync_16 rfl rfl rfl ?_
  refine qa_getP (pc1 := 20) dX10_sync_17 rfl wf_X10_47 rfl ko_mo (by omega) (show P 176 16 = 189 from kp_mo hps (by decide : kw_mo 16 ≠ 0)) ?_
  refine qa_iload_n (pc1 := 21) dX10_sync_20 rfl rfl rfl ?_
  refine qr_iald (pc1 := 22) dX10_sync_21 rfl ka_m189 rfl (by omega) (by omega) (by omega) ?_
  refine qa_top hu ?_
  refine qa_istore_n (pc1 := 23) dX10_sync_22 rfl (by decide) rfl ?_
  refine qa_aload_n (pc1 := 24) dX10_sync_23 rfl rfl rfl ?_
  refine qa_getP (pc1 := 27) dX10_sync_24 rfl wf_X10_47 rfl ko_mo (by omega) (show P 176 16 = 189 from kp_mo hps (by decide : kw_mo 16 ≠ 0)) ?_
  refine qa_iload_n (pc1 := 28) dX10_sync_27 rfl rfl rfl ?_
  refine qa_aload_n (pc1 := 29) dX10_sync_28 rfl rfl rfl ?_
  refine qa_getP (pc1 := 32) dX10_sync_29 rfl wf_X10_44 rfl ko_mo (by omega) (show P 176 15 = 188 from kp_mo hps (by decide : kw_mo 15 ≠ 0)) ?_
  refine qa_iload_n (pc1 := 33) dX10_sync_32 rfl rfl rfl ?_
  refine qr_iald (pc1 := 34) dX10_sync_33 rfl ka_m188 rfl (by omega) (by omega) (by omega) ?_
  refine qa_top hc ?_
  refine qr_iast (pc1 := 35) dX10_sync_34 rfl ka_m189 rfl (by omega) (by omega) (by omega) ?_
  refine qa_iload_n (pc1 := 36) dX10_sync_35 rfl rfl rfl ?_
  refine qa_istore (pc1 := 38) dX10_sync_36 (by decide) rfl ?_
  exact qa_ls (by exact (kw_lsc rfl (kw_lsc rfl (kw_lsc rfl (kw_lsc rfl kw_lsn))))) (loop u (Nat.le_refl _) huk _ (xr_nok_sub hk0) (by rw [ax_u_n (by omega)]; exact hc) rfl)
set_option maxRecDepth 20000 in
set_option maxHeartbeats 4000000 in
theorem rt_crashO (s : Int32) (hs : ¬ (¬ s < 0 ∧ s ≤ 4)) : kw_C l D aC b yX10_crash cX10_crash 3 (some .boolean) 1 [.inr (.inl 176), .inl s] C M P (some (.inl 0)) C M P := by
  refine ax_body (own := RX10) (ini := false) (by decide) rfl (fun h => by cases h) (Nat.le_of_ble_eq_true rfl) ?_
  refine qa_iload_n (pc1 := 1) dX10_crash_0 rfl rfl rfl ?_
  refine qa_if_lt (tgt := 9) (pc1 := 4) dX10_crash_1 rfl rfl (fun h1 => ?_) (fun h1 => ?_)
  · refine qa_iconst (pc1 := 10) dX10_crash_9 (v := 0) kc_i0 rfl ?_
    exact qa_iret dX10_crash_10 rfl (by first | rfl | exact kw_bn) rfl rfl rfl rfl
  · refine qa_iload_n (pc1 := 5) dX10_crash_4 rfl rfl rfl ?_
    refine qa_iconst (pc1 := 6) dX10_crash_5 (v := 4) kc_i4 rfl ?_
    refine qa_ic_le (tgt := 11) (pc1 := 9) dX10_crash_6 rfl rfl (fun h6 => ?_) (fun h6 => ?_)
    · exact absurd ⟨h1, h6⟩ hs
    · refine qa_iconst (pc1 := 10) dX10_crash_9 (v := 0) kc_i0 rfl ?_
      exact qa_iret dX10_crash_10 rfl (by first | rfl | exact kw_bn) rfl rfl rfl rfl
set_option maxRecDepth 20000 in
set_option maxHeartbeats 4000000 in
theorem rt_crashH (hps : kw_ps P) {h : Nat} (hh : h < 2) : kw_C l D aC b yX10_crash cX10_crash 3 (some .boolean) 1 [.inr (.inl 176), .inl (nI (3 + h))] C M P (some (.inl 1)) C (ax_u M 188 h (M 189 h)) P := by
  refine ax_body (own := RX10) (ini := false) (by decide) rfl (fun h => by cases h) (Nat.le_of_ble_eq_true rfl) ?_
  refine qa_iload_n (pc1 := 1) dX10_crash_0 rfl rfl rfl ?_
  refine qn_if_lt (tgt := 9) (pc1 := 4) dX10_crash_1 rfl rfl (by omega) ?_
  refine qa_iload_n (pc1 := 5) dX10_crash_4 rfl rfl rfl ?_
  refine qa_iconst (pc1 := 6) dX10_crash_5 (v := 4) kc_i4 rfl ?_
  refine qt_ic_le (tgt := 11) dX10_crash_6 rfl (nI_le (a := 3 + h) (b := 4) (by omega) (by decide)) ?_
  refine qa_iload_n (pc1 := 12) dX10_crash_11 rfl rfl rfl ?_
  refine qa_iconst (pc1 := 13) dX10_crash_12 (v := 2) kc_i2 rfl ?_
  refine qf_ic_le (tgt := 35) (pc1 := 16) dX10_crash_13 rfl rfl (nI_ge (a := 2) (b := 3 + h) (by omega) (by omega)) ?_
  refine qa_aload_n (pc1 := 17) dX10_crash_16 rfl rfl rfl ?_
  refine qa_getP (pc1 := 20) dX10_crash_17 rfl wf_X10_44 rfl ko_mo (by omega) (show P 176 15 = 188 from kp_mo hps (by decide : kw_mo 15 ≠ 0)) ?_
  refine qa_iload_n (pc1 := 21) dX10_crash_20 rfl rfl rfl ?_
  refine qa_iconst (pc1 := 22) dX10_crash_21 (v := (nI 3)) kc_i3N rfl ?_
  refine qn_isub (pc1 := 23) dX10_crash_22 rfl (by omega) ?_
  refine qa_top (show nI (3 + h - 3) = nI h from congrArg nI (by omega)) ?_
  refine qa_aload_n (pc1 := 24) dX10_crash_23 rfl rfl rfl ?_
  refine qa_getP (pc1 := 27) dX10_crash_24 rfl wf_X10_47 rfl ko_mo (by omega) (show P 176 16 = 189 from kp_mo hps (by decide : kw_mo 16 ≠ 0)) ?_
  refine qa_iload_n (pc1 := 28) dX10_crash_27 rfl rfl rfl ?_
  refine qa_iconst (pc1 := 29) dX10_crash_28 (v := (nI 3)) kc_i3N rfl ?_
  refine qn_isub (pc1 := 30) dX10_crash_29 rfl (by omega) ?_
  refine qa_top (show nI (3 + h - 3) = nI h from congrArg nI (by omega)) ?_
  refine qr_iald (pc1 := 31) dX10_crash_30 rfl ka_m189 rfl (by omega) (by omega) (by omega) ?_
  refine qr_iast (pc1 := 32) dX10_crash_31 rfl ka_m188 rfl (by omega) (by omega) (by omega) ?_
  refine qa_goto (tgt := 100) dX10_crash_32 rfl ?_
  refine qa_iconst (pc1 := 101) dX10_crash_100 (v := 1) kc_i1 rfl ?_
  exact qa_iret dX10_crash_101 rfl (by first | rfl | exact kw_bn) rfl rfl rfl rfl
set_option maxRecDepth 20000 in
set_option maxHeartbeats 4000000 in
theorem rt_crashR (hps : kw_ps P) : kw_C l D aC b yX10_crash cX10_crash 3 (some .boolean) 1 [.inr (.inl 176), .inl 2] C M P (some (.inl 1)) C (ax_u M 176 13 (M 176 12)) P := by
  refine ax_body (own := RX10) (ini := false) (by decide) rfl (fun h => by cases h) (Nat.le_of_ble_eq_true rfl) ?_
  refine qa_iload_n (pc1 := 1) dX10_crash_0 rfl rfl rfl ?_
  refine qf_if_lt (tgt := 9) (pc1 := 4) dX10_crash_1 rfl rfl (by decide) ?_
  refine qa_iload_n (pc1 := 5) dX10_crash_4 rfl rfl rfl ?_
  refine qa_iconst (pc1 := 6) dX10_crash_5 (v := 4) kc_i4 rfl ?_
  refine qt_ic_le (tgt := 11) dX10_crash_6 rfl (by decide) ?_
  refine qa_iload_n (pc1 := 12) dX10_crash_11 rfl rfl rfl ?_
  refine qa_iconst (pc1 := 13) dX10_crash_12 (v := 2) kc_i2 rfl ?_
  refine qt_ic_le (tgt := 35) dX10_crash_13 rfl (by decide) ?_
  refine qa_iload_n (pc1 := 36) dX10_crash_35 rfl rfl rfl ?_
  refine qa_iconst (pc1 := 37) dX10_crash_36 (v := 2) kc_i2 rfl ?_
  refine qf_ic_ne (tgt := 51) (pc1 := 40) dX10_crash_37 rfl rfl rfl ?_
  refine qa_aload_n (pc1 := 41) dX10_crash_40 rfl rfl rfl ?_
  refine qa_aload_n (pc1 := 42) dX10_crash_41 rfl rfl rfl ?_
  refine qr_getI (pc1 := 45) dX10_crash_42 rfl wf_X10_123 rfl ko_mo (by omega) (by omega) ?_
  refine qr_putI (pc1 := 48) dX10_crash_45 rfl wp_X10_120 rfl rfl rfl ko_mo (by omega) (by omega) ?_
  refine qa_goto (tgt := 100) dX10_crash_48 rfl ?_
  refine qa_iconst (pc1 := 101) dX10_crash_100 (v := 1) kc_i1 rfl ?_
  exact qa_iret dX10_crash_101 rfl (by first | rfl | exact kw_bn) rfl rfl rfl rfl
set_option maxRecDepth 20000 in
set_option maxHeartbeats 4000000 in
theorem rt_crashP (hps : kw_ps P) {p : Nat} (hp : p < 2) : kw_C l D aC b yX10_crash cX10_crash 3 (some .boolean) 1 [.inr (.inl 176), .inl (nI p)] C M P (some (.inl 1)) C (xr_cp4 (4 * p) 4 (ax_u M 185 p 7)) P := by
  refine ax_body (own := RX10) (ini := false) (by decide) rfl (fun h => by cases h) (Nat.le_of_ble_eq_true rfl) ?_
  have loop : ∀ r, 4 * p ≤ r → r ≤ 4 * p + 4 → ∀ M1 : ax_I, xr_cp4 r (4 * p + 4 - r) M1 = xr_cp4 (4 * p) 4 (ax_u M 185 p 7) → ax_G l D aC b RX10 cX10_crash 3 (some .boolean) false (kw_rm 1) 191 (ax_F D aC b 191 0 0 (kw_R (some (.inl 1)) kw_K kw_L (kw_gl C (xr_cp4 (4 * p) 4 (ax_u M 185 p 7))) P)) (fun _ => True) 63 [(2, .inl (nI r)), (0, .inr (.inl 176)), (1, .inl (nI p))] [] 0 0 kw_K kw_L (kw_gl C M1) P := by
    refine kw_loop (4 * p + 4) (fun r ih h1 h2 M1 hf => ?_)
    refine qa_iload_n (pc1 := 64) dX10_crash_63 rfl rfl rfl ?_
    refine qa_iconst (pc1 := 65) dX10_crash_64 (v := (nI 4)) kc_i4N rfl ?_
    refine qa_iload_n (pc1 := 66) dX10_crash_65 rfl rfl rfl ?_
    refine qn_imul (pc1 := 67) dX10_crash_66 rfl ?_
    refine qa_iconst (pc1 := 68) dX10_crash_67 (v := (nI 4)) kc_i4N rfl ?_
    refine qn_iadd (pc1 := 69) dX10_crash_68 rfl ?_
    refine qn_ic_ge (tgt := 100) (pc1 := 72) dX10_crash_69 rfl rfl (by omega) (by omega) (fun h69 => ?_) (fun h69 => ?_)
    · refine qa_iconst (pc1 := 101) dX10_crash_100 (v := 1) kc_i1 rfl ?_
      exact qa_iret dX10_crash_101 rfl (by first | rfl | exact kw_bn) rfl rfl (by rw [← hf, show 4 * p + 4 - r = 0 from by omega]; rfl) rfl
    · refine qa_aload_n (pc1 := 73) dX10_crash_72 rfl rfl rfl ?_
      refine qa_getP (pc1 := 76) dX10_crash_73 rfl wf_X10_32 rfl ko_mo (by omega) (show P 176 9 = 184 from kp_mo hps (by decide : kw_mo 9 ≠ 0)) ?_
      refine qa_bipush (pc1 := 78) dX10_crash_76 (v := (nI 10)) kc_b10N rfl ?_
      refine qa_iload_n (pc1 := 79) dX10_crash_78 rfl rfl rfl ?_
      refine qn_imul (pc1 := 80) dX10_crash_79 rfl ?_
      refine qa_iconst (pc1 := 81) dX10_crash_80 (v := 0) kc_i0 rfl ?_
      refine qr_iast (pc1 := 82) dX10_crash_81 rfl ka_m184 rfl (by omega) (by omega) (by omega) ?_
      refine qa_aload_n (pc1 := 83) dX10_crash_82 rfl rfl rfl ?_
      refine qa_getP (pc1 := 86) dX10_crash_83 rfl wf_X10_32 rfl ko_mo (by omega) (show P 176 9 = 184 from kp_mo hps (by decide : kw_mo 9 ≠ 0)) ?_
      refine qa_bipush (pc1 := 88) dX10_crash_86 (v := (nI 10)) kc_b10N rfl ?_
      refine qa_iload_n (pc1 := 89) dX10_crash_88 rfl rfl rfl ?_
      refine qn_imul (pc1 := 90) dX10_crash_89 rfl ?_
      refine qa_iconst (pc1 := 91) dX10_crash_90 (v := (nI 1)) kc_i1N rfl ?_
      refine qn_iadd (pc1 := 92) dX10_crash_91 rfl ?_
      refine qa_iconst (pc1 := 93) dX10_crash_92 (v := 0) kc_i0 rfl ?_
      refine qr_iast (pc1 := 94) dX10_crash_93 rfl ka_m184 rfl (by omega) (by omega) (by omega) ?_
      refine qa_iincN (pc1 := 97) dX10_crash_94 rfl (by decide) rfl ?_
      refine qa_goto (tgt := 63) dX10_crash_97 rfl ?_
      exact qa_ls (by exact (kw_lsc rfl (kw_lsc rfl (kw_lsc rfl kw_lsn)))) (ih (by omega) (by omega) (by omega) _ (by rw [← hf, show 4 * p + 4 - r = (4 * p + 4 - (r + 1)) + 1 from by omega]; rfl))
  refine qa_iload_n (pc1 := 1) dX10_crash_0 rfl rfl rfl ?_
  refine qn_if_lt (tgt := 9) (pc1 := 4) dX10_crash_1 rfl rfl (by omega) ?_
  refine qa_iload_n (pc1 := 5) dX10_crash_4 rfl rfl rfl ?_
  refine qa_iconst (pc1 := 6) dX10_crash_5 (v := 4) kc_i4 rfl ?_
  refine qt_ic_le (tgt := 11) dX10_crash_6 rfl (nI_le (a := p) (b := 4) (by omega) (by decide)) ?_
  refine qa_iload_n (pc1 := 12) dX10_crash_11 rfl rfl rfl ?_
  refine qa_iconst (pc1 := 13) dX10_crash_12 (v := 2) kc_i2 rfl ?_
  refine qt_ic_le (tgt := 35) dX10_crash_13 rfl (nI_le (a := p) (b := 2) (by omega) (by decide)) ?_
  refine qa_iload_n (pc1 := 36) dX10_crash_35 rfl rfl rfl ?_
  refine qa_iconst (pc1 := 37) dX10_crash_36 (v := 2) kc_i2 rfl ?_
  refine qt_ic_ne (tgt := 51) dX10_crash_37 rfl (fun e => absurd ((nI_eq (a := p) (b := 2) (by omega) (by decide)).mp e) (by omega)) ?_
  refine qa_aload_n (pc1 := 52) dX10_crash_51 rfl rfl rfl ?_
  refine qa_getP (pc1 := 55) dX10_crash_52 rfl wf_X10_35 rfl ko_mo (by omega) (show P 176 10 = 185 from kp_mo hps (by decide : kw_mo 10 ≠ 0)) ?_
  refine qa_iload_n (pc1 := 56) dX10_crash_55 rfl rfl rfl ?_
  refine qa_bipush (pc1 := 58) dX10_crash_56 (v := 7) kc_b7 rfl ?_
  refine qr_iast (pc1 := 59) dX10_crash_58 rfl ka_m185 rfl (by omega) (by omega) (by omega) ?_
  refine qa_iconst (pc1 := 60) dX10_crash_59 (v := (nI 4)) kc_i4N rfl ?_
  refine qa_iload_n (pc1 := 61) dX10_crash_60 rfl rfl rfl ?_
  refine qn_imul (pc1 := 62) dX10_crash_61 rfl ?_
  refine qa_istore_n (pc1 := 63) dX10_crash_62 rfl (by decide) rfl ?_
  exact qa_ls (by exact (kw_lsc rfl (kw_lsc rfl (kw_lsc rfl kw_lsn)))) (loop (4 * p) (Nat.le_refl _) (by omega) _ (by rw [show 4 * p + 4 - 4 * p = 4 from by omega]))
set_option maxRecDepth 20000 in
set_option maxHeartbeats 4000000 in
theorem rt_evictO (s a : Int32) (hs : ¬ (¬ s < 3 ∧ ¬ 4 < s ∧ ¬ a < 0 ∧ ¬ 5 < a)) : kw_C l D aC b yX10_evict cX10_evict 5 (some .boolean) 2 [.inr (.inl 176), .inl s, .inl a] C M P (some (.inl 0)) C M P := by
  refine ax_body (own := RX10) (ini := false) (by decide) rfl (fun h => by cases h) (Nat.le_of_ble_eq_true rfl) ?_
  refine qa_iload_n (pc1 := 1) dX10_evict_0 rfl rfl rfl ?_
  refine qa_iconst (pc1 := 2) dX10_evict_1 (v := 3) kc_i3 rfl ?_
  refine qa_ic_lt (tgt := 32) (pc1 := 5) dX10_evict_2 rfl rfl (fun h2 => ?_) (fun h2 => ?_)
  · refine qa_iconst (pc1 := 33) dX10_evict_32 (v := 0) kc_i0 rfl ?_
    exact qa_iret dX10_evict_33 rfl (by first | rfl | exact kw_bn) rfl rfl rfl rfl
  · refine qa_iload_n (pc1 := 6) dX10_evict_5 rfl rfl rfl ?_
    refine qa_iconst (pc1 := 7) dX10_evict_6 (v := 4) kc_i4 rfl ?_
    refine qa_ic_gt (tgt := 32) (pc1 := 10) dX10_evict_7 rfl rfl (fun h7 => ?_) (fun h7 => ?_)
    · refine qa_iconst (pc1 := 33) dX10_evict_32 (v := 0) kc_i0 rfl ?_
      exact qa_iret dX10_evict_33 rfl (by first | rfl | exact kw_bn) rfl rfl rfl rfl
    · refine qa_iload_n (pc1 := 11) dX10_evict_10 rfl rfl rfl ?_
      refine qa_if_lt (tgt := 32) (pc1 := 14) dX10_evict_11 rfl rfl (fun h11 => ?_) (fun h11 => ?_)
      · refine qa_iconst (pc1 := 33) dX10_evict_32 (v := 0) kc_i0 rfl ?_
        exact qa_iret dX10_evict_33 rfl (by first | rfl | exact kw_bn) rfl rfl rfl rfl
      · refine qa_iload_n (pc1 := 15) dX10_evict_14 rfl rfl rfl ?_
        refine qa_iconst (pc1 := 16) dX10_evict_15 (v := 5) kc_i5 rfl ?_
        refine qa_ic_gt (tgt := 32) (pc1 := 19) dX10_evict_16 rfl rfl (fun h16 => ?_) (fun h16 => ?_)
        · refine qa_iconst (pc1 := 33) dX10_evict_32 (v := 0) kc_i0 rfl ?_
          exact qa_iret dX10_evict_33 rfl (by first | rfl | exact kw_bn) rfl rfl rfl rfl
        · exact absurd ⟨h2, h7, h11, h16⟩ hs
set_option maxRecDepth 20000 in
set_option maxHeartbeats 4000000 in
theorem rt_evict4 (hps : kw_ps P) {h k j : Nat} (hh : h < 2) (hj : j < 6) (hc : M 188 h = nI k) (h40 : k = 40) : kw_C l D aC b yX10_evict cX10_evict 5 (some .boolean) 2 [.inr (.inl 176), .inl (nI (3 + h)), .inl (nI j)] C M P (some (.inl 0)) C M P := by
  refine ax_body (own := RX10) (ini := false) (by decide) rfl (fun h => by cases h) (Nat.le_of_ble_eq_true rfl) ?_
  refine qa_iload_n (pc1 := 1) dX10_evict_0 rfl rfl rfl ?_
  refine qa_iconst (pc1 := 2) dX10_evict_1 (v := 3) kc_i3 rfl ?_
  refine qf_ic_lt (tgt := 32) (pc1 := 5) dX10_evict_2 rfl rfl (nI_nlt (a := 3 + h) (b := 3) (by omega) (by omega)) ?_
  refine qa_iload_n (pc1 := 6) dX10_evict_5 rfl rfl rfl ?_
  refine qa_iconst (pc1 := 7) dX10_evict_6 (v := 4) kc_i4 rfl ?_
  refine qf_ic_gt (tgt := 32) (pc1 := 10) dX10_evict_7 rfl rfl (nI_nlt (a := 4) (b := 3 + h) (by omega) (by decide)) ?_
  refine qa_iload_n (pc1 := 11) dX10_evict_10 rfl rfl rfl ?_
  refine qn_if_lt (tgt := 32) (pc1 := 14) dX10_evict_11 rfl rfl (by omega) ?_
  refine qa_iload_n (pc1 := 15) dX10_evict_14 rfl rfl rfl ?_
  refine qa_iconst (pc1 := 16) dX10_evict_15 (v := 5) kc_i5 rfl ?_
  refine qf_ic_gt (tgt := 32) (pc1 := 19) dX10_evict_16 rfl rfl (nI_nlt (a := 5) (b := j) (by omega) (by decide)) ?_
  refine qa_aload_n (pc1 := 20) dX10_evict_19 rfl rfl rfl ?_
  refine qa_getP (pc1 := 23) dX10_evict_20 rfl wf_X10_44 rfl ko_mo (by omega) (show P 176 15 = 188 from kp_mo hps (by decide : kw_mo 15 ≠ 0)) ?_
  refine qa_iload_n (pc1 := 24) dX10_evict_23 rfl rfl rfl ?_
  refine qa_iconst (pc1 := 25) dX10_evict_24 (v := (nI 3)) kc_i3N rfl ?_
  refine qn_isub (pc1 := 26) dX10_evict_25 rfl (by omega) ?_
  refine qa_top (show nI (3 + h - 3) = nI h from congrArg nI (by omega)) ?_
  refine qr_iald (pc1 := 27) dX10_evict_26 rfl ka_m188 rfl (by omega) (by omega) (by omega) ?_
  refine qa_bipush (pc1 := 29) dX10_evict_27 (v := 40) kc_b40 rfl ?_
  refine qf_ic_ne (tgt := 34) (pc1 := 32) dX10_evict_29 rfl rfl (by rw [hc, h40]; rfl) ?_
  refine qa_iconst (pc1 := 33) dX10_evict_32 (v := 0) kc_i0 rfl ?_
  exact qa_iret dX10_evict_33 rfl (by first | rfl | exact kw_bn) rfl rfl rfl rfl
set_option maxRecDepth 20000 in
set_option maxHeartbeats 4000000 in
theorem rt_evict0 (hps : kw_ps P) {h k j : Nat} (hh : h < 2) (hj : j < 6) (hc : M 188 h = nI k) (hk40 : k < 40) (hok : ∀ r, r < k → xr_bok M (400 * h + 10 * r)) (hs : ¬ 0 ≤ xr_rp M h k 190 j) : kw_C l D aC b yX10_evict cX10_evict 5 (some .boolean) 2 [.inr (.inl 176), .inl (nI (3 + h)), .inl (nI j)] C M P (some (.inl 0)) C (xr_rp M h k) P := by
  refine ax_body (own := RX10) (ini := false) (by decide) rfl (fun h => by cases h) (Nat.le_of_ble_eq_true rfl) ?_
  refine qa_iload_n (pc1 := 1) dX10_evict_0 rfl rfl rfl ?_
  refine qa_iconst (pc1 := 2) dX10_evict_1 (v := 3) kc_i3 rfl ?_
  refine qf_ic_lt (tgt := 32) (pc1 := 5) dX10_evict_2 rfl rfl (nI_nlt (a := 3 + h) (b := 3) (by omega) (by omega)) ?_
  refine qa_iload_n (pc1 := 6) dX10_evict_5 rfl rfl rfl ?_
  refine qa_iconst (pc1 := 7) dX10_evict_6 (v := 4) kc_i4 rfl ?_
  refine qf_ic_gt (tgt := 32) (pc1 := 10) dX10_evict_7 rfl rfl (nI_nlt (a := 4) (b := 3 + h) (by omega) (by decide)) ?_
  refine qa_iload_n (pc1 := 11) dX10_evict_10 rfl rfl rfl ?_
  refine qn_if_lt (tgt := 32) (pc1 := 14) dX10_evict_11 rfl rfl (by omega) ?_
  refine qa_iload_n (pc1 := 15) dX10_evict_14 rfl rfl rfl ?_
  refine qa_iconst (pc1 := 16) dX10_evict_15 (v := 5) kc_i5 rfl ?_
  refine qf_ic_gt (tgt := 32) (pc1 := 19) dX10_evict_16 rfl rfl (nI_nlt (a := 5) (b := j) (by omega) (by decide)) ?_
  refine qa_aload_n (pc1 := 20) dX10_evict_19 rfl rfl rfl ?_
  refine qa_getP (pc1 := 23) dX10_evict_20 rfl wf_X10_44 rfl ko_mo (by omega) (show P 176 15 = 188 from kp_mo hps (by decide : kw_mo 15 ≠ 0)) ?_
  refine qa_iload_n (pc1 := 24) dX10_evict_23 rfl rfl rfl ?_
  refine qa_iconst (pc1 := 25) dX10_evict_24 (v := (nI 3)) kc_i3N rfl ?_
  refine qn_isub (pc1 := 26) dX10_evict_25 rfl (by omega) ?_
  refine qa_top (show nI (3 + h - 3) = nI h from congrArg nI (by omega)) ?_
  refine qr_iald (pc1 := 27) dX10_evict_26 rfl ka_m188 rfl (by omega) (by omega) (by omega) ?_
  refine qa_bipush (pc1 := 29) dX10_evict_27 (v := 40) kc_b40 rfl ?_
  refine qt_ic_ne (tgt := 34) dX10_evict_29 rfl (by rw [hc]; exact fun e => absurd ((nI_eq (a := k) (b := 40) (by omega) (by decide)).mp e) (by omega)) ?_
  refine qa_iload_n (pc1 := 35) dX10_evict_34 rfl rfl rfl ?_
  refine qa_iconst (pc1 := 36) dX10_evict_35 (v := (nI 3)) kc_i3N rfl ?_
  refine qn_isub (pc1 := 37) dX10_evict_36 rfl (by omega) ?_
  refine qa_top (show nI (3 + h - 3) = nI h from congrArg nI (by omega)) ?_
  refine qa_istore_n (pc1 := 38) dX10_evict_37 rfl (by decide) rfl ?_
  refine qa_aload_n (pc1 := 39) dX10_evict_38 rfl rfl rfl ?_
  refine qa_iload_n (pc1 := 40) dX10_evict_39 rfl rfl rfl ?_
  refine qa_callVv (pc1 := 43) dX10_evict_40 rfl (rt_replay hps hh (Nat.le_of_lt hk40) hc hok) wc_X10_139 wy_X10_replay rfl rfl (ci := k_mo) rfl ko_mo (by omega) rfl ?_
  refine qa_aload_n (pc1 := 44) dX10_evict_43 rfl rfl rfl ?_
  refine qa_getP (pc1 := 47) dX10_evict_44 rfl wf_X10_50 rfl ko_mo (by omega) (show P 176 17 = 190 from kp_mo hps (by decide : kw_mo 17 ≠ 0)) ?_
  refine qa_iload_n (pc1 := 48) dX10_evict_47 rfl rfl rfl ?_
  refine qr_iald (pc1 := 49) dX10_evict_48 rfl ka_m190 rfl (by omega) (by omega) (by omega) ?_
  refine qf_if_ge (tgt := 54) (pc1 := 52) dX10_evict_49 rfl rfl hs ?_
  refine qa_iconst (pc1 := 53) dX10_evict_52 (v := 0) kc_i0 rfl ?_
  exact qa_iret dX10_evict_53 rfl (by first | rfl | exact kw_bn) rfl rfl rfl rfl
set_option maxRecDepth 20000 in
set_option maxHeartbeats 4000000 in
theorem rt_evict1 (hps : kw_ps P) {h k j : Nat} (hh : h < 2) (hj : j < 6) (hc : M 188 h = nI k) (hk40 : k < 40) (hok : ∀ r, r < k → xr_bok M (400 * h + 10 * r)) (hs : 0 ≤ xr_rp M h k 190 j) : kw_C l D aC b yX10_evict cX10_evict 5 (some .boolean) 2 [.inr (.inl 176), .inl (nI (3 + h)), .inl (nI j)] C M P (some (.inl 1)) C (xr_ev (xr_rp M h k) h k j) P := by
  refine ax_body (own := RX10) (ini := false) (by decide) rfl (fun h => by cases h) (Nat.le_of_ble_eq_true rfl) ?_
  refine qa_iload_n (pc1 := 1) dX10_evict_0 rfl rfl rfl ?_
  refine qa_iconst (pc1 := 2) dX10_evict_1 (v := 3) kc_i3 rfl ?_
  refine qf_ic_lt (tgt := 32) (pc1 := 5) dX10_evict_2 rfl rfl (nI_nlt (a := 3 + h) (b := 3) (by omega) (by omega)) ?_
  refine qa_iload_n (pc1 := 6) dX10_evict_5 rfl rfl rfl ?_
  refine qa_iconst (pc1 := 7) dX10_evict_6 (v := 4) kc_i4 rfl ?_
  refine qf_ic_gt (tgt := 32) (pc1 := 10) dX10_evict_7 rfl rfl (nI_nlt (a := 4) (b := 3 + h) (by omega) (by decide)) ?_
  refine qa_iload_n (pc1 := 11) dX10_evict_10 rfl rfl rfl ?_
  refine qn_if_lt (tgt := 32) (pc1 := 14) dX10_evict_11 rfl rfl (by omega) ?_
  refine qa_iload_n (pc1 := 15) dX10_evict_14 rfl rfl rfl ?_
  refine qa_iconst (pc1 := 16) dX10_evict_15 (v := 5) kc_i5 rfl ?_
  refine qf_ic_gt (tgt := 32) (pc1 := 19) dX10_evict_16 rfl rfl (nI_nlt (a := 5) (b := j) (by omega) (by decide)) ?_
  refine qa_aload_n (pc1 := 20) dX10_evict_19 rfl rfl rfl ?_
  refine qa_getP (pc1 := 23) dX10_evict_20 rfl wf_X10_44 rfl ko_mo (by omega) (show P 176 15 = 188 from kp_mo hps (by decide : kw_mo 15 ≠ 0)) ?_
  refine qa_iload_n (pc1 := 24) dX10_evict_23 rfl rfl rfl ?_
  refine qa_iconst (pc1 := 25) dX10_evict_24 (v := (nI 3)) kc_i3N rfl ?_
  refine qn_isub (pc1 := 26) dX10_evict_25 rfl (by omega) ?_
  refine qa_top (show nI (3 + h - 3) = nI h from congrArg nI (by omega)) ?_
  refine qr_iald (pc1 := 27) dX10_evict_26 rfl ka_m188 rfl (by omega) (by omega) (by omega) ?_
  refine qa_bipush (pc1 := 29) dX10_evict_27 (v := 40) kc_b40 rfl ?_
  refine qt_ic_ne (tgt := 34) dX10_evict_29 rfl (by rw [hc]; exact fun e => absurd ((nI_eq (a := k) (b := 40) (by omega) (by decide)).mp e) (by omega)) ?_
  refine qa_iload_n (pc1 := 35) dX10_evict_34 rfl rfl rfl ?_
  refine qa_iconst (pc1 := 36) dX10_evict_35 (v := (nI 3)) kc_i3N rfl ?_
  refine qn_isub (pc1 := 37) dX10_evict_36 rfl (by omega) ?_
  refine qa_top (show nI (3 + h - 3) = nI h from congrArg nI (by omega)) ?_
  refine qa_istore_n (pc1 := 38) dX10_evict_37 rfl (by decide) rfl ?_
  refine qa_aload_n (pc1 := 39) dX10_evict_38 rfl rfl rfl ?_
  refine qa_iload_n (pc1 := 40) dX10_evict_39 rfl rfl rfl ?_
  refine qa_callVv (pc1 := 43) dX10_evict_40 rfl (rt_replay hps hh (Nat.le_of_lt hk40) hc hok) wc_X10_139 wy_X10_replay rfl rfl (ci := k_mo) rfl ko_mo (by omega) rfl ?_
  refine qa_aload_n (pc1 := 44) dX10_evict_43 rfl rfl rfl ?_
  refine qa_getP (pc1 := 47) dX10_evict_44 rfl wf_X10_50 rfl ko_mo (by omega) (show P 176 17 = 190 from kp_mo hps (by decide : kw_mo 17 ≠ 0)) ?_
  refine qa_iload_n (pc1 := 48) dX10_evict_47 rfl rfl rfl ?_
  refine qr_iald (pc1 := 49) dX10_evict_48 rfl ka_m190 rfl (by omega) (by omega) (by omega) ?_
  refine qt_if_ge (tgt := 54) dX10_evict_49 rfl hs ?_
  refine qa_sipush (pc1 := 57) dX10_evict_54 (v := (nI 400)) kc_s400N rfl ?_
  refine qa_iload_n (pc1 := 58) dX10_evict_57 rfl rfl rfl ?_
  refine qn_imul (pc1 := 59) dX10_evict_58 rfl ?_
  refine qa_bipush (pc1 := 61) dX10_evict_59 (v := (nI 10)) kc_b10N rfl ?_
  refine qa_aload_n (pc1 := 62) dX10_evict_61 rfl rfl rfl ?_
  refine qa_getP (pc1 := 65) dX10_evict_62 rfl wf_X10_44 rfl ko_mo (by omega) (show P 176 15 = 188 from kp_mo hps (by decide : kw_mo 15 ≠ 0)) ?_
  refine qa_iload_n (pc1 := 66) dX10_evict_65 rfl rfl rfl ?_
  refine qr_iald (pc1 := 67) dX10_evict_66 rfl ka_m188 rfl (by omega) (by omega) (by omega) ?_
  refine qa_top (show _ = nI k from by rw [xr_rp_o (by omega) (by omega) (by omega)]; exact hc) ?_
  refine qn_imul (pc1 := 68) dX10_evict_67 rfl ?_
  refine qn_iadd (pc1 := 69) dX10_evict_68 rfl ?_
  refine qa_istore (pc1 := 71) dX10_evict_69 (by decide) rfl ?_
  refine qa_aload_n (pc1 := 72) dX10_evict_71 rfl rfl rfl ?_
  refine qa_getP (pc1 := 75) dX10_evict_72 rfl wf_X10_41 rfl ko_mo (by omega) (show P 176 14 = 187 from kp_mo hps (by decide : kw_mo 14 ≠ 0)) ?_
  refine qa_iload (pc1 := 77) dX10_evict_75 rfl rfl ?_
  refine qa_iconst (pc1 := 78) dX10_evict_77 (v := (-1)) kc_im1 rfl ?_
  refine qr_iast (pc1 := 79) dX10_evict_78 rfl ka_m187 rfl (by omega) (by omega) (by omega) ?_
  refine qa_aload_n (pc1 := 80) dX10_evict_79 rfl rfl rfl ?_
  refine qa_getP (pc1 := 83) dX10_evict_80 rfl wf_X10_41 rfl ko_mo (by omega) (show P 176 14 = 187 from kp_mo hps (by decide : kw_mo 14 ≠ 0)) ?_
  refine qa_iload (pc1 := 85) dX10_evict_83 rfl rfl ?_
  refine qa_bipush (pc1 := 87) dX10_evict_85 (v := (nI 7)) kc_b7N rfl ?_
  refine qn_iadd (pc1 := 88) dX10_evict_87 rfl ?_
  refine qa_iconst (pc1 := 89) dX10_evict_88 (v := 3) kc_i3 rfl ?_
  refine qr_iast (pc1 := 90) dX10_evict_89 rfl ka_m187 rfl (by omega) (by omega) (by omega) ?_
  refine qa_aload_n (pc1 := 91) dX10_evict_90 rfl rfl rfl ?_
  refine qa_getP (pc1 := 94) dX10_evict_91 rfl wf_X10_41 rfl ko_mo (by omega) (show P 176 14 = 187 from kp_mo hps (by decide : kw_mo 14 ≠ 0)) ?_
  refine qa_iload (pc1 := 96) dX10_evict_94 rfl rfl ?_
  refine qa_bipush (pc1 := 98) dX10_evict_96 (v := (nI 8)) kc_b8N rfl ?_
  refine qn_iadd (pc1 := 99) dX10_evict_98 rfl ?_
  refine qa_aload_n (pc1 := 100) dX10_evict_99 rfl rfl rfl ?_
  refine qa_getP (pc1 := 103) dX10_evict_100 rfl wf_X10_50 rfl ko_mo (by omega) (show P 176 17 = 190 from kp_mo hps (by decide : kw_mo 17 ≠ 0)) ?_
  refine qa_iload_n (pc1 := 104) dX10_evict_103 rfl rfl rfl ?_
  refine qr_iald (pc1 := 105) dX10_evict_104 rfl ka_m190 rfl (by omega) (by omega) (by omega) ?_
  refine qa_top (show _ = xr_rp M h k 190 j from by simp [ax_u]) ?_
  refine qr_iast (pc1 := 106) dX10_evict_105 rfl ka_m187 rfl (by omega) (by omega) (by omega) ?_
  refine qa_aload_n (pc1 := 107) dX10_evict_106 rfl rfl rfl ?_
  refine qa_getP (pc1 := 110) dX10_evict_107 rfl wf_X10_44 rfl ko_mo (by omega) (show P 176 15 = 188 from kp_mo hps (by decide : kw_mo 15 ≠ 0)) ?_
  refine qa_iload_n (pc1 := 111) dX10_evict_110 rfl rfl rfl ?_
  refine qa_dup2 (pc1 := 112) dX10_evict_111 rfl ?_
  refine qr_iald (pc1 := 113) dX10_evict_112 rfl ka_m188 rfl (by omega) (by omega) (by omega) ?_
  refine qa_top (show _ = nI k from by simp only [ax_u_n (show (188 : Nat) ≠ 187 from by decide)]; rw [xr_rp_o (by omega) (by omega) (by omega)]; exact hc) ?_
  refine qa_iconst (pc1 := 114) dX10_evict_113 (v := (nI 1)) kc_i1N rfl ?_
  refine qn_iadd (pc1 := 115) dX10_evict_114 rfl ?_
  refine qr_iast (pc1 := 116) dX10_evict_115 rfl ka_m188 rfl (by omega) (by omega) (by omega) ?_
  refine qa_iconst (pc1 := 117) dX10_evict_116 (v := 1) kc_i1 rfl ?_
  exact qa_iret dX10_evict_117 rfl (by first | rfl | exact kw_bn) rfl rfl rfl rfl
set_option maxRecDepth 20000 in
set_option maxHeartbeats 4000000 in
theorem rt_holderO (s a : Int32) (hs : ¬ (¬ s < 3 ∧ ¬ 4 < s ∧ ¬ a < 0 ∧ a ≤ 5)) : kw_C l D aC b yX10_holder cX10_holder 3 (some .int) 2 [.inr (.inl 176), .inl s, .inl a] C M P (some (.inl (-1))) C M P := by
  refine ax_body (own := RX10) (ini := false) (by decide) rfl (fun h => by cases h) (Nat.le_of_ble_eq_true rfl) ?_
  refine qa_iload_n (pc1 := 1) dX10_holder_0 rfl rfl rfl ?_
  refine qa_iconst (pc1 := 2) dX10_holder_1 (v := 3) kc_i3 rfl ?_
  refine qa_ic_lt (tgt := 19) (pc1 := 5) dX10_holder_2 rfl rfl (fun h2 => ?_) (fun h2 => ?_)
  · refine qa_iconst (pc1 := 20) dX10_holder_19 (v := (-1)) kc_im1 rfl ?_
    exact qa_iret dX10_holder_20 rfl (vp_nar_int _) rfl rfl rfl rfl
  · refine qa_iload_n (pc1 := 6) dX10_holder_5 rfl rfl rfl ?_
    refine qa_iconst (pc1 := 7) dX10_holder_6 (v := 4) kc_i4 rfl ?_
    refine qa_ic_gt (tgt := 19) (pc1 := 10) dX10_holder_7 rfl rfl (fun h7 => ?_) (fun h7 => ?_)
    · refine qa_iconst (pc1 := 20) dX10_holder_19 (v := (-1)) kc_im1 rfl ?_
      exact qa_iret dX10_holder_20 rfl (vp_nar_int _) rfl rfl rfl rfl
    · refine qa_iload_n (pc1 := 11) dX10_holder_10 rfl rfl rfl ?_
      refine qa_if_lt (tgt := 19) (pc1 := 14) dX10_holder_11 rfl rfl (fun h11 => ?_) (fun h11 => ?_)
      · refine qa_iconst (pc1 := 20) dX10_holder_19 (v := (-1)) kc_im1 rfl ?_
        exact qa_iret dX10_holder_20 rfl (vp_nar_int _) rfl rfl rfl rfl
      · refine qa_iload_n (pc1 := 15) dX10_holder_14 rfl rfl rfl ?_
        refine qa_iconst (pc1 := 16) dX10_holder_15 (v := 5) kc_i5 rfl ?_
        refine qa_ic_le (tgt := 21) (pc1 := 19) dX10_holder_16 rfl rfl (fun h16 => ?_) (fun h16 => ?_)
        · exact absurd ⟨h2, h7, h11, h16⟩ hs
        · refine qa_iconst (pc1 := 20) dX10_holder_19 (v := (-1)) kc_im1 rfl ?_
          exact qa_iret dX10_holder_20 rfl (vp_nar_int _) rfl rfl rfl rfl
set_option maxRecDepth 20000 in
set_option maxHeartbeats 4000000 in
theorem rt_holderI (hps : kw_ps P) {h k j : Nat} (hh : h < 2) (hk40 : k ≤ 40) (hc : M 188 h = nI k) (hok : ∀ r, r < k → xr_bok M (400 * h + 10 * r)) (hj : j < 6) : kw_C l D aC b yX10_holder cX10_holder 3 (some .int) 2 [.inr (.inl 176), .inl (nI (3 + h)), .inl (nI j)] C M P (some (.inl (if 0 ≤ xr_rp M h k 190 j then xr_rp M h k 191 j else -1))) C (xr_rp M h k) P := by
  refine ax_body (own := RX10) (ini := false) (by decide) rfl (fun h => by cases h) (Nat.le_of_ble_eq_true rfl) ?_
  refine qa_iload_n (pc1 := 1) dX10_holder_0 rfl rfl rfl ?_
  refine qa_iconst (pc1 := 2) dX10_holder_1 (v := 3) kc_i3 rfl ?_
  refine qf_ic_lt (tgt := 19) (pc1 := 5) dX10_holder_2 rfl rfl (nI_nlt (a := 3 + h) (b := 3) (by omega) (by omega)) ?_
  refine qa_iload_n (pc1 := 6) dX10_holder_5 rfl rfl rfl ?_
  refine qa_iconst (pc1 := 7) dX10_holder_6 (v := 4) kc_i4 rfl ?_
  refine qf_ic_gt (tgt := 19) (pc1 := 10) dX10_holder_7 rfl rfl (nI_nlt (a := 4) (b := 3 + h) (by omega) (by decide)) ?_
  refine qa_iload_n (pc1 := 11) dX10_holder_10 rfl rfl rfl ?_
  refine qn_if_lt (tgt := 19) (pc1 := 14) dX10_holder_11 rfl rfl (by omega) ?_
  refine qa_iload_n (pc1 := 15) dX10_holder_14 rfl rfl rfl ?_
  refine qa_iconst (pc1 := 16) dX10_holder_15 (v := 5) kc_i5 rfl ?_
  refine qt_ic_le (tgt := 21) dX10_holder_16 rfl (nI_le (a := j) (b := 5) (by omega) (by decide)) ?_
  refine qa_aload_n (pc1 := 22) dX10_holder_21 rfl rfl rfl ?_
  refine qa_iload_n (pc1 := 23) dX10_holder_22 rfl rfl rfl ?_
  refine qa_iconst (pc1 := 24) dX10_holder_23 (v := (nI 3)) kc_i3N rfl ?_
  refine qn_isub (pc1 := 25) dX10_holder_24 rfl (by omega) ?_
  refine qa_top (show nI (3 + h - 3) = nI h from congrArg nI (by omega)) ?_
  refine qa_callVv (pc1 := 28) dX10_holder_25 rfl (rt_replay hps hh hk40 hc hok) wc_X10_139 wy_X10_replay rfl rfl (ci := k_mo) rfl ko_mo (by omega) rfl ?_
  refine qa_aload_n (pc1 := 29) dX10_holder_28 rfl rfl rfl ?_
  refine qa_getP (pc1 := 32) dX10_holder_29 rfl wf_X10_50 rfl ko_mo (by omega) (show P 176 17 = 190 from kp_mo hps (by decide : kw_mo 17 ≠ 0)) ?_
  refine qa_iload_n (pc1 := 33) dX10_holder_32 rfl rfl rfl ?_
  refine qr_iald (pc1 := 34) dX10_holder_33 rfl ka_m190 rfl (by omega) (by omega) (by omega) ?_
  refine qa_if_ge (tgt := 41) (pc1 := 37) dX10_holder_34 rfl rfl (fun h34 => ?_) (fun h34 => ?_)
  · refine qa_aload_n (pc1 := 42) dX10_holder_41 rfl rfl rfl ?_
    refine qa_getP (pc1 := 45) dX10_holder_42 rfl wf_X10_53 rfl ko_mo (by omega) (show P 176 18 = 191 from kp_mo hps (by decide : kw_mo 18 ≠ 0)) ?_
    refine qa_iload_n (pc1 := 46) dX10_holder_45 rfl rfl rfl ?_
    refine qr_iald (pc1 := 47) dX10_holder_46 rfl ka_m191 rfl (by omega) (by omega) (by omega) ?_
    exact qa_iret dX10_holder_47 rfl (vp_nar_int _) (by grind) rfl rfl rfl
  · refine qa_iconst (pc1 := 38) dX10_holder_37 (v := (-1)) kc_im1 rfl ?_
    refine qa_goto (tgt := 47) dX10_holder_38 rfl ?_
    exact qa_iret dX10_holder_47 rfl (vp_nar_int _) (by grind) rfl rfl rfl
set_option maxRecDepth 20000 in
set_option maxHeartbeats 4000000 in
theorem rt_journalO (s a : Int32) (hs : ¬ (¬ s < 3 ∧ ¬ 4 < s ∧ ¬ a < 0 ∧ a ≤ 2)) : kw_C l D aC b yX10_journal cX10_journal 4 (some .int) 2 [.inr (.inl 176), .inl s, .inl a] C M P (some (.inl (-1))) C M P := by
  refine ax_body (own := RX10) (ini := false) (by decide) rfl (fun h => by cases h) (Nat.le_of_ble_eq_true rfl) ?_
  refine qa_iload_n (pc1 := 1) dX10_journal_0 rfl rfl rfl ?_
  refine qa_iconst (pc1 := 2) dX10_journal_1 (v := 3) kc_i3 rfl ?_
  refine qa_ic_lt (tgt := 19) (pc1 := 5) dX10_journal_2 rfl rfl (fun h2 => ?_) (fun h2 => ?_)
  · refine qa_iconst (pc1 := 20) dX10_journal_19 (v := (-1)) kc_im1 rfl ?_
    exact qa_iret dX10_journal_20 rfl (vp_nar_int _) rfl rfl rfl rfl
  · refine qa_iload_n (pc1 := 6) dX10_journal_5 rfl rfl rfl ?_
    refine qa_iconst (pc1 := 7) dX10_journal_6 (v := 4) kc_i4 rfl ?_
    refine qa_ic_gt (tgt := 19) (pc1 := 10) dX10_journal_7 rfl rfl (fun h7 => ?_) (fun h7 => ?_)
    · refine qa_iconst (pc1 := 20) dX10_journal_19 (v := (-1)) kc_im1 rfl ?_
      exact qa_iret dX10_journal_20 rfl (vp_nar_int _) rfl rfl rfl rfl
    · refine qa_iload_n (pc1 := 11) dX10_journal_10 rfl rfl rfl ?_
      refine qa_if_lt (tgt := 19) (pc1 := 14) dX10_journal_11 rfl rfl (fun h11 => ?_) (fun h11 => ?_)
      · refine qa_iconst (pc1 := 20) dX10_journal_19 (v := (-1)) kc_im1 rfl ?_
        exact qa_iret dX10_journal_20 rfl (vp_nar_int _) rfl rfl rfl rfl
      · refine qa_iload_n (pc1 := 15) dX10_journal_14 rfl rfl rfl ?_
        refine qa_iconst (pc1 := 16) dX10_journal_15 (v := 2) kc_i2 rfl ?_
        refine qa_ic_le (tgt := 21) (pc1 := 19) dX10_journal_16 rfl rfl (fun h16 => ?_) (fun h16 => ?_)
        · exact absurd ⟨h2, h7, h11, h16⟩ hs
        · refine qa_iconst (pc1 := 20) dX10_journal_19 (v := (-1)) kc_im1 rfl ?_
          exact qa_iret dX10_journal_20 rfl (vp_nar_int _) rfl rfl rfl rfl
set_option maxRecDepth 20000 in
set_option maxHeartbeats 4000000 in
theorem rt_journalI (hps : kw_ps P) {h k j : Nat} (hh : h < 2) (hk40 : k ≤ 40) (hc : M 188 h = nI k) (hok : ∀ r, r < k → xr_bok M (400 * h + 10 * r)) (hj : j < 3) : kw_C l D aC b yX10_journal cX10_journal 4 (some .int) 2 [.inr (.inl 176), .inl (nI (3 + h)), .inl (nI j)] C M P (some (.inl (xr_jt (xr_rp M h k) h j))) C (xr_rp M h k) P := by
  refine ax_body (own := RX10) (ini := false) (by decide) rfl (fun h => by cases h) (Nat.le_of_ble_eq_true rfl) ?_
  refine qa_iload_n (pc1 := 1) dX10_journal_0 rfl rfl rfl ?_
  refine qa_iconst (pc1 := 2) dX10_journal_1 (v := 3) kc_i3 rfl ?_
  refine qf_ic_lt (tgt := 19) (pc1 := 5) dX10_journal_2 rfl rfl (nI_nlt (a := 3 + h) (b := 3) (by omega) (by omega)) ?_
  refine qa_iload_n (pc1 := 6) dX10_journal_5 rfl rfl rfl ?_
  refine qa_iconst (pc1 := 7) dX10_journal_6 (v := 4) kc_i4 rfl ?_
  refine qf_ic_gt (tgt := 19) (pc1 := 10) dX10_journal_7 rfl rfl (nI_nlt (a := 4) (b := 3 + h) (by omega) (by decide)) ?_
  refine qa_iload_n (pc1 := 11) dX10_journal_10 rfl rfl rfl ?_
  refine qn_if_lt (tgt := 19) (pc1 := 14) dX10_journal_11 rfl rfl (by omega) ?_
  refine qa_iload_n (pc1 := 15) dX10_journal_14 rfl rfl rfl ?_
  refine qa_iconst (pc1 := 16) dX10_journal_15 (v := 2) kc_i2 rfl ?_
  refine qt_ic_le (tgt := 21) dX10_journal_16 rfl (nI_le (a := j) (b := 2) (by omega) (by decide)) ?_
  refine qa_iload_n (pc1 := 22) dX10_journal_21 rfl rfl rfl ?_
  refine qa_iconst (pc1 := 23) dX10_journal_22 (v := (nI 3)) kc_i3N rfl ?_
  refine qn_isub (pc1 := 24) dX10_journal_23 rfl (by omega) ?_
  refine qa_top (show nI (3 + h - 3) = nI h from congrArg nI (by omega)) ?_
  refine qa_istore_n (pc1 := 25) dX10_journal_24 rfl (by decide) rfl ?_
  refine qa_aload_n (pc1 := 26) dX10_journal_25 rfl rfl rfl ?_
  refine qa_iload_n (pc1 := 27) dX10_journal_26 rfl rfl rfl ?_
  refine qa_callVv (pc1 := 30) dX10_journal_27 rfl (rt_replay hps hh hk40 hc hok) wc_X10_139 wy_X10_replay rfl rfl (ci := k_mo) rfl ko_mo (by omega) rfl ?_
  refine qa_iload_n (pc1 := 31) dX10_journal_30 rfl rfl rfl ?_
  refine qa_if_ne (tgt := 43) (pc1 := 34) dX10_journal_31 rfl rfl (fun h31 => ?_) (fun h31 => ?_)
  · refine qa_iload_n (pc1 := 44) dX10_journal_43 rfl rfl rfl ?_
    refine qa_iconst (pc1 := 45) dX10_journal_44 (v := (nI 1)) kc_i1N rfl ?_
    refine qn_ic_ne (tgt := 57) (pc1 := 48) dX10_journal_45 rfl rfl (by omega) (by omega) (fun h45 => ?_) (fun h45 => ?_)
    · refine qa_aload_n (pc1 := 58) dX10_journal_57 rfl rfl rfl ?_
      refine qr_getI (pc1 := 61) dX10_journal_58 rfl wf_X10_129 rfl ko_mo (by omega) (by omega) ?_
      exact qa_iret dX10_journal_61 rfl (vp_nar_int _) (by simp only [xr_jt]; have e0 := nI_eq (a := j) (b := 0) (by omega) (by decide); have e1 := nI_eq (a := j) (b := 1) (by omega) (by decide); have z0 : nI 0 = 0 := rfl; have z1 : nI 1 = 1 := rfl; grind) rfl rfl rfl
    · refine qa_aload_n (pc1 := 49) dX10_journal_48 rfl rfl rfl ?_
      refine qa_getP (pc1 := 52) dX10_journal_49 rfl wf_X10_47 rfl ko_mo (by omega) (show P 176 16 = 189 from kp_mo hps (by decide : kw_mo 16 ≠ 0)) ?_
      refine qa_iload_n (pc1 := 53) dX10_journal_52 rfl rfl rfl ?_
      refine qr_iald (pc1 := 54) dX10_journal_53 rfl ka_m189 rfl (by omega) (by omega) (by omega) ?_
      refine qa_goto (tgt := 61) dX10_journal_54 rfl ?_
      exact qa_iret dX10_journal_61 rfl (vp_nar_int _) (by simp only [xr_jt]; have e0 := nI_eq (a := j) (b := 0) (by omega) (by decide); have e1 := nI_eq (a := j) (b := 1) (by omega) (by decide); have z0 : nI 0 = 0 := rfl; have z1 : nI 1 = 1 := rfl; grind) rfl rfl rfl
  · refine qa_aload_n (pc1 := 35) dX10_journal_34 rfl rfl rfl ?_
    refine qa_getP (pc1 := 38) dX10_journal_35 rfl wf_X10_44 rfl ko_mo (by omega) (show P 176 15 = 188 from kp_mo hps (by decide : kw_mo 15 ≠ 0)) ?_
    refine qa_iload_n (pc1 := 39) dX10_journal_38 rfl rfl rfl ?_
    refine qr_iald (pc1 := 40) dX10_journal_39 rfl ka_m188 rfl (by omega) (by omega) (by omega) ?_
    refine qa_goto (tgt := 61) dX10_journal_40 rfl ?_
    exact qa_iret dX10_journal_61 rfl (vp_nar_int _) (by simp only [xr_jt]; have e0 := nI_eq (a := j) (b := 0) (by omega) (by decide); have e1 := nI_eq (a := j) (b := 1) (by omega) (by decide); have z0 : nI 0 = 0 := rfl; have z1 : nI 1 = 1 := rfl; grind) rfl rfl rfl
end REFD
