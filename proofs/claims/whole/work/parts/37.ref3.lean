
theorem xr_lk3 {h : Nat} (hh : h < 2) : xr_lk (nI (h + 3)) 2 := by
  rcases h with _ | _ | h
  · unfold xr_lk vp_in; decide
  · unfold xr_lk vp_in; decide
  · omega
def kw_lst (c : Nat → Bool) (e f : Nat) (acc : Int32) : Int32 := match f with
  | 0 => acc
  | g + 1 => kw_lst c (e + 1) g (if c e = true then nI e else acc)
theorem kw_lst_s {c : Nat → Bool} {f : Nat} : ∀ {e : Nat} {acc : Int32}, kw_lst c e (f + 1) acc = if c (e + f) = true then nI (e + f) else kw_lst c e f acc := by
  induction f with
  | zero => intro e acc; simp [kw_lst]
  | succ f ih =>
    intro e acc
    have h := ih (e := e + 1) (acc := if c e = true then nI e else acc)
    rw [show e + 1 + f = e + (f + 1) from by omega] at h
    exact h
theorem kw_lst_last {c : Nat → Bool} (k : Nat) : kw_lst c 0 k (-1) = xc_io (kw_last c k) := by
  induction k with
  | zero => rfl
  | succ k ih =>
    rw [kw_lst_s, Nat.zero_add, kw_last]
    split
    · rfl
    · exact ih
def xr_ans (M : ax_I) (h r : Nat) : ax_I := xr_snd M (nI (h + 3)) 2 (M 187 (400 * h + 10 * r + 4)) (M 187 (400 * h + 10 * r + 1)) (M 187 (400 * h + 10 * r + 2)) (M 187 (400 * h + 10 * r + 5)) (M 187 (400 * h + 10 * r + 6))
def xr_res (M : ax_I) (B : Nat) (k f s : Int32) : ax_I := ax_u (ax_u (ax_u M 187 (B + 4) k) 187 (B + 5) f) 187 (B + 6) s
def xr_kc (M : ax_I) (h : Nat) (r : Nat) : Bool := decide (M 187 (400 * h + 10 * r) = M 183 0 ∧ M 187 (400 * h + 10 * r + 1) = M 183 1 ∧ M 187 (400 * h + 10 * r + 2) = M 183 2 ∧ ¬ 20 < M 176 5 - M 187 (400 * h + 10 * r + 3))
/-- where a record lets in, its address is one -/
abbrev xr_bok (M : ax_I) (B : Nat) : Prop := M 187 (B + 7) = 1 → (M 187 (B + 9)).toNatClampNeg < 6 ∧ M 187 (B + 9) = nI (M 187 (B + 9)).toNatClampNeg
def xr_r0 (a f : Nat) (M : ax_I) : ax_I := match f with
  | 0 => M
  | g + 1 => xr_r0 (a + 1) g (ax_u M 190 a (-1))
def xr_ra (M : ax_I) (B r : Nat) : ax_I := if M 187 (B + 7) = 1 then ax_u (ax_u M 190 (M 187 (B + 9)).toNatClampNeg (nI r)) 191 (M 187 (B + 9)).toNatClampNeg (M 187 (B + 8)) else M
def xr_cl (M : ax_I) (B a : Nat) : ax_I := ax_u M 190 a (if M 190 a = M 187 (B + 8) then -1 else M 190 a)
def xr_cls (B a f : Nat) (M : ax_I) : ax_I := match f with
  | 0 => M
  | g + 1 => xr_cls B (a + 1) g (xr_cl M B a)
def xr_rb (M : ax_I) (B : Nat) : ax_I := if 1 < M 187 (B + 7) then xr_cls B 0 6 M else M
def xr_rc (M : ax_I) (B : Nat) : ax_I := ax_u M 176 19 (if M 187 (B + 7) = 2 then M 176 19 + 1 else M 176 19)
def xr_r1 (M : ax_I) (B r : Nat) : ax_I := xr_rc (xr_rb (xr_ra M B r) B) B
def xr_r2 (h r f : Nat) (M : ax_I) : ax_I := match f with
  | 0 => M
  | g + 1 => xr_r2 h (r + 1) g (xr_r1 M (400 * h + 10 * r) r)
def xr_rs (M : ax_I) : ax_I := xr_r0 0 6 (ax_u M 176 19 0)
def xr_rp (M : ax_I) (h k : Nat) : ax_I := xr_r2 h 0 k (xr_rs M)
/-- rows that a replay leaves: all but 190, 191 and the reference's own -/
theorem xr_r0_o {a f n : Nat} {M : ax_I} (h1 : ¬ n = 190) : xr_r0 a f M n = M n := by
  induction f generalizing a M with
  | zero => rfl
  | succ f ih =>
    unfold xr_r0
    rw [ih]; funext j; simp [ax_u, h1]
theorem xr_cls_o {B a f n : Nat} {M : ax_I} (h1 : ¬ n = 190) : xr_cls B a f M n = M n := by
  induction f generalizing a M with
  | zero => rfl
  | succ f ih =>
    unfold xr_cls
    rw [ih]; funext j; simp [xr_cl, ax_u, h1]
theorem xr_ra_o {B r n : Nat} {M : ax_I} (h1 : ¬ n = 190) (h2 : ¬ n = 191) : xr_ra M B r n = M n := by
  unfold xr_ra
  split
  · funext j; simp [ax_u, h1, h2]
  · rfl
theorem xr_rb_o {B n : Nat} {M : ax_I} (h1 : ¬ n = 190) : xr_rb M B n = M n := by
  unfold xr_rb
  split
  · exact xr_cls_o h1
  · rfl
theorem xr_rc_o {B n j : Nat} {M : ax_I} (h : ¬ (n = 176 ∧ j = 19)) : xr_rc M B n j = M n j := by
  unfold xr_rc ax_u
  by_cases e : n = 176
  · have e2 : ¬ j = 19 := fun x => h ⟨e, x⟩
    simp [e, e2]
  · simp [e]
theorem xr_r1_o {B r n j : Nat} {M : ax_I} (h1 : ¬ n = 190) (h2 : ¬ n = 191) (h : ¬ (n = 176 ∧ j = 19)) : xr_r1 M B r n j = M n j := by
  rw [xr_r1, xr_rc_o h, xr_rb_o h1, xr_ra_o h1 h2]
theorem xr_r2_o {h r f n j : Nat} {M : ax_I} (h1 : ¬ n = 190) (h2 : ¬ n = 191) (h3 : ¬ (n = 176 ∧ j = 19)) : xr_r2 h r f M n j = M n j := by
  induction f generalizing r M with
  | zero => rfl
  | succ f ih =>
    unfold xr_r2
    rw [ih, xr_r1_o h1 h2 h3]
theorem xr_rs_o {n j : Nat} {M : ax_I} (h1 : ¬ n = 190) (h3 : ¬ (n = 176 ∧ j = 19)) : xr_rs M n j = M n j := by
  rw [xr_rs, xr_r0_o h1]
  by_cases e : n = 176
  · have e2 : ¬ j = 19 := fun x => h3 ⟨e, x⟩
    simp [ax_u, e, e2]
  · simp [ax_u, e]
theorem xr_rp_o {h k n j : Nat} {M : ax_I} (h1 : ¬ n = 190) (h2 : ¬ n = 191) (h3 : ¬ (n = 176 ∧ j = 19)) : xr_rp M h k n j = M n j := by
  rw [xr_rp, xr_r2_o h1 h2 h3, xr_rs_o h1 h3]
theorem xr_rp_ok {M : ax_I} {h k : Nat} (hk : xr_nok M) : xr_nok (xr_rp M h k) := by
  have e : xr_rp M h k 176 7 = M 176 7 := xr_rp_o (by omega) (by omega) (by omega)
  unfold xr_nok xr_n; rw [e]; exact hk
abbrev xr_wr (M : ax_I) (h : Nat) (u pw : Int32) : Prop := ¬ (¬ u < 0 ∧ ¬ 11 < u ∧ u &&& 1 = nI h ∧ ¬ M 179 u.toNatClampNeg = 0 ∧ M 180 u.toNatClampNeg = pw)
def xr_do (M : ax_I) (u : Int32) (j : Nat) (n : Int32) : Int32 := match j with
  | 0 => n
  | i + 1 => xr_do M u i (if ¬ M 190 i < 0 ∧ M 191 i = u then n + 1 else n)
def xr_df (M : ax_I) (j : Nat) (f : Int32) : Int32 := match j with
  | 0 => f
  | i + 1 => xr_df M i (if 0 ≤ M 190 i then f else nI i)
def xr_pw (M : ax_I) (h : Nat) : Int32 := M 183 4 ^^^ xa_mix (xr_key M (nI (h + 3)) 2) (M 183 2)
def xr_ask (M : ax_I) (h B : Nat) : ax_I :=
  if xr_wr M h (M 183 3) (xr_pw M h) then xr_res M B 2 1 0
  else if xr_do M (M 183 3) 6 0 < M 181 (M 183 3).toNatClampNeg then
    (if 0 ≤ xr_df M 6 (-1) then ax_u (ax_u (ax_u (xr_res M B 1 (M 188 h) (xr_df M 6 (-1))) 187 (B + 7) 1) 187 (B + 8) (M 183 3)) 187 (B + 9) (xr_df M 6 (-1)) else xr_res M B 2 3 0)
  else xr_res M B 2 2 0
abbrev xr_cc (M : ax_I) (a : Nat) : Prop := ¬ M 190 a < 0 ∧ M 190 a = M 183 4 ∧ M 191 a = M 183 3
def xr_c1 (M : ax_I) (B a : Nat) : ax_I := if xr_cc M a then ax_u (ax_u M 187 (B + 7) 2) 187 (B + 8) (M 183 4) else M
def xr_cs (B a f : Nat) (M : ax_I) : ax_I := match f with
  | 0 => M
  | g + 1 => xr_cs B (a + 1) g (xr_c1 M B a)
def xr_close (M : ax_I) (B : Nat) : ax_I := xr_cs B 0 6 (xr_res M B 4 (M 183 3) (M 183 4))
def xr_w3 (B i f : Nat) (M : ax_I) : ax_I := match f with
  | 0 => M
  | g + 1 => xr_w3 B (i + 1) g (ax_u M 187 (B + i) (M 183 i))
def xr_bk (M : ax_I) (B : Nat) : ax_I := ax_u (ax_u (xr_w3 B 0 3 M) 187 (B + 3) (M 176 5)) 187 (B + 7) 0
def xr_nw (M : ax_I) (h B : Nat) : ax_I := if M 183 0 = 0 then xr_ask (xr_bk M B) h B else xr_close (xr_bk M B) B
def xr_ah (M : ax_I) (h k : Nat) : ax_I := ax_u (xr_nw (xr_rp M h k) h (400 * h + 10 * k)) 188 h (nI (k + 1))
theorem kw_inq {i B : Int32} {L : Nat} (hB : B.toInt + 1 = L) (h1 : ¬ i < 0) (h2 : ¬ B < i) : vp_in i L := by
  rw [vp_in_iff]
  rw [Int32.lt_iff_toInt_lt] at h1 h2
  have h3 : (0 : Int32).toInt = 0 := rfl
  omega
theorem xr_w3_o {B i f n : Nat} {M : ax_I} (h1 : ¬ n = 187) : xr_w3 B i f M n = M n := by
  induction f generalizing i M with
  | zero => rfl
  | succ f ih =>
    unfold xr_w3
    rw [ih]; funext j; simp [ax_u, h1]
theorem xr_bk_o {B n : Nat} {M : ax_I} (h1 : ¬ n = 187) : xr_bk M B n = M n := by
  funext j; simp [xr_bk, ax_u, h1, xr_w3_o h1]
theorem xr_cs_o {B a f n : Nat} {M : ax_I} (h1 : ¬ n = 187) : xr_cs B a f M n = M n := by
  induction f generalizing a M with
  | zero => rfl
  | succ f ih =>
    unfold xr_cs
    rw [ih]; unfold xr_c1; split
    · funext j; simp [ax_u, h1]
    · rfl
theorem xr_res_o {B n : Nat} {M : ax_I} {k f s : Int32} (h1 : ¬ n = 187) : xr_res M B k f s n = M n := by
  funext j; simp [xr_res, ax_u, h1]
theorem xr_nw_o {h B n : Nat} {M : ax_I} (h1 : ¬ n = 187) : xr_nw M h B n = M n := by
  unfold xr_nw
  split
  · unfold xr_ask
    split
    · rw [xr_res_o h1, xr_bk_o h1]
    · split
      · split
        · funext j; simp [ax_u, h1, xr_res_o h1, xr_bk_o h1]
        · rw [xr_res_o h1, xr_bk_o h1]
      · rw [xr_res_o h1, xr_bk_o h1]
  · unfold xr_close
    rw [xr_cs_o h1, xr_res_o h1, xr_bk_o h1]
def xr_sy (h r f : Nat) (M : ax_I) : ax_I := match f with
  | 0 => M
  | g + 1 => xr_sy h (r + 1) g (if M 187 (400 * h + 10 * r) < 0 then M else xr_ans M h r)
def xr_ev (M : ax_I) (h k : Nat) (a : Nat) : ax_I := ax_u (ax_u (ax_u (ax_u M 187 (400 * h + 10 * k) (-1)) 187 (400 * h + 10 * k + 7) 3) 187 (400 * h + 10 * k + 8) (M 190 a)) 188 h (nI (k + 1))
def xr_cp4 (r f : Nat) (M : ax_I) : ax_I := match f with
  | 0 => M
  | g + 1 => xr_cp4 (r + 1) g (ax_u (ax_u M 184 (10 * r) 0) 184 (10 * r + 1) 0)
def xr_jt (M : ax_I) (h : Nat) (w : Nat) : Int32 := if w = 0 then M 188 h else if w = 1 then M 189 h else M 176 19

section REFC
variable {l : Launch} {D : va_G} {aC : Nat → ClassId} {b : Nat} {C M : ax_I} {P : ax_P}
set_option maxRecDepth 20000 in
set_option maxHeartbeats 4000000 in
theorem rt_answer (hps : kw_ps P) (hk : xr_nok M) {h r : Nat} (hh : h < 2) (hr : r < 40) : kw_C l D aC b yX10_answer cX10_answer 4 none 4 [.inr (.inl 176), .inl (nI h), .inl (nI r)] C M P none C (xr_ans M h r) P := by
  refine ax_body (own := RX10) (ini := false) (by decide) rfl (fun h => by cases h) (Nat.le_of_ble_eq_true rfl) ?_
  have hl2 := xr_lk3 hh
  refine qa_sipush (pc1 := 3) dX10_answer_0 (v := (nI 400)) kc_s400N rfl ?_
  refine qa_iload_n (pc1 := 4) dX10_answer_3 rfl rfl rfl ?_
  refine qn_imul (pc1 := 5) dX10_answer_4 rfl ?_
  refine qa_bipush (pc1 := 7) dX10_answer_5 (v := (nI 10)) kc_b10N rfl ?_
  refine qa_iload_n (pc1 := 8) dX10_answer_7 rfl rfl rfl ?_
  refine qn_imul (pc1 := 9) dX10_answer_8 rfl ?_
  refine qn_iadd (pc1 := 10) dX10_answer_9 rfl ?_
  refine qa_istore_n (pc1 := 11) dX10_answer_10 rfl (by decide) rfl ?_
  refine qa_aload_n (pc1 := 12) dX10_answer_11 rfl rfl rfl ?_
  refine qa_iload_n (pc1 := 13) dX10_answer_12 rfl rfl rfl ?_
  refine qa_iconst (pc1 := 14) dX10_answer_13 (v := (nI 3)) kc_i3N rfl ?_
  refine qn_iadd (pc1 := 15) dX10_answer_14 rfl ?_
  refine qa_iconst (pc1 := 16) dX10_answer_15 (v := 2) kc_i2 rfl ?_
  refine qa_aload_n (pc1 := 17) dX10_answer_16 rfl rfl rfl ?_
  refine qa_getP (pc1 := 20) dX10_answer_17 rfl wf_X10_41 rfl ko_mo (by omega) (show P 176 14 = 187 from kp_mo hps (by decide : kw_mo 14 ≠ 0)) ?_
  refine qa_iload_n (pc1 := 21) dX10_answer_20 rfl rfl rfl ?_
  refine qa_iconst (pc1 := 22) dX10_answer_21 (v := (nI 4)) kc_i4N rfl ?_
  refine qn_iadd (pc1 := 23) dX10_answer_22 rfl ?_
  refine qr_iald (pc1 := 24) dX10_answer_23 rfl ka_m187 rfl (by omega) (by omega) (by omega) ?_
  refine qa_aload_n (pc1 := 25) dX10_answer_24 rfl rfl rfl ?_
  refine qa_getP (pc1 := 28) dX10_answer_25 rfl wf_X10_41 rfl ko_mo (by omega) (show P 176 14 = 187 from kp_mo hps (by decide : kw_mo 14 ≠ 0)) ?_
  refine qa_iload_n (pc1 := 29) dX10_answer_28 rfl rfl rfl ?_
  refine qa_iconst (pc1 := 30) dX10_answer_29 (v := (nI 1)) kc_i1N rfl ?_
  refine qn_iadd (pc1 := 31) dX10_answer_30 rfl ?_
  refine qr_iald (pc1 := 32) dX10_answer_31 rfl ka_m187 rfl (by omega) (by omega) (by omega) ?_
  refine qa_aload_n (pc1 := 33) dX10_answer_32 rfl rfl rfl ?_
  refine qa_getP (pc1 := 36) dX10_answer_33 rfl wf_X10_41 rfl ko_mo (by omega) (show P 176 14 = 187 from kp_mo hps (by decide : kw_mo 14 ≠ 0)) ?_
  refine qa_iload_n (pc1 := 37) dX10_answer_36 rfl rfl rfl ?_
  refine qa_iconst (pc1 := 38) dX10_answer_37 (v := (nI 2)) kc_i2N rfl ?_
  refine qn_iadd (pc1 := 39) dX10_answer_38 rfl ?_
  refine qr_iald (pc1 := 40) dX10_answer_39 rfl ka_m187 rfl (by omega) (by omega) (by omega) ?_
  refine qa_aload_n (pc1 := 41) dX10_answer_40 rfl rfl rfl ?_
  refine qa_getP (pc1 := 44) dX10_answer_41 rfl wf_X10_41 rfl ko_mo (by omega) (show P 176 14 = 187 from kp_mo hps (by decide : kw_mo 14 ≠ 0)) ?_
  refine qa_iload_n (pc1 := 45) dX10_answer_44 rfl rfl rfl ?_
  refine qa_iconst (pc1 := 46) dX10_answer_45 (v := (nI 5)) kc_i5N rfl ?_
  refine qn_iadd (pc1 := 47) dX10_answer_46 rfl ?_
  refine qr_iald (pc1 := 48) dX10_answer_47 rfl ka_m187 rfl (by omega) (by omega) (by omega) ?_
  refine qa_aload_n (pc1 := 49) dX10_answer_48 rfl rfl rfl ?_
  refine qa_getP (pc1 := 52) dX10_answer_49 rfl wf_X10_41 rfl ko_mo (by omega) (show P 176 14 = 187 from kp_mo hps (by decide : kw_mo 14 ≠ 0)) ?_
  refine qa_iload_n (pc1 := 53) dX10_answer_52 rfl rfl rfl ?_
  refine qa_bipush (pc1 := 55) dX10_answer_53 (v := (nI 6)) kc_b6N rfl ?_
  refine qn_iadd (pc1 := 56) dX10_answer_55 rfl ?_
  refine qr_iald (pc1 := 57) dX10_answer_56 rfl ka_m187 rfl (by omega) (by omega) (by omega) ?_
  refine qa_callVv (pc1 := 60) dX10_answer_57 rfl (rt_snd hps (by assumption) _ _ _ _ _ _ _ (by assumption)) wc_X10_102 wy_X10_put rfl rfl (ci := k_mo) rfl ko_mo (by omega) rfl ?_
  exact qa_vret dX10_answer_60 rfl rfl rfl rfl rfl
set_option maxRecDepth 20000 in
set_option maxHeartbeats 4000000 in
theorem rt_result (hps : kw_ps P) {B : Nat} (hB : B ≤ 790) (k f s : Int32) : kw_C l D aC b yX10_result cX10_result 5 none 1 [.inr (.inl 176), .inl (nI B), .inl k, .inl f, .inl s] C M P none C (xr_res M B k f s) P := by
  refine ax_body (own := RX10) (ini := false) (by decide) rfl (fun h => by cases h) (Nat.le_of_ble_eq_true rfl) ?_
  refine qa_aload_n (pc1 := 1) dX10_result_0 rfl rfl rfl ?_
  refine qa_getP (pc1 := 4) dX10_result_1 rfl wf_X10_41 rfl ko_mo (by omega) (show P 176 14 = 187 from kp_mo hps (by decide : kw_mo 14 ≠ 0)) ?_
  refine qa_iload_n (pc1 := 5) dX10_result_4 rfl rfl rfl ?_
  refine qa_iconst (pc1 := 6) dX10_result_5 (v := (nI 4)) kc_i4N rfl ?_
  refine qn_iadd (pc1 := 7) dX10_result_6 rfl ?_
  refine qa_iload_n (pc1 := 8) dX10_result_7 rfl rfl rfl ?_
  refine qr_iast (pc1 := 9) dX10_result_8 rfl ka_m187 rfl (by omega) (by omega) (by omega) ?_
  refine qa_aload_n (pc1 := 10) dX10_result_9 rfl rfl rfl ?_
  refine qa_getP (pc1 := 13) dX10_result_10 rfl wf_X10_41 rfl ko_mo (by omega) (show P 176 14 = 187 from kp_mo hps (by decide : kw_mo 14 ≠ 0)) ?_
  refine qa_iload_n (pc1 := 14) dX10_result_13 rfl rfl rfl ?_
  refine qa_iconst (pc1 := 15) dX10_result_14 (v := (nI 5)) kc_i5N rfl ?_
  refine qn_iadd (pc1 := 16) dX10_result_15 rfl ?_
  refine qa_iload_n (pc1 := 17) dX10_result_16 rfl rfl rfl ?_
  refine qr_iast (pc1 := 18) dX10_result_17 rfl ka_m187 rfl (by omega) (by omega) (by omega) ?_
  refine qa_aload_n (pc1 := 19) dX10_result_18 rfl rfl rfl ?_
  refine qa_getP (pc1 := 22) dX10_result_19 rfl wf_X10_41 rfl ko_mo (by omega) (show P 176 14 = 187 from kp_mo hps (by decide : kw_mo 14 ≠ 0)) ?_
  refine qa_iload_n (pc1 := 23) dX10_result_22 rfl rfl rfl ?_
  refine qa_bipush (pc1 := 25) dX10_result_23 (v := (nI 6)) kc_b6N rfl ?_
  refine qn_iadd (pc1 := 26) dX10_result_25 rfl ?_
  refine qa_iload (pc1 := 28) dX10_result_26 rfl rfl ?_
  refine qr_iast (pc1 := 29) dX10_result_28 rfl ka_m187 rfl (by omega) (by omega) (by omega) ?_
  exact qa_vret dX10_result_29 rfl rfl rfl rfl rfl
set_option maxRecDepth 20000 in
set_option maxHeartbeats 4000000 in
theorem rt_known (hps : kw_ps P) {h k : Nat} (hh : h < 2) (hk40 : k ≤ 40) (hc : M 188 h = nI k) : kw_C l D aC b yX10_known cX10_known 6 (some .int) 1 [.inr (.inl 176), .inl (nI h)] C M P (some (.inl (xc_io (kw_last (xr_kc M h) k)))) C M P := by
  refine ax_body (own := RX10) (ini := false) (by decide) rfl (fun h => by cases h) (Nat.le_of_ble_eq_true rfl) ?_
  have loop : ∀ r, r ≤ k → ∀ acc : Int32, kw_lst (xr_kc M h) r (k - r) acc = kw_lst (xr_kc M h) 0 k (-1) → ax_G l D aC b RX10 cX10_known 6 (some .int) false (kw_rm 1) 191 (ax_F D aC b 191 0 0 (kw_R (some (.inl (xc_io (kw_last (xr_kc M h) k)))) kw_K kw_L (kw_gl C M) P)) (fun _ => True) 4 [(3, .inl (nI r)), (2, .inl acc), (0, .inr (.inl 176)), (1, .inl (nI h))] [] 0 0 kw_K kw_L (kw_gl C M) P := by
    refine kw_loop k (fun r ih hrk acc hf => ?_)
    refine qa_iload_n (pc1 := 5) dX10_known_4 rfl rfl rfl ?_
    refine qa_aload_n (pc1 := 6) dX10_known_5 rfl rfl rfl ?_
    refine qa_getP (pc1 := 9) dX10_known_6 rfl wf_X10_44 rfl ko_mo (by omega) (show P 176 15 = 188 from kp_mo hps (by decide : kw_mo 15 ≠ 0)) ?_
    refine qa_iload_n (pc1 := 10) dX10_known_9 rfl rfl rfl ?_
    refine qr_iald (pc1 := 11) dX10_known_10 rfl ka_m188 rfl (by omega) (by omega) (by omega) ?_
    refine qa_top hc ?_
    refine qn_ic_ge (tgt := 121) (pc1 := 14) dX10_known_11 rfl rfl (by omega) (by omega) (fun h11 => ?_) (fun h11 => ?_)
    · refine qa_iload_n (pc1 := 122) dX10_known_121 rfl rfl rfl ?_
      exact qa_iret dX10_known_122 rfl (vp_nar_int _) (by rw [← kw_lst_last, ← hf, show k - r = 0 from by omega]; rfl) rfl rfl rfl
    · have hr : r < 40 := by omega
      refine qa_sipush (pc1 := 17) dX10_known_14 (v := (nI 400)) kc_s400N rfl ?_
      refine qa_iload_n (pc1 := 18) dX10_known_17 rfl rfl rfl ?_
      refine qn_imul (pc1 := 19) dX10_known_18 rfl ?_
      refine qa_bipush (pc1 := 21) dX10_known_19 (v := (nI 10)) kc_b10N rfl ?_
      refine qa_iload_n (pc1 := 22) dX10_known_21 rfl rfl rfl ?_
      refine qn_imul (pc1 := 23) dX10_known_22 rfl ?_
      refine qn_iadd (pc1 := 24) dX10_known_23 rfl ?_
      refine qa_istore (pc1 := 26) dX10_known_24 (by decide) rfl ?_
      refine qa_aload_n (pc1 := 27) dX10_known_26 rfl rfl rfl ?_
      refine qa_getP (pc1 := 30) dX10_known_27 rfl wf_X10_41 rfl ko_mo (by omega) (show P 176 14 = 187 from kp_mo hps (by decide : kw_mo 14 ≠ 0)) ?_
      refine qa_iload (pc1 := 32) dX10_known_30 rfl rfl ?_
      refine qr_iald (pc1 := 33) dX10_known_32 rfl ka_m187 rfl (by omega) (by omega) (by omega) ?_
      refine qa_aload_n (pc1 := 34) dX10_known_33 rfl rfl rfl ?_
      refine qa_getP (pc1 := 37) dX10_known_34 rfl wf_X10_29 rfl ko_mo (by omega) (show P 176 8 = 183 from kp_mo hps (by decide : kw_mo 8 ≠ 0)) ?_
      refine qa_iconst (pc1 := 38) dX10_known_37 (v := (nI 0)) kc_i0N rfl ?_
      refine qr_iald (pc1 := 39) dX10_known_38 rfl ka_m183 rfl (by omega) (by omega) (by decide) ?_
      refine qa_ic_ne (tgt := 82) (pc1 := 42) dX10_known_39 rfl rfl (fun h39 => ?_) (fun h39 => ?_)
      · refine qa_iconst (pc1 := 83) dX10_known_82 (v := 0) kc_i0 rfl ?_
        refine qa_istore (pc1 := 85) dX10_known_83 (by decide) rfl ?_
        refine qa_iload (pc1 := 87) dX10_known_85 rfl rfl ?_
        refine qa_if_eq (tgt := 113) (pc1 := 90) dX10_known_87 rfl rfl (fun h87 => ?_) (fun h87 => ?_)
        · refine qa_iload_n (pc1 := 114) dX10_known_113 rfl rfl rfl ?_
          refine qa_istore_n (pc1 := 115) dX10_known_114 rfl (by decide) rfl ?_
          refine qa_iincN (pc1 := 118) dX10_known_115 rfl (by decide) rfl ?_
          refine qa_goto (tgt := 4) dX10_known_118 rfl ?_
          exact qa_ls (by exact (kw_lsc rfl (kw_lsc rfl (kw_lsc rfl (kw_lsc rfl kw_lsn))))) (ih (by omega) (by omega) _ (by rw [← hf, show k - r = (k - (r + 1)) + 1 from by omega, kw_lst]; congr 1; simp only [xr_kc, decide_eq_true_eq]; grind))
        · refine qa_aload_n (pc1 := 91) dX10_known_90 rfl rfl rfl ?_
          refine qr_getI (pc1 := 94) dX10_known_91 rfl wf_X10_106 rfl ko_mo (by omega) (by omega) ?_
          refine qa_aload_n (pc1 := 95) dX10_known_94 rfl rfl rfl ?_
          refine qa_getP (pc1 := 98) dX10_known_95 rfl wf_X10_41 rfl ko_mo (by omega) (show P 176 14 = 187 from kp_mo hps (by decide : kw_mo 14 ≠ 0)) ?_
          refine qa_iload (pc1 := 100) dX10_known_98 rfl rfl ?_
          refine qa_iconst (pc1 := 101) dX10_known_100 (v := (nI 3)) kc_i3N rfl ?_
          refine qn_iadd (pc1 := 102) dX10_known_101 rfl ?_
          refine qr_iald (pc1 := 103) dX10_known_102 rfl ka_m187 rfl (by omega) (by omega) (by omega) ?_
          refine qa_isub (pc1 := 104) dX10_known_103 rfl ?_
          refine qa_bipush (pc1 := 106) dX10_known_104 (v := 20) kc_b20 rfl ?_
          refine qa_ic_gt (tgt := 113) (pc1 := 109) dX10_known_106 rfl rfl (fun h106 => ?_) (fun h106 => ?_)
          · refine qa_iload_n (pc1 := 114) dX10_known_113 rfl rfl rfl ?_
            refine qa_istore_n (pc1 := 115) dX10_known_114 rfl (by decide) rfl ?_
            refine qa_iincN (pc1 := 118) dX10_known_115 rfl (by decide) rfl ?_
            refine qa_goto (tgt := 4) dX10_known_118 rfl ?_
            exact qa_ls (by exact (kw_lsc rfl (kw_lsc rfl (kw_lsc rfl (kw_lsc rfl kw_lsn))))) (ih (by omega) (by omega) _ (by rw [← hf, show k - r = (k - (r + 1)) + 1 from by omega, kw_lst]; congr 1; simp only [xr_kc, decide_eq_true_eq]; grind))
          · refine qa_iload_n (pc1 := 110) dX10_known_109 rfl rfl rfl ?_
            refine qa_goto (tgt := 114) dX10_known_110 rfl ?_
            refine qa_istore_n (pc1 := 115) dX10_known_114 rfl (by decide) rfl ?_
            refine qa_iincN (pc1 := 118) dX10_known_115 rfl (by decide) rfl ?_
            refine qa_goto (tgt := 4) dX10_known_118 rfl ?_
            exact qa_ls (by exact (kw_lsc rfl (kw_lsc rfl (kw_lsc rfl (kw_lsc rfl kw_lsn))))) (ih (by omega) (by omega) _ (by rw [← hf, show k - r = (k - (r + 1)) + 1 from by omega, kw_lst]; congr 1; simp only [xr_kc, decide_eq_true_eq]; grind))
      · refine qa_aload_n (pc1 := 43) dX10_known_42 rfl rfl rfl ?_
        refine qa_getP (pc1 := 46) dX10_known_43 rfl wf_X10_41 rfl ko_mo (by omega) (show P 176 14 = 187 from kp_mo hps (by decide : kw_mo 14 ≠ 0)) ?_
        refine qa_iload (pc1 := 48) dX10_known_46 rfl rfl ?_
        refine qa_iconst (pc1 := 49) dX10_known_48 (v := (nI 1)) kc_i1N rfl ?_
        refine qn_iadd (pc1 := 50) dX10_known_49 rfl ?_
        refine qr_iald (pc1 := 51) dX10_known_50 rfl ka_m187 rfl (by omega) (by omega) (by omega) ?_
        refine qa_aload_n (pc1 := 52) dX10_known_51 rfl rfl rfl ?_
        refine qa_getP (pc1 := 55) dX10_known_52 rfl wf_X10_29 rfl ko_mo (by omega) (show P 176 8 = 183 from kp_mo hps (by decide : kw_mo 8 ≠ 0)) ?_
        refine qa_iconst (pc1 := 56) dX10_known_55 (v := (nI 1)) kc_i1N rfl ?_
        refine qr_iald (pc1 := 57) dX10_known_56 rfl ka_m183 rfl (by omega) (by omega) (by decide) ?_
        refine qa_ic_ne (tgt := 82) (pc1 := 60) dX10_known_57 rfl rfl (fun h57 => ?_) (fun h57 => ?_)
        · refine qa_iconst (pc1 := 83) dX10_known_82 (v := 0) kc_i0 rfl ?_
          refine qa_istore (pc1 := 85) dX10_known_83 (by decide) rfl ?_
          refine qa_iload (pc1 := 87) dX10_known_85 rfl rfl ?_
          refine qa_if_eq (tgt := 113) (pc1 := 90) dX10_known_87 rfl rfl (fun h87 => ?_) (fun h87 => ?_)
          · refine qa_iload_n (pc1 := 114) dX10_known_113 rfl rfl rfl ?_
            refine qa_istore_n (pc1 := 115) dX10_known_114 rfl (by decide) rfl ?_
            refine qa_iincN (pc1 := 118) dX10_known_115 rfl (by decide) rfl ?_
            refine qa_goto (tgt := 4) dX10_known_118 rfl ?_
            exact qa_ls (by exact (kw_lsc rfl (kw_lsc rfl (kw_lsc rfl (kw_lsc rfl kw_lsn))))) (ih (by omega) (by omega) _ (by rw [← hf, show k - r = (k - (r + 1)) + 1 from by omega, kw_lst]; congr 1; simp only [xr_kc, decide_eq_true_eq]; grind))
          · refine qa_aload_n (pc1 := 91) dX10_known_90 rfl rfl rfl ?_
            refine qr_getI (pc1 := 94) dX10_known_91 rfl wf_X10_106 rfl ko_mo (by omega) (by omega) ?_
            refine qa_aload_n (pc1 := 95) dX10_known_94 rfl rfl rfl ?_
            refine qa_getP (pc1 := 98) dX10_known_95 rfl wf_X10_41 rfl ko_mo (by omega) (show P 176 14 = 187 from kp_mo hps (by decide : kw_mo 14 ≠ 0)) ?_
            refine qa_iload (pc1 := 100) dX10_known_98 rfl rfl ?_
            refine qa_iconst (pc1 := 101) dX10_known_100 (v := (nI 3)) kc_i3N rfl ?_
            refine qn_iadd (pc1 := 102) dX10_known_101 rfl ?_
            refine qr_iald (pc1 := 103) dX10_known_102 rfl ka_m187 rfl (by omega) (by omega) (by omega) ?_
            refine qa_isub (pc1 := 104) dX10_known_103 rfl ?_
            refine qa_bipush (pc1 := 106) dX10_known_104 (v := 20) kc_b20 rfl ?_
            refine qa_ic_gt (tgt := 113) (pc1 := 109) dX10_known_106 rfl rfl (fun h106 => ?_) (fun h106 => ?_)
            · refine qa_iload_n (pc1 := 114) dX10_known_113 rfl rfl rfl ?_
              refine qa_istore_n (pc1 := 115) dX10_known_114 rfl (by decide) rfl ?_
              refine qa_iincN (pc1 := 118) dX10_known_115 rfl (by decide) rfl ?_
              refine qa_goto (tgt := 4) dX10_known_118 rfl ?_
              exact qa_ls (by exact (kw_lsc rfl (kw_lsc rfl (kw_lsc rfl (kw_lsc rfl kw_lsn))))) (ih (by omega) (by omega) _ (by rw [← hf, show k - r = (k - (r + 1)) + 1 from by omega, kw_lst]; congr 1; simp only [xr_kc, decide_eq_true_eq]; grind))
            · refine qa_iload_n (pc1 := 110) dX10_known_109 rfl rfl rfl ?_
              refine qa_goto (tgt := 114) dX10_known_110 rfl ?_
              refine qa_istore_n (pc1 := 115) dX10_known_114 rfl (by decide) rfl ?_
              refine qa_iincN (pc1 := 118) dX10_known_115 rfl (by decide) rfl ?_
              refine qa_goto (tgt := 4) dX10_known_118 rfl ?_
              exact qa_ls (by exact (kw_lsc rfl (kw_lsc rfl (kw_lsc rfl (kw_lsc rfl kw_lsn))))) (ih (by omega) (by omega) _ (by rw [← hf, show k - r = (k - (r + 1)) + 1 from by omega, kw_lst]; congr 1; simp only [xr_kc, decide_eq_true_eq]; grind))
        · refine qa_aload_n (pc1 := 61) dX10_known_60 rfl rfl rfl ?_
          refine qa_getP (pc1 := 64) dX10_known_61 rfl wf_X10_41 rfl ko_mo (by omega) (show P 176 14 = 187 from kp_mo hps (by decide : kw_mo 14 ≠ 0)) ?_
          refine qa_iload (pc1 := 66) dX10_known_64 rfl rfl ?_
          refine qa_iconst (pc1 := 67) dX10_known_66 (v := (nI 2)) kc_i2N rfl ?_
          refine qn_iadd (pc1 := 68) dX10_known_67 rfl ?_
          refine qr_iald (pc1 := 69) dX10_known_68 rfl ka_m187 rfl (by omega) (by omega) (by omega) ?_
          refine qa_aload_n (pc1 := 70) dX10_known_69 rfl rfl rfl ?_
          refine qa_getP (pc1 := 73) dX10_known_70 rfl wf_X10_29 rfl ko_mo (by omega) (show P 176 8 = 183 from kp_mo hps (by decide : kw_mo 8 ≠ 0)) ?_
          refine qa_iconst (pc1 := 74) dX10_known_73 (v := (nI 2)) kc_i2N rfl ?_
          refine qr_iald (pc1 := 75) dX10_known_74 rfl ka_m183 rfl (by omega) (by omega) (by decide) ?_
          refine qa_ic_ne (tgt := 82) (pc1 := 78) dX10_known_75 rfl rfl (fun h75 => ?_) (fun h75 => ?_)
          · refine qa_iconst (pc1 := 83) dX10_known_82 (v := 0) kc_i0 rfl ?_
            refine qa_istore (pc1 := 85) dX10_known_83 (by decide) rfl ?_
            refine qa_iload (pc1 := 87) dX10_known_85 rfl rfl ?_
            refine qa_if_eq (tgt := 113) (pc1 := 90) dX10_known_87 rfl rfl (fun h87 => ?_) (fun h87 => ?_)
            · refine qa_iload_n (pc1 := 114) dX10_known_113 rfl rfl rfl ?_
              refine qa_istore_n (pc1 := 115) dX10_known_114 rfl (by decide) rfl ?_
              refine qa_iincN (pc1 := 118) dX10_known_115 rfl (by decide) rfl ?_
              refine qa_goto (tgt := 4) dX10_known_118 rfl ?_
              exact qa_ls (by exact (kw_lsc rfl (kw_lsc rfl (kw_lsc rfl (kw_lsc rfl kw_lsn))))) (ih (by omega) (by omega) _ (by rw [← hf, show k - r = (k - (r + 1)) + 1 from by omega, kw_lst]; congr 1; simp only [xr_kc, decide_eq_true_eq]; grind))
            · refine qa_aload_n (pc1 := 91) dX10_known_90 rfl rfl rfl ?_
              refine qr_getI (pc1 := 94) dX10_known_91 rfl wf_X10_106 rfl ko_mo (by omega) (by omega) ?_
              refine qa_aload_n (pc1 := 95) dX10_known_94 rfl rfl rfl ?_
              refine qa_getP (pc1 := 98) dX10_known_95 rfl wf_X10_41 rfl ko_mo (by omega) (show P 176 14 = 187 from kp_mo hps (by decide : kw_mo 14 ≠ 0)) ?_
              refine qa_iload (pc1 := 100) dX10_known_98 rfl rfl ?_
              refine qa_iconst (pc1 := 101) dX10_known_100 (v := (nI 3)) kc_i3N rfl ?_
              refine qn_iadd (pc1 := 102) dX10_known_101 rfl ?_
              refine qr_iald (pc1 := 103) dX10_known_102 rfl ka_m187 rfl (by omega) (by omega) (by omega) ?_
              refine qa_isub (pc1 := 104) dX10_known_103 rfl ?_
              refine qa_bipush (pc1 := 106) dX10_known_104 (v := 20) kc_b20 rfl ?_
              refine qa_ic_gt (tgt := 113) (pc1 := 109) dX10_known_106 rfl rfl (fun h106 => ?_) (fun h106 => ?_)
              · refine qa_iload_n (pc1 := 114) dX10_known_113 rfl rfl rfl ?_
                refine qa_istore_n (pc1 := 115) dX10_known_114 rfl (by decide) rfl ?_
                refine qa_iincN (pc1 := 118) dX10_known_115 rfl (by decide) rfl ?_
                refine qa_goto (tgt := 4) dX10_known_118 rfl ?_
                exact qa_ls (by exact (kw_lsc rfl (kw_lsc rfl (kw_lsc rfl (kw_lsc rfl kw_lsn))))) (ih (by omega) (by omega) _ (by rw [← hf, show k - r = (k - (r + 1)) + 1 from by omega, kw_lst]; congr 1; simp only [xr_kc, decide_eq_true_eq]; grind))
              · refine qa_iload_n (pc1 := 110) dX10_known_109 rfl rfl rfl ?_
                refine qa_goto (tgt := 114) dX10_known_110 rfl ?_
                refine qa_istore_n (pc1 := 115) dX10_known_114 rfl (by decide) rfl ?_
                refine qa_iincN (pc1 := 118) dX10_known_115 rfl (by decide) rfl ?_
                refine qa_goto (tgt := 4) dX10_known_118 rfl ?_
                exact qa_ls (by exact (kw_lsc rfl (kw_lsc rfl (kw_lsc rfl (kw_lsc rfl kw_lsn))))) (ih (by omega) (by omega) _ (by rw [← hf, show k - r = (k - (r + 1)) + 1 from by omega, kw_lst]; congr 1; simp only [xr_kc, decide_eq_true_eq]; grind))
          · refine qa_iconst (pc1 := 79) dX10_known_78 (v := 1) kc_i1 rfl ?_
            refine qa_goto (tgt := 83) dX10_known_79 rfl ?_
            refine qa_istore (pc1 := 85) dX10_known_83 (by decide) rfl ?_
            refine qa_iload (pc1 := 87) dX10_known_85 rfl rfl ?_
            refine qa_if_eq (tgt := 113) (pc1 := 90) dX10_known_87 rfl rfl (fun h87 => ?_) (fun h87 => ?_)
            · refine qa_iload_n (pc1 := 114) dX10_known_113 rfl rfl rfl ?_
              refine qa_istore_n (pc1 := 115) dX10_known_114 rfl (by decide) rfl ?_
              refine qa_iincN (pc1 := 118) dX10_known_115 rfl (by decide) rfl ?_
              refine qa_goto (tgt := 4) dX10_known_118 rfl ?_
              exact qa_ls (by exact (kw_lsc rfl (kw_lsc rfl (kw_lsc rfl (kw_lsc rfl kw_lsn))))) (ih (by omega) (by omega) _ (by rw [← hf, show k - r = (k - (r + 1)) + 1 from by omega, kw_lst]; congr 1; simp only [xr_kc, decide_eq_true_eq]; grind))
            · refine qa_aload_n (pc1 := 91) dX10_known_90 rfl rfl rfl ?_
              refine qr_getI (pc1 := 94) dX10_known_91 rfl wf_X10_106 rfl ko_mo (by omega) (by omega) ?_
              refine qa_aload_n (pc1 := 95) dX10_known_94 rfl rfl rfl ?_
              refine qa_getP (pc1 := 98) dX10_known_95 rfl wf_X10_41 rfl ko_mo (by omega) (show P 176 14 = 187 from kp_mo hps (by decide : kw_mo 14 ≠ 0)) ?_
              refine qa_iload (pc1 := 100) dX10_known_98 rfl rfl ?_
              refine qa_iconst (pc1 := 101) dX10_known_100 (v := (nI 3)) kc_i3N rfl ?_
              refine qn_iadd (pc1 := 102) dX10_known_101 rfl ?_
              refine qr_iald (pc1 := 103) dX10_known_102 rfl ka_m187 rfl (by omega) (by omega) (by omega) ?_
              refine qa_isub (pc1 := 104) dX10_known_103 rfl ?_
              refine qa_bipush (pc1 := 106) dX10_known_104 (v := 20) kc_b20 rfl ?_
              refine qa_ic_gt (tgt := 113) (pc1 := 109) dX10_known_106 rfl rfl (fun h106 => ?_) (fun h106 => ?_)
              · refine qa_iload_n (pc1 := 114) dX10_known_113 rfl rfl rfl ?_
                refine qa_istore_n (pc1 := 115) dX10_known_114 rfl (by decide) rfl ?_
                refine qa_iincN (pc1 := 118) dX10_known_115 rfl (by decide) rfl ?_
                refine qa_goto (tgt := 4) dX10_known_118 rfl ?_
                exact qa_ls (by exact (kw_lsc rfl (kw_lsc rfl (kw_lsc rfl (kw_lsc rfl kw_lsn))))) (ih (by omega) (by omega) _ (by rw [← hf, show k - r = (k - (r + 1)) + 1 from by omega, kw_lst]; congr 1; simp only [xr_kc, decide_eq_true_eq]; grind))
              · refine qa_iload_n (pc1 := 110) dX10_known_109 rfl rfl rfl ?_
                refine qa_goto (tgt := 114) dX10_known_110 rfl ?_
                refine qa_istore_n (pc1 := 115) dX10_known_114 rfl (by decide) rfl ?_
                refine qa_iincN (pc1 := 118) dX10_known_115 rfl (by decide) rfl ?_
                refine qa_goto (tgt := 4) dX10_known_118 rfl ?_
                exact qa_ls (by exact (kw_lsc rfl (kw_lsc rfl (kw_lsc rfl (kw_lsc rfl kw_lsn))))) (ih (by omega) (by omega) _ (by rw [← hf, show k - r = (k - (r + 1)) + 1 from by omega, kw_lst]; congr 1; simp only [xr_kc, decide_eq_true_eq]; grind))
  refine qa_iconst (pc1 := 1) dX10_known_0 (v := (-1)) kc_im1 rfl ?_
  refine qa_istore_n (pc1 := 2) dX10_known_1 rfl (by decide) rfl ?_
  refine qa_iconst (pc1 := 3) dX10_known_2 (v := (nI 0)) kc_i0N rfl ?_
  refine qa_istore_n (pc1 := 4) dX10_known_3 rfl (by decide) rfl ?_
  exact qa_ls (by exact (kw_lsc rfl (kw_lsc rfl (kw_lsc rfl (kw_lsc rfl kw_lsn))))) (loop 0 (Nat.zero_le _) _ rfl)
set_option maxRecDepth 20000 in
set_option maxHeartbeats 4000000 in
theorem rt_replay (hps : kw_ps P) {h k : Nat} (hh : h < 2) (hk40 : k ≤ 40) (hc : M 188 h = nI k) (hok : ∀ r, r < k → xr_bok M (400 * h + 10 * r)) : kw_C l D aC b yX10_replay cX10_replay 5 none 1 [.inr (.inl 176), .inl (nI h)] C M P none C (xr_rp M h k) P := by
  refine ax_body (own := RX10) (ini := false) (by decide) rfl (fun h => by cases h) (Nat.le_of_ble_eq_true rfl) ?_
  have inner : ∀ r, r < 40 → ∀ M2 : ax_I, ax_G l D aC b RX10 cX10_replay 5 none false (kw_rm 1) 191 (ax_F D aC b 191 0 0 (kw_R none kw_K kw_L (kw_gl C (xr_rp M h k)) P)) (fun _ => True) 166 [(0, .inr (.inl 176)), (1, .inl (nI h)), (2, .inl (nI r)), (3, .inl (nI (400 * h + 10 * r)))] [] 0 0 kw_K kw_L (kw_gl C M2) P → ∀ a, a ≤ 6 → ∀ Mx : ax_I, (∀ j, Mx 187 j = M 187 j) → (if 1 < M 187 (400 * h + 10 * r + 7) then xr_cls (400 * h + 10 * r) a (6 - a) Mx else Mx) = M2 → ax_G l D aC b RX10 cX10_replay 5 none false (kw_rm 1) 191 (ax_F D aC b 191 0 0 (kw_R none kw_K kw_L (kw_gl C (xr_rp M h k)) P)) (fun _ => True) 103 [(4, .inl (nI a)), (0, .inr (.inl 176)), (1, .inl (nI h)), (2, .inl (nI r)), (3, .inl (nI (400 * h + 10 * r)))] [] 0 0 kw_K kw_L (kw_gl C Mx) P := by
    intro r hr M2 k166
    refine kw_loopB 6 (fun a hiN ih Mx hbk hf => ?_)
    refine qa_iload (pc1 := 105) dX10_replay_103 rfl rfl ?_
    refine qa_bipush (pc1 := 107) dX10_replay_105 (v := (nI 6)) kc_b6N rfl ?_
    refine qn_ic_ge (tgt := 166) (pc1 := 110) dX10_replay_107 rfl rfl (by omega) (by omega) (fun h107 => ?_) (fun h107 => ?_)
    · have e1 : Mx = M2 := by
        rw [← hf]
        by_cases e6 : 6 ≤ a
        · rw [show 6 - a = 0 from by omega]; simp [xr_cls]
        · rw [if_neg (by grind)]
      subst e1
      exact qa_ls (by exact (kw_lsc rfl (kw_lsc rfl (kw_lsc rfl (kw_lsc rfl kw_lsn))))) k166
    · have ha : a < 6 := by omega
      refine qa_aload_n (pc1 := 111) dX10_replay_110 rfl rfl rfl ?_
      refine qa_getP (pc1 := 114) dX10_replay_111 rfl wf_X10_41 rfl ko_mo (by omega) (show P 176 14 = 187 from kp_mo hps (by decide : kw_mo 14 ≠ 0)) ?_
      refine qa_iload_n (pc1 := 115) dX10_replay_114 rfl rfl rfl ?_
      refine qa_bipush (pc1 := 117) dX10_replay_115 (v := (nI 7)) kc_b7N rfl ?_
      refine qn_iadd (pc1 := 118) dX10_replay_117 rfl ?_
      refine qr_iald (pc1 := 119) dX10_replay_118 rfl ka_m187 rfl (by omega) (by omega) (by omega) ?_
      refine qa_iconst (pc1 := 120) dX10_replay_119 (v := 1) kc_i1 rfl ?_
      refine qa_ic_le (tgt := 166) (pc1 := 123) dX10_replay_120 rfl rfl (fun h120 => ?_) (fun h120 => ?_)
      · have e1 : Mx = M2 := by
          rw [← hf]
          by_cases e6 : 6 ≤ a
          · rw [show 6 - a = 0 from by omega]; simp [xr_cls]
          · rw [if_neg (by grind)]
        subst e1
        exact qa_ls (by exact (kw_lsc rfl (kw_lsc rfl (kw_lsc rfl (kw_lsc rfl kw_lsn))))) k166
      · refine qa_aload_n (pc1 := 124) dX10_replay_123 rfl rfl rfl ?_
        refine qa_getP (pc1 := 127) dX10_replay_124 rfl wf_X10_50 rfl ko_mo (by omega) (show P 176 17 = 190 from kp_mo hps (by decide : kw_mo 17 ≠ 0)) ?_
        refine qa_iload (pc1 := 129) dX10_replay_127 rfl rfl ?_
        refine qa_aload_n (pc1 := 130) dX10_replay_129 rfl rfl rfl ?_
        refine qa_getP (pc1 := 133) dX10_replay_130 rfl wf_X10_50 rfl ko_mo (by omega) (show P 176 17 = 190 from kp_mo hps (by decide : kw_mo 17 ≠ 0)) ?_
        refine qa_iload (pc1 := 135) dX10_replay_133 rfl rfl ?_
        refine qr_iald (pc1 := 136) dX10_replay_135 rfl ka_m190 rfl (by omega) (by omega) (by omega) ?_
        refine qa_aload_n (pc1 := 137) dX10_replay_136 rfl rfl rfl ?_
        refine qa_getP (pc1 := 140) dX10_replay_137 rfl wf_X10_41 rfl ko_mo (by omega) (show P 176 14 = 187 from kp_mo hps (by decide : kw_mo 14 ≠ 0)) ?_
        refine qa_iload_n (pc1 := 141) dX10_replay_140 rfl rfl rfl ?_
        refine qa_bipush (pc1 := 143) dX10_replay_141 (v := (nI 8)) kc_b8N rfl ?_
        refine qn_iadd (pc1 := 144) dX10_replay_143 rfl ?_
        refine qr_iald (pc1 := 145) dX10_replay_144 rfl ka_m187 rfl (by omega) (by omega) (by omega) ?_
        refine qa_ic_ne (tgt := 152) (pc1 := 148) dX10_replay_145 rfl rfl (fun h145 => ?_) (fun h145 => ?_)
        · refine qa_aload_n (pc1 := 153) dX10_replay_152 rfl rfl rfl ?_
          refine qa_getP (pc1 := 156) dX10_replay_153 rfl wf_X10_50 rfl ko_mo (by omega) (show P 176 17 = 190 from kp_mo hps (by decide : kw_mo 17 ≠ 0)) ?_
          refine qa_iload (pc1 := 158) dX10_replay_156 rfl rfl ?_
          refine qr_iald (pc1 := 159) dX10_replay_158 rfl ka_m190 rfl (by omega) (by omega) (by omega) ?_
          refine qr_iast (pc1 := 160) dX10_replay_159 rfl ka_m190 rfl (by omega) (by omega) (by omega) ?_
          refine qa_iincN (pc1 := 163) dX10_replay_160 rfl (by decide) rfl ?_
          refine qa_goto (tgt := 103) dX10_replay_163 rfl ?_
          refine qa_memM (M1 := xr_cl Mx (400 * h + 10 * r) a) (by simp only [xr_cl]; grind) ?_
          exact qa_ls (by exact (kw_lsc rfl (kw_lsc rfl (kw_lsc rfl (kw_lsc rfl (kw_lsc rfl kw_lsn)))))) (ih (by omega) _ (fun j => by rw [← hbk j]; simp [xr_cl, ax_u]) (by rw [← hf, if_pos (by grind), if_pos (by grind), show 6 - a = (6 - (a + 1)) + 1 from by omega]; rfl))
        · refine qa_iconst (pc1 := 149) dX10_replay_148 (v := (-1)) kc_im1 rfl ?_
          refine qa_goto (tgt := 159) dX10_replay_149 rfl ?_
          refine qr_iast (pc1 := 160) dX10_replay_159 rfl ka_m190 rfl (by omega) (by omega) (by omega) ?_
          refine qa_iincN (pc1 := 163) dX10_replay_160 rfl (by decide) rfl ?_
          refine qa_goto (tgt := 103) dX10_replay_163 rfl ?_
          refine qa_memM (M1 := xr_cl Mx (400 * h + 10 * r) a) (by simp only [xr_cl]; grind) ?_
          exact qa_ls (by exact (kw_lsc rfl (kw_lsc rfl (kw_lsc rfl (kw_lsc rfl (kw_lsc rfl kw_lsn)))))) (ih (by omega) _ (fun j => by rw [← hbk j]; simp [xr_cl, ax_u]) (by rw [← hf, if_pos (by grind), if_pos (by grind), show 6 - a = (6 - (a + 1)) + 1 from by omega]; rfl))
  have loop : ∀ r, r ≤ k → ∀ M1 : ax_I, (∀ j, M1 187 j = M 187 j) → M1 188 h = M 188 h → xr_r2 h r (k - r) M1 = xr_rp M h k → ax_G l D aC b RX10 cX10_replay 5 none false (kw_rm 1) 191 (ax_F D aC b 191 0 0 (kw_R none kw_K kw_L (kw_gl C (xr_rp M h k)) P)) (fun _ => True) 28 [(2, .inl (nI r)), (0, .inr (.inl 176)), (1, .inl (nI h))] [] 0 0 kw_K kw_L (kw_gl C M1) P := by
    refine kw_loop k (fun r ih hrk M1 hbk hrc hf => ?_)
    refine qa_iload_n (pc1 := 29) dX10_replay_28 rfl rfl rfl ?_
    refine qa_aload_n (pc1 := 30) dX10_replay_29 rfl rfl rfl ?_
    refine qa_getP (pc1 := 33) dX10_replay_30 rfl wf_X10_44 rfl ko_mo (by omega) (show P 176 15 = 188 from kp_mo hps (by decide : kw_mo 15 ≠ 0)) ?_
    refine qa_iload_n (pc1 := 34) dX10_replay_33 rfl rfl rfl ?_
    refine qr_iald (pc1 := 35) dX10_replay_34 rfl ka_m188 rfl (by omega) (by omega) (by omega) ?_
    refine qa_top (hrc.trans hc) ?_
    refine qn_ic_ge (tgt := 202) (pc1 := 38) dX10_replay_35 rfl rfl (by omega) (by omega) (fun h35 => ?_) (fun h35 => ?_)
    · exact qa_vret dX10_replay_202 rfl rfl rfl (by rw [← hf, show k - r = 0 from by omega]; rfl) rfl
    · have hr : r < 40 := by omega
      refine qa_sipush (pc1 := 41) dX10_replay_38 (v := (nI 400)) kc_s400N rfl ?_
      refine qa_iload_n (pc1 := 42) dX10_replay_41 rfl rfl rfl ?_
      refine qn_imul (pc1 := 43) dX10_replay_42 rfl ?_
      refine qa_bipush (pc1 := 45) dX10_replay_43 (v := (nI 10)) kc_b10N rfl ?_
      refine qa_iload_n (pc1 := 46) dX10_replay_45 rfl rfl rfl ?_
      refine qn_imul (pc1 := 47) dX10_replay_46 rfl ?_
      refine qn_iadd (pc1 := 48) dX10_replay_47 rfl ?_
      refine qa_istore_n (pc1 := 49) dX10_replay_48 rfl (by decide) rfl ?_
      refine qa_aload_n (pc1 := 50) dX10_replay_49 rfl rfl rfl ?_
      refine qa_getP (pc1 := 53) dX10_replay_50 rfl wf_X10_41 rfl ko_mo (by omega) (show P 176 14 = 187 from kp_mo hps (by decide : kw_mo 14 ≠ 0)) ?_
      refine qa_iload_n (pc1 := 54) dX10_replay_53 rfl rfl rfl ?_
      refine qa_bipush (pc1 := 56) dX10_replay_54 (v := (nI 7)) kc_b7N rfl ?_
      refine qn_iadd (pc1 := 57) dX10_replay_56 rfl ?_
      refine qr_iald (pc1 := 58) dX10_replay_57 rfl ka_m187 rfl (by omega) (by omega) (by omega) ?_
      refine qa_iconst (pc1 := 59) dX10_replay_58 (v := 1) kc_i1 rfl ?_
      refine qa_ic_ne (tgt := 100) (pc1 := 62) dX10_replay_59 rfl rfl (fun h59 => ?_) (fun h59 => ?_)
      · refine qa_iconst (pc1 := 101) dX10_replay_100 (v := 0) kc_i0 rfl ?_
        refine qa_istore (pc1 := 103) dX10_replay_101 (by decide) rfl ?_
        refine qa_memM (M1 := xr_ra M1 (400 * h + 10 * r) r) (by simp only [xr_ra, hbk, ax_u_n (show (187 : Nat) ≠ 190 from by decide)] at h59 ⊢; clear ih hf inner; grind) ?_
        have hb2 : ∀ j, xr_ra M1 (400 * h + 10 * r) r 187 j = M 187 j := fun j => by rw [xr_ra_o (by omega) (by omega)]; exact hbk j
        refine qa_ls (by exact (kw_lsc rfl (kw_lsc rfl (kw_lsc rfl (kw_lsc rfl (kw_lsc rfl kw_lsn)))))) (inner r hr (xr_rb (xr_ra M1 (400 * h + 10 * r) r) (400 * h + 10 * r)) ?_ 0 (Nat.zero_le _) _ hb2 (by rw [xr_rb, hb2]))
        refine qa_aload_n (pc1 := 167) dX10_replay_166 rfl rfl rfl ?_
        refine qa_aload_n (pc1 := 168) dX10_replay_167 rfl rfl rfl ?_
        refine qa_getP (pc1 := 171) dX10_replay_168 rfl wf_X10_41 rfl ko_mo (by omega) (show P 176 14 = 187 from kp_mo hps (by decide : kw_mo 14 ≠ 0)) ?_
        refine qa_iload_n (pc1 := 172) dX10_replay_171 rfl rfl rfl ?_
        refine qa_bipush (pc1 := 174) dX10_replay_172 (v := (nI 7)) kc_b7N rfl ?_
        refine qn_iadd (pc1 := 175) dX10_replay_174 rfl ?_
        refine qr_iald (pc1 := 176) dX10_replay_175 rfl ka_m187 rfl (by omega) (by omega) (by omega) ?_
        refine qa_iconst (pc1 := 177) dX10_replay_176 (v := 2) kc_i2 rfl ?_
        refine qa_ic_ne (tgt := 189) (pc1 := 180) dX10_replay_177 rfl rfl (fun h177 => ?_) (fun h177 => ?_)
        · refine qa_aload_n (pc1 := 190) dX10_replay_189 rfl rfl rfl ?_
          refine qr_getI (pc1 := 193) dX10_replay_190 rfl wf_X10_129 rfl ko_mo (by omega) (by omega) ?_
          refine qr_putI (pc1 := 196) dX10_replay_193 rfl wp_X10_129 rfl rfl rfl ko_mo (by omega) (by omega) ?_
          refine qa_iincN (pc1 := 199) dX10_replay_196 rfl (by decide) rfl ?_
          refine qa_goto (tgt := 28) dX10_replay_199 rfl ?_
          refine qa_memM (M1 := xr_r1 M1 (400 * h + 10 * r) r) (by simp only [xr_r1, xr_rc]; grind) ?_
          exact qa_ls (by exact (kw_lsc rfl (kw_lsc rfl (kw_lsc rfl kw_lsn)))) (ih (by omega) (by omega) _ (fun j => by rw [xr_r1_o (by omega) (by omega) (by omega)]; exact hbk j) (by rw [xr_r1_o (by omega) (by omega) (by omega)]; exact hrc) (by rw [← hf, show k - r = (k - (r + 1)) + 1 from by omega]; rfl))
        · refine qa_aload_n (pc1 := 181) dX10_replay_180 rfl rfl rfl ?_
          refine qr_getI (pc1 := 184) dX10_replay_181 rfl wf_X10_129 rfl ko_mo (by omega) (by omega) ?_
          refine qa_iconst (pc1 := 185) dX10_replay_184 (v := 1) kc_i1 rfl ?_
          refine qa_iadd (pc1 := 186) dX10_replay_185 rfl ?_
          refine qa_goto (tgt := 193) dX10_replay_186 rfl ?_
          refine qr_putI (pc1 := 196) dX10_replay_193 rfl wp_X10_129 rfl rfl rfl ko_mo (by omega) (by omega) ?_
          refine qa_iincN (pc1 := 199) dX10_replay_196 rfl (by decide) rfl ?_
          refine qa_goto (tgt := 28) dX10_replay_199 rfl ?_
          refine qa_memM (M1 := xr_r1 M1 (400 * h + 10 * r) r) (by simp only [xr_r1, xr_rc]; grind) ?_
          exact qa_ls (by exact (kw_lsc rfl (kw_lsc rfl (kw_lsc rfl kw_lsn)))) (ih (by omega) (by omega) _ (fun j => by rw [xr_r1_o (by omega) (by omega) (by omega)]; exact hbk j) (by rw [xr_r1_o (by omega) (by omega) (by omega)]; exact hrc) (by rw [← hf, show k - r = (k - (r + 1)) + 1 from by omega]; rfl))
      · have hb1 := hok r (by omega) (by rw [← hbk]; exact h59)
        have hj := hb1.1
        refine qa_aload_n (pc1 := 63) dX10_replay_62 rfl rfl rfl ?_
        refine qa_getP (pc1 := 66) dX10_replay_63 rfl wf_X10_50 rfl ko_mo (by omega) (show P 176 17 = 190 from kp_mo hps (by decide : kw_mo 17 ≠ 0)) ?_
        refine qa_aload_n (pc1 := 67) dX10_replay_66 rfl rfl rfl ?_
        refine qa_getP (pc1 := 70) dX10_replay_67 rfl wf_X10_41 rfl ko_mo (by omega) (show P 176 14 = 187 from kp_mo hps (by decide : kw_mo 14 ≠ 0)) ?_
        refine qa_iload_n (pc1 := 71) dX10_replay_70 rfl rfl rfl ?_
        refine qa_bipush (pc1 := 73) dX10_replay_71 (v := (nI 9)) kc_b9N rfl ?_
        refine qn_iadd (pc1 := 74) dX10_replay_73 rfl ?_
        refine qr_iald (pc1 := 75) dX10_replay_74 rfl ka_m187 rfl (by omega) (by omega) (by omega) ?_
        refine qa_top (show _ = nI (M 187 (400 * h + 10 * r + 9)).toNatClampNeg from by rw [hbk]; exact hb1.2) ?_
        refine qa_iload_n (pc1 := 76) dX10_replay_75 rfl rfl rfl ?_
        refine qr_iast (pc1 := 77) dX10_replay_76 rfl ka_m190 rfl (by omega) (by omega) (by omega) ?_
        refine qa_aload_n (pc1 := 78) dX10_replay_77 rfl rfl rfl ?_
        refine qa_getP (pc1 := 81) dX10_replay_78 rfl wf_X10_53 rfl ko_mo (by omega) (show P 176 18 = 191 from kp_mo hps (by decide : kw_mo 18 ≠ 0)) ?_
        refine qa_aload_n (pc1 := 82) dX10_replay_81 rfl rfl rfl ?_
        refine qa_getP (pc1 := 85) dX10_replay_82 rfl wf_X10_41 rfl ko_mo (by omega) (show P 176 14 = 187 from kp_mo hps (by decide : kw_mo 14 ≠ 0)) ?_
        refine qa_iload_n (pc1 := 86) dX10_replay_85 rfl rfl rfl ?_
        refine qa_bipush (pc1 := 88) dX10_replay_86 (v := (nI 9)) kc_b9N rfl ?_
        refine qn_iadd (pc1 := 89) dX10_replay_88 rfl ?_
        refine qr_iald (pc1 := 90) dX10_replay_89 rfl ka_m187 rfl (by omega) (by omega) (by omega) ?_
        refine qa_top (show _ = nI (M 187 (400 * h + 10 * r + 9)).toNatClampNeg from by simp only [ax_u]; simp only [show ¬ 187 = 190 from by omega, if_false]; rw [hbk]; exact hb1.2) ?_
        refine qa_aload_n (pc1 := 91) dX10_replay_90 rfl rfl rfl ?_
        refine qa_getP (pc1 := 94) dX10_replay_91 rfl wf_X10_41 rfl ko_mo (by omega) (show P 176 14 = 187 from kp_mo hps (by decide : kw_mo 14 ≠ 0)) ?_
        refine qa_iload_n (pc1 := 95) dX10_replay_94 rfl rfl rfl ?_
        refine qa_bipush (pc1 := 97) dX10_replay_95 (v := (nI 8)) kc_b8N rfl ?_
        refine qn_iadd (pc1 := 98) dX10_replay_97 rfl ?_
        refine qr_iald (pc1 := 99) dX10_replay_98 rfl ka_m187 rfl (by omega) (by omega) (by omega) ?_
        refine qr_iast (pc1 := 100) dX10_replay_99 rfl ka_m191 rfl (by omega) (by omega) (by omega) ?_
        refine qa_iconst (pc1 := 101) dX10_replay_100 (v := 0) kc_i0 rfl ?_
        refine qa_istore (pc1 := 103) dX10_replay_101 (by decide) rfl ?_
        refine qa_memM (M1 := xr_ra M1 (400 * h + 10 * r) r) (by simp only [xr_ra, hbk, ax_u_n (show (187 : Nat) ≠ 190 from by decide)] at h59 ⊢; clear ih hf inner; grind) ?_
        have hb2 : ∀ j, xr_ra M1 (400 * h + 10 * r) r 187 j = M 187 j := fun j => by rw [xr_ra_o (by omega) (by omega)]; exact hbk j
        refine qa_ls (by exact (kw_lsc rfl (kw_lsc rfl (kw_lsc rfl (kw_lsc rfl (kw_lsc rfl kw_lsn)))))) (inner r hr (xr_rb (xr_ra M1 (400 * h + 10 * r) r) (400 * h + 10 * r)) ?_ 0 (Nat.zero_le _) _ hb2 (by rw [xr_rb, hb2]))
        refine qa_aload_n (pc1 := 167) dX10_replay_166 rfl rfl rfl ?_
        refine qa_aload_n (pc1 := 168) dX10_replay_167 rfl rfl rfl ?_
        refine qa_getP (pc1 := 171) dX10_replay_168 rfl wf_X10_41 rfl ko_mo (by omega) (show P 176 14 = 187 from kp_mo hps (by decide : kw_mo 14 ≠ 0)) ?_
        refine qa_iload_n (pc1 := 172) dX10_replay_171 rfl rfl rfl ?_
        refine qa_bipush (pc1 := 174) dX10_replay_172 (v := (nI 7)) kc_b7N rfl ?_
        refine qn_iadd (pc1 := 175) dX10_replay_174 rfl ?_
        refine qr_iald (pc1 := 176) dX10_replay_175 rfl ka_m187 rfl (by omega) (by omega) (by omega) ?_
        refine qa_iconst (pc1 := 177) dX10_replay_176 (v := 2) kc_i2 rfl ?_
        refine qa_ic_ne (tgt := 189) (pc1 := 180) dX10_replay_177 rfl rfl (fun h177 => ?_) (fun h177 => ?_)
        · refine qa_aload_n (pc1 := 190) dX10_replay_189 rfl rfl rfl ?_
          refine qr_getI (pc1 := 193) dX10_replay_190 rfl wf_X10_129 rfl ko_mo (by omega) (by omega) ?_
          refine qr_putI (pc1 := 196) dX10_replay_193 rfl wp_X10_129 rfl rfl rfl ko_mo (by omega) (by omega) ?_
          refine qa_iincN (pc1 := 199) dX10_replay_196 rfl (by decide) rfl ?_
          refine qa_goto (tgt := 28) dX10_replay_199 rfl ?_
          refine qa_memM (M1 := xr_r1 M1 (400 * h + 10 * r) r) (by simp only [xr_r1, xr_rc]; grind) ?_
          exact qa_ls (by exact (kw_lsc rfl (kw_lsc rfl (kw_lsc rfl kw_lsn)))) (ih (by omega) (by omega) _ (fun j => by rw [xr_r1_o (by omega) (by omega) (by omega)]; exact hbk j) (by rw [xr_r1_o (by omega) (by omega) (by omega)]; exact hrc) (by rw [← hf, show k - r = (k - (r + 1)) + 1 from by omega]; rfl))
        · refine qa_aload_n (pc1 := 181) dX10_replay_180 rfl rfl rfl ?_
          refine qr_getI (pc1 := 184) dX10_replay_181 rfl wf_X10_129 rfl ko_mo (by omega) (by omega) ?_
          refine qa_iconst (pc1 := 185) dX10_replay_184 (v := 1) kc_i1 rfl ?_
          refine qa_iadd (pc1 := 186) dX10_replay_185 rfl ?_
          refine qa_goto (tgt := 193) dX10_replay_186 rfl ?_
          refine qr_putI (pc1 := 196) dX10_replay_193 rfl wp_X10_129 rfl rfl rfl ko_mo (by omega) (by omega) ?_
          refine qa_iincN (pc1 := 199) dX10_replay_196 rfl (by decide) rfl ?_
          refine qa_goto (tgt := 28) dX10_replay_199 rfl ?_
          refine qa_memM (M1 := xr_r1 M1 (400 * h + 10 * r) r) (by simp only [xr_r1, xr_rc]; grind) ?_
          exact qa_ls (by exact (kw_lsc rfl (kw_lsc rfl (kw_lsc rfl kw_lsn)))) (ih (by omega) (by omega) _ (fun j => by rw [xr_r1_o (by omega) (by omega) (by omega)]; exact hbk j) (by rw [xr_r1_o (by omega) (by omega) (by omega)]; exact hrc) (by rw [← hf, show k - r = (k - (r + 1)) + 1 from by omega]; rfl))
  have loop7 : ∀ a, a ≤ 6 → ∀ M1 : ax_I, xr_r0 a (6 - a) M1 = xr_r0 0 6 (ax_u M 176 19 0) → ax_G l D aC b RX10 cX10_replay 5 none false (kw_rm 1) 191 (ax_F D aC b 191 0 0 (kw_R none kw_K kw_L (kw_gl C (xr_rp M h k)) P)) (fun _ => True) 7 [(2, .inl (nI a)), (0, .inr (.inl 176)), (1, .inl (nI h))] [] 0 0 kw_K kw_L (kw_gl C M1) P := by
    refine kw_loopB 6 (fun a hiN ih M1 hf => ?_)
    refine qa_iload_n (pc1 := 8) dX10_replay_7 rfl rfl rfl ?_
    refine qa_bipush (pc1 := 10) dX10_replay_8 (v := (nI 6)) kc_b6N rfl ?_
    refine qn_ic_ge (tgt := 26) (pc1 := 13) dX10_replay_10 rfl rfl (by omega) (by omega) (fun h10 => ?_) (fun h10 => ?_)
    · refine qa_iconst (pc1 := 27) dX10_replay_26 (v := (nI 0)) kc_i0N rfl ?_
      refine qa_istore_n (pc1 := 28) dX10_replay_27 rfl (by decide) rfl ?_
      have e1 : M1 = xr_rs M := by rw [xr_rs, ← hf, show 6 - a = 0 from by omega]; rfl
      subst e1
      exact qa_ls (by exact (kw_lsc rfl (kw_lsc rfl (kw_lsc rfl kw_lsn)))) (loop 0 (Nat.zero_le _) _ (fun j => xr_rs_o (by omega) (by omega)) (xr_rs_o (by omega) (by omega)) rfl)
    · refine qa_aload_n (pc1 := 14) dX10_replay_13 rfl rfl rfl ?_
      refine qa_getP (pc1 := 17) dX10_replay_14 rfl wf_X10_50 rfl ko_mo (by omega) (show P 176 17 = 190 from kp_mo hps (by decide : kw_mo 17 ≠ 0)) ?_
      refine qa_iload_n (pc1 := 18) dX10_replay_17 rfl rfl rfl ?_
      refine qa_iconst (pc1 := 19) dX10_replay_18 (v := (-1)) kc_im1 rfl ?_
      refine qr_iast (pc1 := 20) dX10_replay_19 rfl ka_m190 rfl (by omega) (by omega) (by omega) ?_
      refine qa_iincN (pc1 := 23) dX10_replay_20 rfl (by decide) rfl ?_
      refine qa_goto (tgt := 7) dX10_replay_23 rfl ?_
      exact qa_ls (by exact (kw_lsc rfl (kw_lsc rfl (kw_lsc rfl kw_lsn)))) (ih (by omega) _ (by rw [← hf, show 6 - a = (6 - (a + 1)) + 1 from by omega]; rfl))
  refine qa_aload_n (pc1 := 1) dX10_replay_0 rfl rfl rfl ?_
  refine qa_iconst (pc1 := 2) dX10_replay_1 (v := 0) kc_i0 rfl ?_
  refine qr_putI (pc1 := 5) dX10_replay_2 rfl wp_X10_129 rfl rfl rfl ko_mo (by omega) (by omega) ?_
  refine qa_iconst (pc1 := 6) dX10_replay_5 (v := (nI 0)) kc_i0N rfl ?_
  refine qa_istore_n (pc1 := 7) dX10_replay_6 rfl (by decide) rfl ?_
  exact qa_ls (by exact (kw_lsc rfl (kw_lsc rfl (kw_lsc rfl kw_lsn)))) (loop7 0 (Nat.zero_le _) _ rfl)
end REFC
