
def xr_lo (s o : Int32) : Int32 := if o ≤ s then o else s
def xr_hi (s o : Int32) : Int32 := if o ≤ s then s else o
def xr_link (s o : Int32) : Int32 := if 2 ≤ xr_lo s o then xr_hi s o - 1 else xr_lo s o
def xr_key (M : ax_I) (s o : Int32) : Int32 := if o ≤ s then M 178 (xr_link s o).toNatClampNeg else M 177 (xr_link s o).toNatClampNeg
abbrev xr_lk (s o : Int32) : Prop := vp_in (xr_link s o) 4
abbrev xr_right (M : ax_I) (x : Int32) : Prop := M 183 5 = xa_seal (xr_key M (M 183 7) (M 183 6)) (M 183 0) (M 183 1) x (M 183 3) (M 183 4)
abbrev xr_n (M : ax_I) : Nat := (M 176 7).toNatClampNeg
abbrev xr_nok (M : ax_I) : Prop := M 176 7 = nI (xr_n M) ∧ xr_n M ≤ 24
def xr_put (M : ax_I) (n : Nat) (s r kind id x a b : Int32) : ax_I :=
  ax_u (ax_u (ax_u (ax_u (ax_u (ax_u (ax_u (ax_u (ax_u M 182 (8 * n) kind) 182 (8 * n + 1) id) 182 (8 * n + 2) (if kind = 0 ∨ kind = 3 then x else 0)) 182 (8 * n + 3) a) 182 (8 * n + 4) b) 182 (8 * n + 5) (xa_seal (xr_key M s r) kind id x a b)) 182 (8 * n + 6) s) 182 (8 * n + 7) r) 176 7 (nI (n + 1))
def xr_snd (M : ax_I) (s r kind id x a b : Int32) : ax_I := if xr_n M < 24 then xr_put M (xr_n M) s r kind id x a b else M
def xr_ti (M : ax_I) (kk i : Nat) : ax_I := fun a j => if a = 182 ∧ 8 * kk ≤ j ∧ j < i then M 182 (j + 8) else M a j
def xr_take (M : ax_I) (kk n : Nat) : ax_I := ax_u (xr_ti M kk (8 * n - 8)) 176 7 (nI (n - 1))
theorem xr_ti_step {M : ax_I} {kk i : Nat} (h : 8 * kk ≤ i) : ax_u (xr_ti M kk i) 182 i (M 182 (i + 8)) = xr_ti M kk (i + 1) := by
  funext a j
  by_cases e1 : a = 182
  · subst e1
    by_cases e2 : j = i
    · subst e2
      have h1 : 8 * kk ≤ j ∧ j < j + 1 := ⟨h, by omega⟩
      simp [ax_u, xr_ti, h1]
    · by_cases e3 : 8 * kk ≤ j ∧ j < i
      · have h1 : 8 * kk ≤ j ∧ j < i + 1 := ⟨e3.1, by omega⟩
        simp [ax_u, xr_ti, e2, e3, h1]
      · have h1 : ¬ (8 * kk ≤ j ∧ j < i + 1) := by omega
        simp [ax_u, xr_ti, e2, e3, h1]
  · simp [ax_u, xr_ti, e1]
theorem xr_ti_0 {M : ax_I} {kk : Nat} : M = xr_ti M kk (8 * kk) := by
  funext a j
  have h : ¬ (8 * kk ≤ j ∧ j < 8 * kk) := by omega
  simp [xr_ti, h]
def xr_got (M : ax_I) (kk i : Nat) : ax_I := fun a j => if a = 183 ∧ j < i then M 182 (8 * kk + j) else M a j
theorem xr_got_step {M : ax_I} {kk i : Nat} : ax_u (xr_got M kk i) 183 i (M 182 (8 * kk + i)) = xr_got M kk (i + 1) := by
  funext a j
  by_cases e1 : a = 183
  · subst e1
    by_cases e2 : j = i
    · subst e2; simp [ax_u, xr_got]
    · by_cases e3 : j < i
      · have h1 : j < i + 1 := by omega
        simp [ax_u, xr_got, e2, e3, h1]
      · have h1 : ¬ j < i + 1 := by omega
        simp [ax_u, xr_got, e2, e3, h1]
  · simp [ax_u, xr_got, e1]
theorem xr_got_0 {M : ax_I} {kk : Nat} : M = xr_got M kk 0 := by
  funext a j; simp [xr_got]
def xr_cp (M : ax_I) (kk n i : Nat) : ax_I := fun a j => if a = 182 ∧ 8 * n ≤ j ∧ j < 8 * n + i then M 182 (8 * kk + (j - 8 * n)) else M a j
theorem xr_cp_step {M : ax_I} {kk n i : Nat} : ax_u (xr_cp M kk n i) 182 (8 * n + i) (M 182 (8 * kk + i)) = xr_cp M kk n (i + 1) := by
  funext a j
  by_cases e1 : a = 182
  · subst e1
    by_cases e2 : j = 8 * n + i
    · subst e2
      have h1 : 8 * n ≤ 8 * n + i ∧ 8 * n + i < 8 * n + (i + 1) := by omega
      simp [ax_u, xr_cp, h1]
    · by_cases e3 : 8 * n ≤ j ∧ j < 8 * n + i
      · have h1 : 8 * n ≤ j ∧ j < 8 * n + (i + 1) := by omega
        simp [ax_u, xr_cp, e2, e3, h1]
      · have h1 : ¬ (8 * n ≤ j ∧ j < 8 * n + (i + 1)) := by omega
        simp [ax_u, xr_cp, e2, e3, h1]
  · simp [ax_u, xr_cp, e1]
theorem xr_cp_0 {M : ax_I} {kk n : Nat} : M = xr_cp M kk n 0 := by
  funext a j
  simp [xr_cp]
  intros
  omega
abbrev xr_pg (M : ax_I) (r : Nat) : Prop := M 184 (10 * r) = 1 ∨ M 184 (10 * r) = 3
def xr_sl1 (M : ax_I) (r : Nat) : ax_I := if M 184 (10 * r) = 1 then xr_snd M (nI (r / 4)) 2 0 (M 184 (10 * r + 2)) (M 184 (10 * r + 3)) (M 184 (10 * r + 4)) (M 184 (10 * r + 5) ^^^ xa_mix (M 177 (r / 4)) (M 184 (10 * r + 3))) else xr_snd M (nI (r / 4)) 2 3 (M 184 (10 * r + 2)) (M 184 (10 * r + 3)) (M 184 (10 * r + 4)) (M 184 (10 * r + 6))
def xr_sl2 (M : ax_I) (r : Nat) : ax_I := ax_u (ax_u M 184 (10 * r + 8) (M 176 5)) 184 (10 * r + 9) ((ax_u M 184 (10 * r + 8) (M 176 5)) 184 (10 * r + 9) + 1)
def xr_sl (M : ax_I) (r : Nat) : ax_I := xr_sl2 (xr_sl1 M r) r
theorem xr_lk2 {q : Nat} (h : q < 2) : xr_lk (nI q) 2 := by
  rcases q with _ | _ | q
  · unfold xr_lk vp_in; decide
  · unfold xr_lk vp_in; decide
  · omega
theorem xr_nok_of {M : ax_I} {n : Nat} (h : M 176 7 = nI n) (hn : n ≤ 24) : xr_nok M := by
  unfold xr_nok xr_n
  rw [h, nI_clamp (by omega)]
  exact ⟨rfl, hn⟩
theorem xr_snd_c {M : ax_I} (hk : xr_nok M) {s r kind id x a b1 : Int32} : xr_snd M s r kind id x a b1 176 7 = nI (if xr_n M < 24 then xr_n M + 1 else xr_n M) := by
  unfold xr_snd
  split
  · simp [xr_put, ax_u]
  · exact hk.1
theorem xr_snd_ok {M : ax_I} (hk : xr_nok M) {s r kind id x a b1 : Int32} : xr_nok (xr_snd M s r kind id x a b1) := by
  refine xr_nok_of (xr_snd_c hk) ?_
  have := hk.2
  split <;> omega
theorem xr_snd_o {M : ax_I} {s r kind id x a b1 : Int32} {n j : Nat} (h2 : ¬ n = 182) (h : ¬ (n = 176 ∧ j = 7)) : xr_snd M s r kind id x a b1 n j = M n j := by
  unfold xr_snd
  split
  · unfold xr_put
    by_cases e : n = 176
    · subst e
      have e7 : ¬ j = 7 := fun e => h ⟨rfl, e⟩
      simp [ax_u, e7]
    · simp [ax_u, h2, e]
  · rfl

section REF
variable {l : Launch} {D : va_G} {aC : Nat → ClassId} {b : Nat} {C M : ax_I} {P : ax_P}
set_option maxRecDepth 20000 in
set_option maxHeartbeats 4000000 in
theorem rt_mix (x y : Int32) : kw_C l D aC b yX10_mix cX10_mix 3 (some .int) 1 [.inl x, .inl y] C M P (some (.inl (xa_mix x y))) C M P := by
  refine ax_body (own := RX10) (ini := false) (by decide) rfl (fun h => by cases h) (Nat.le_of_ble_eq_true rfl) ?_
  refine qa_bipush (pc1 := 2) dX10_mix_0 (v := 31) kc_b31 rfl ?_
  refine qa_iload_n (pc1 := 3) dX10_mix_2 rfl rfl rfl ?_
  refine qa_imul (pc1 := 4) dX10_mix_3 rfl ?_
  refine qa_iload_n (pc1 := 5) dX10_mix_4 rfl rfl rfl ?_
  refine qa_iadd (pc1 := 6) dX10_mix_5 rfl ?_
  refine qa_iconst (pc1 := 7) dX10_mix_6 (v := 5) kc_i5 rfl ?_
  refine qa_iadd (pc1 := 8) dX10_mix_7 rfl ?_
  refine qa_istore_n (pc1 := 9) dX10_mix_8 rfl (by decide) rfl ?_
  refine qa_iload_n (pc1 := 10) dX10_mix_9 rfl rfl rfl ?_
  refine qa_iload_n (pc1 := 11) dX10_mix_10 rfl rfl rfl ?_
  refine qa_bipush (pc1 := 13) dX10_mix_11 (v := 13) kc_b13 rfl ?_
  refine qa_iushr (pc1 := 14) dX10_mix_13 rfl ?_
  refine qa_ixor (pc1 := 15) dX10_mix_14 rfl ?_
  refine qa_ldc (pc1 := 17) dX10_mix_15 (v := 40503) wl_X10_56 rfl ?_
  refine qa_imul (pc1 := 18) dX10_mix_17 rfl ?_
  exact qa_iret dX10_mix_18 rfl (vp_nar_int _) rfl rfl rfl rfl
set_option maxRecDepth 20000 in
set_option maxHeartbeats 4000000 in
theorem rt_sealOf (k kind id x a b1 : Int32) : kw_C l D aC b yX10_sealOf cX10_sealOf 7 (some .int) 2 [.inl k, .inl kind, .inl id, .inl x, .inl a, .inl b1] C M P (some (.inl (xa_seal k kind id x a b1))) C M P := by
  refine ax_body (own := RX10) (ini := false) (by decide) rfl (fun h => by cases h) (Nat.le_of_ble_eq_true rfl) ?_
  refine qa_iload_n (pc1 := 1) dX10_sealOf_0 rfl rfl rfl ?_
  refine qa_iload_n (pc1 := 2) dX10_sealOf_1 rfl rfl rfl ?_
  refine qa_callSi (pc1 := 5) dX10_sealOf_2 rfl (rt_mix _ _) wc_X10_57 wy_X10_mix rfl rfl rfl ?_
  refine qa_istore (pc1 := 7) dX10_sealOf_5 (by decide) rfl ?_
  refine qa_iload (pc1 := 9) dX10_sealOf_7 rfl rfl ?_
  refine qa_iload_n (pc1 := 10) dX10_sealOf_9 rfl rfl rfl ?_
  refine qa_callSi (pc1 := 13) dX10_sealOf_10 rfl (rt_mix _ _) wc_X10_57 wy_X10_mix rfl rfl rfl ?_
  refine qa_istore (pc1 := 15) dX10_sealOf_13 (by decide) rfl ?_
  refine qa_iload (pc1 := 17) dX10_sealOf_15 rfl rfl ?_
  refine qa_iload_n (pc1 := 18) dX10_sealOf_17 rfl rfl rfl ?_
  refine qa_callSi (pc1 := 21) dX10_sealOf_18 rfl (rt_mix _ _) wc_X10_57 wy_X10_mix rfl rfl rfl ?_
  refine qa_istore (pc1 := 23) dX10_sealOf_21 (by decide) rfl ?_
  refine qa_iload (pc1 := 25) dX10_sealOf_23 rfl rfl ?_
  refine qa_iload (pc1 := 27) dX10_sealOf_25 rfl rfl ?_
  refine qa_callSi (pc1 := 30) dX10_sealOf_27 rfl (rt_mix _ _) wc_X10_57 wy_X10_mix rfl rfl rfl ?_
  refine qa_istore (pc1 := 32) dX10_sealOf_30 (by decide) rfl ?_
  refine qa_iload (pc1 := 34) dX10_sealOf_32 rfl rfl ?_
  refine qa_iload (pc1 := 36) dX10_sealOf_34 rfl rfl ?_
  refine qa_callSi (pc1 := 39) dX10_sealOf_36 rfl (rt_mix _ _) wc_X10_57 wy_X10_mix rfl rfl rfl ?_
  exact qa_iret dX10_sealOf_39 rfl (vp_nar_int _) rfl rfl rfl rfl
set_option maxRecDepth 20000 in
set_option maxHeartbeats 4000000 in
theorem rt_keyAt (hps : kw_ps P) (s o : Int32) (hl : xr_lk s o) : kw_C l D aC b yX10_keyAt cX10_keyAt 6 (some .int) 1 [.inr (.inl 176), .inl s, .inl o] C M P (some (.inl (xr_key M s o))) C M P := by
  refine ax_body (own := RX10) (ini := false) (by decide) rfl (fun h => by cases h) (Nat.le_of_ble_eq_true rfl) ?_
  refine qa_iload_n (pc1 := 1) dX10_keyAt_0 rfl rfl rfl ?_
  refine qa_iload_n (pc1 := 2) dX10_keyAt_1 rfl rfl rfl ?_
  refine qa_ic_ge (tgt := 9) (pc1 := 5) dX10_keyAt_2 rfl rfl (fun h2 => ?_) (fun h2 => ?_)
  · refine qa_iload_n (pc1 := 10) dX10_keyAt_9 rfl rfl rfl ?_
    refine qa_istore_n (pc1 := 11) dX10_keyAt_10 rfl (by decide) rfl ?_
    refine qa_iload_n (pc1 := 12) dX10_keyAt_11 rfl rfl rfl ?_
    refine qa_iload_n (pc1 := 13) dX10_keyAt_12 rfl rfl rfl ?_
    refine qa_ic_ge (tgt := 20) (pc1 := 16) dX10_keyAt_13 rfl rfl (fun h13 => ?_) (fun h13 => ?_)
    · refine qa_iload_n (pc1 := 21) dX10_keyAt_20 rfl rfl rfl ?_
      refine qa_istore (pc1 := 23) dX10_keyAt_21 (by decide) rfl ?_
      refine qa_iload_n (pc1 := 24) dX10_keyAt_23 rfl rfl rfl ?_
      refine qa_iconst (pc1 := 25) dX10_keyAt_24 (v := 2) kc_i2 rfl ?_
      refine qa_ic_ge (tgt := 32) (pc1 := 28) dX10_keyAt_25 rfl rfl (fun h25 => ?_) (fun h25 => ?_)
      · refine qa_iload (pc1 := 34) dX10_keyAt_32 rfl rfl ?_
        refine qa_iconst (pc1 := 35) dX10_keyAt_34 (v := 1) kc_i1 rfl ?_
        refine qa_isub (pc1 := 36) dX10_keyAt_35 rfl ?_
        refine qa_istore (pc1 := 38) dX10_keyAt_36 (by decide) rfl ?_
        refine qa_iload_n (pc1 := 39) dX10_keyAt_38 rfl rfl rfl ?_
        refine qa_iload_n (pc1 := 40) dX10_keyAt_39 rfl rfl rfl ?_
        refine qa_ic_ge (tgt := 53) (pc1 := 43) dX10_keyAt_40 rfl rfl (fun h40 => ?_) (fun h40 => ?_)
        · refine qa_aload_n (pc1 := 54) dX10_keyAt_53 rfl rfl rfl ?_
          refine qa_getP (pc1 := 57) dX10_keyAt_54 rfl wf_X10_13 rfl ko_mo (by omega) (show P 176 1 = 178 from kp_mo hps (by decide : kw_mo 1 ≠ 0)) ?_
          refine qa_iload (pc1 := 59) dX10_keyAt_57 rfl rfl ?_
          refine qr_ialdx (pc1 := 60) dX10_keyAt_59 rfl ka_m178 rfl (by omega) (by omega) (by have h9 := hl; simp only [xr_lk, xr_link, xr_lo, xr_hi] at h9; grind) ?_
          exact qa_iret dX10_keyAt_60 rfl (vp_nar_int _) (by simp only [xr_key, xr_link, xr_lo, xr_hi]; grind) rfl rfl rfl
        · refine qa_aload_n (pc1 := 44) dX10_keyAt_43 rfl rfl rfl ?_
          refine qa_getP (pc1 := 47) dX10_keyAt_44 rfl wf_X10_7 rfl ko_mo (by omega) (show P 176 0 = 177 from kp_mo hps (by decide : kw_mo 0 ≠ 0)) ?_
          refine qa_iload (pc1 := 49) dX10_keyAt_47 rfl rfl ?_
          refine qr_ialdx (pc1 := 50) dX10_keyAt_49 rfl ka_m177 rfl (by omega) (by omega) (by have h9 := hl; simp only [xr_lk, xr_link, xr_lo, xr_hi] at h9; grind) ?_
          refine qa_goto (tgt := 60) dX10_keyAt_50 rfl ?_
          exact qa_iret dX10_keyAt_60 rfl (vp_nar_int _) (by simp only [xr_key, xr_link, xr_lo, xr_hi]; grind) rfl rfl rfl
      · refine qa_iload_n (pc1 := 29) dX10_keyAt_28 rfl rfl rfl ?_
        refine qa_goto (tgt := 36) dX10_keyAt_29 rfl ?_
        refine qa_istore (pc1 := 38) dX10_keyAt_36 (by decide) rfl ?_
        refine qa_iload_n (pc1 := 39) dX10_keyAt_38 rfl rfl rfl ?_
        refine qa_iload_n (pc1 := 40) dX10_keyAt_39 rfl rfl rfl ?_
        refine qa_ic_ge (tgt := 53) (pc1 := 43) dX10_keyAt_40 rfl rfl (fun h40 => ?_) (fun h40 => ?_)
        · refine qa_aload_n (pc1 := 54) dX10_keyAt_53 rfl rfl rfl ?_
          refine qa_getP (pc1 := 57) dX10_keyAt_54 rfl wf_X10_13 rfl ko_mo (by omega) (show P 176 1 = 178 from kp_mo hps (by decide : kw_mo 1 ≠ 0)) ?_
          refine qa_iload (pc1 := 59) dX10_keyAt_57 rfl rfl ?_
          refine qr_ialdx (pc1 := 60) dX10_keyAt_59 rfl ka_m178 rfl (by omega) (by omega) (by have h9 := hl; simp only [xr_lk, xr_link, xr_lo, xr_hi] at h9; grind) ?_
          exact qa_iret dX10_keyAt_60 rfl (vp_nar_int _) (by simp only [xr_key, xr_link, xr_lo, xr_hi]; grind) rfl rfl rfl
        · refine qa_aload_n (pc1 := 44) dX10_keyAt_43 rfl rfl rfl ?_
          refine qa_getP (pc1 := 47) dX10_keyAt_44 rfl wf_X10_7 rfl ko_mo (by omega) (show P 176 0 = 177 from kp_mo hps (by decide : kw_mo 0 ≠ 0)) ?_
          refine qa_iload (pc1 := 49) dX10_keyAt_47 rfl rfl ?_
          refine qr_ialdx (pc1 := 50) dX10_keyAt_49 rfl ka_m177 rfl (by omega) (by omega) (by have h9 := hl; simp only [xr_lk, xr_link, xr_lo, xr_hi] at h9; grind) ?_
          refine qa_goto (tgt := 60) dX10_keyAt_50 rfl ?_
          exact qa_iret dX10_keyAt_60 rfl (vp_nar_int _) (by simp only [xr_key, xr_link, xr_lo, xr_hi]; grind) rfl rfl rfl
    · refine qa_iload_n (pc1 := 17) dX10_keyAt_16 rfl rfl rfl ?_
      refine qa_goto (tgt := 21) dX10_keyAt_17 rfl ?_
      refine qa_istore (pc1 := 23) dX10_keyAt_21 (by decide) rfl ?_
      refine qa_iload_n (pc1 := 24) dX10_keyAt_23 rfl rfl rfl ?_
      refine qa_iconst (pc1 := 25) dX10_keyAt_24 (v := 2) kc_i2 rfl ?_
      refine qa_ic_ge (tgt := 32) (pc1 := 28) dX10_keyAt_25 rfl rfl (fun h25 => ?_) (fun h25 => ?_)
      · refine qa_iload (pc1 := 34) dX10_keyAt_32 rfl rfl ?_
        refine qa_iconst (pc1 := 35) dX10_keyAt_34 (v := 1) kc_i1 rfl ?_
        refine qa_isub (pc1 := 36) dX10_keyAt_35 rfl ?_
        refine qa_istore (pc1 := 38) dX10_keyAt_36 (by decide) rfl ?_
        refine qa_iload_n (pc1 := 39) dX10_keyAt_38 rfl rfl rfl ?_
        refine qa_iload_n (pc1 := 40) dX10_keyAt_39 rfl rfl rfl ?_
        refine qa_ic_ge (tgt := 53) (pc1 := 43) dX10_keyAt_40 rfl rfl (fun h40 => ?_) (fun h40 => ?_)
        · refine qa_aload_n (pc1 := 54) dX10_keyAt_53 rfl rfl rfl ?_
          refine qa_getP (pc1 := 57) dX10_keyAt_54 rfl wf_X10_13 rfl ko_mo (by omega) (show P 176 1 = 178 from kp_mo hps (by decide : kw_mo 1 ≠ 0)) ?_
          refine qa_iload (pc1 := 59) dX10_keyAt_57 rfl rfl ?_
          refine qr_ialdx (pc1 := 60) dX10_keyAt_59 rfl ka_m178 rfl (by omega) (by omega) (by have h9 := hl; simp only [xr_lk, xr_link, xr_lo, xr_hi] at h9; grind) ?_
          exact qa_iret dX10_keyAt_60 rfl (vp_nar_int _) (by simp only [xr_key, xr_link, xr_lo, xr_hi]; grind) rfl rfl rfl
        · refine qa_aload_n (pc1 := 44) dX10_keyAt_43 rfl rfl rfl ?_
          refine qa_getP (pc1 := 47) dX10_keyAt_44 rfl wf_X10_7 rfl ko_mo (by omega) (show P 176 0 = 177 from kp_mo hps (by decide : kw_mo 0 ≠ 0)) ?_
          refine qa_iload (pc1 := 49) dX10_keyAt_47 rfl rfl ?_
          refine qr_ialdx (pc1 := 50) dX10_keyAt_49 rfl ka_m177 rfl (by omega) (by omega) (by have h9 := hl; simp only [xr_lk, xr_link, xr_lo, xr_hi] at h9; grind) ?_
          refine qa_goto (tgt := 60) dX10_keyAt_50 rfl ?_
          exact qa_iret dX10_keyAt_60 rfl (vp_nar_int _) (by simp only [xr_key, xr_link, xr_lo, xr_hi]; grind) rfl rfl rfl
      · refine qa_iload_n (pc1 := 29) dX10_keyAt_28 rfl rfl rfl ?_
        refine qa_goto (tgt := 36) dX10_keyAt_29 rfl ?_
        refine qa_istore (pc1 := 38) dX10_keyAt_36 (by decide) rfl ?_
        refine qa_iload_n (pc1 := 39) dX10_keyAt_38 rfl rfl rfl ?_
        refine qa_iload_n (pc1 := 40) dX10_keyAt_39 rfl rfl rfl ?_
        refine qa_ic_ge (tgt := 53) (pc1 := 43) dX10_keyAt_40 rfl rfl (fun h40 => ?_) (fun h40 => ?_)
        · refine qa_aload_n (pc1 := 54) dX10_keyAt_53 rfl rfl rfl ?_
          refine qa_getP (pc1 := 57) dX10_keyAt_54 rfl wf_X10_13 rfl ko_mo (by omega) (show P 176 1 = 178 from kp_mo hps (by decide : kw_mo 1 ≠ 0)) ?_
          refine qa_iload (pc1 := 59) dX10_keyAt_57 rfl rfl ?_
          refine qr_ialdx (pc1 := 60) dX10_keyAt_59 rfl ka_m178 rfl (by omega) (by omega) (by have h9 := hl; simp only [xr_lk, xr_link, xr_lo, xr_hi] at h9; grind) ?_
          exact qa_iret dX10_keyAt_60 rfl (vp_nar_int _) (by simp only [xr_key, xr_link, xr_lo, xr_hi]; grind) rfl rfl rfl
        · refine qa_aload_n (pc1 := 44) dX10_keyAt_43 rfl rfl rfl ?_
          refine qa_getP (pc1 := 47) dX10_keyAt_44 rfl wf_X10_7 rfl ko_mo (by omega) (show P 176 0 = 177 from kp_mo hps (by decide : kw_mo 0 ≠ 0)) ?_
          refine qa_iload (pc1 := 49) dX10_keyAt_47 rfl rfl ?_
          refine qr_ialdx (pc1 := 50) dX10_keyAt_49 rfl ka_m177 rfl (by omega) (by omega) (by have h9 := hl; simp only [xr_lk, xr_link, xr_lo, xr_hi] at h9; grind) ?_
          refine qa_goto (tgt := 60) dX10_keyAt_50 rfl ?_
          exact qa_iret dX10_keyAt_60 rfl (vp_nar_int _) (by simp only [xr_key, xr_link, xr_lo, xr_hi]; grind) rfl rfl rfl
  · refine qa_iload_n (pc1 := 6) dX10_keyAt_5 rfl rfl rfl ?_
    refine qa_goto (tgt := 10) dX10_keyAt_6 rfl ?_
    refine qa_istore_n (pc1 := 11) dX10_keyAt_10 rfl (by decide) rfl ?_
    refine qa_iload_n (pc1 := 12) dX10_keyAt_11 rfl rfl rfl ?_
    refine qa_iload_n (pc1 := 13) dX10_keyAt_12 rfl rfl rfl ?_
    refine qa_ic_ge (tgt := 20) (pc1 := 16) dX10_keyAt_13 rfl rfl (fun h13 => ?_) (fun h13 => ?_)
    · refine qa_iload_n (pc1 := 21) dX10_keyAt_20 rfl rfl rfl ?_
      refine qa_istore (pc1 := 23) dX10_keyAt_21 (by decide) rfl ?_
      refine qa_iload_n (pc1 := 24) dX10_keyAt_23 rfl rfl rfl ?_
      refine qa_iconst (pc1 := 25) dX10_keyAt_24 (v := 2) kc_i2 rfl ?_
      refine qa_ic_ge (tgt := 32) (pc1 := 28) dX10_keyAt_25 rfl rfl (fun h25 => ?_) (fun h25 => ?_)
      · refine qa_iload (pc1 := 34) dX10_keyAt_32 rfl rfl ?_
        refine qa_iconst (pc1 := 35) dX10_keyAt_34 (v := 1) kc_i1 rfl ?_
        refine qa_isub (pc1 := 36) dX10_keyAt_35 rfl ?_
        refine qa_istore (pc1 := 38) dX10_keyAt_36 (by decide) rfl ?_
        refine qa_iload_n (pc1 := 39) dX10_keyAt_38 rfl rfl rfl ?_
        refine qa_iload_n (pc1 := 40) dX10_keyAt_39 rfl rfl rfl ?_
        refine qa_ic_ge (tgt := 53) (pc1 := 43) dX10_keyAt_40 rfl rfl (fun h40 => ?_) (fun h40 => ?_)
        · refine qa_aload_n (pc1 := 54) dX10_keyAt_53 rfl rfl rfl ?_
          refine qa_getP (pc1 := 57) dX10_keyAt_54 rfl wf_X10_13 rfl ko_mo (by omega) (show P 176 1 = 178 from kp_mo hps (by decide : kw_mo 1 ≠ 0)) ?_
          refine qa_iload (pc1 := 59) dX10_keyAt_57 rfl rfl ?_
          refine qr_ialdx (pc1 := 60) dX10_keyAt_59 rfl ka_m178 rfl (by omega) (by omega) (by have h9 := hl; simp only [xr_lk, xr_link, xr_lo, xr_hi] at h9; grind) ?_
          exact qa_iret dX10_keyAt_60 rfl (vp_nar_int _) (by simp only [xr_key, xr_link, xr_lo, xr_hi]; grind) rfl rfl rfl
        · refine qa_aload_n (pc1 := 44) dX10_keyAt_43 rfl rfl rfl ?_
          refine qa_getP (pc1 := 47) dX10_keyAt_44 rfl wf_X10_7 rfl ko_mo (by omega) (show P 176 0 = 177 from kp_mo hps (by decide : kw_mo 0 ≠ 0)) ?_
          refine qa_iload (pc1 := 49) dX10_keyAt_47 rfl rfl ?_
          refine qr_ialdx (pc1 := 50) dX10_keyAt_49 rfl ka_m177 rfl (by omega) (by omega) (by have h9 := hl; simp only [xr_lk, xr_link, xr_lo, xr_hi] at h9; grind) ?_
          refine qa_goto (tgt := 60) dX10_keyAt_50 rfl ?_
          exact qa_iret dX10_keyAt_60 rfl (vp_nar_int _) (by simp only [xr_key, xr_link, xr_lo, xr_hi]; grind) rfl rfl rfl
      · refine qa_iload_n (pc1 := 29) dX10_keyAt_28 rfl rfl rfl ?_
        refine qa_goto (tgt := 36) dX10_keyAt_29 rfl ?_
        refine qa_istore (pc1 := 38) dX10_keyAt_36 (by decide) rfl ?_
        refine qa_iload_n (pc1 := 39) dX10_keyAt_38 rfl rfl rfl ?_
        refine qa_iload_n (pc1 := 40) dX10_keyAt_39 rfl rfl rfl ?_
        refine qa_ic_ge (tgt := 53) (pc1 := 43) dX10_keyAt_40 rfl rfl (fun h40 => ?_) (fun h40 => ?_)
        · refine qa_aload_n (pc1 := 54) dX10_keyAt_53 rfl rfl rfl ?_
          refine qa_getP (pc1 := 57) dX10_keyAt_54 rfl wf_X10_13 rfl ko_mo (by omega) (show P 176 1 = 178 from kp_mo hps (by decide : kw_mo 1 ≠ 0)) ?_
          refine qa_iload (pc1 := 59) dX10_keyAt_57 rfl rfl ?_
          refine qr_ialdx (pc1 := 60) dX10_keyAt_59 rfl ka_m178 rfl (by omega) (by omega) (by have h9 := hl; simp only [xr_lk, xr_link, xr_lo, xr_hi] at h9; grind) ?_
          exact qa_iret dX10_keyAt_60 rfl (vp_nar_int _) (by simp only [xr_key, xr_link, xr_lo, xr_hi]; grind) rfl rfl rfl
        · refine qa_aload_n (pc1 := 44) dX10_keyAt_43 rfl rfl rfl ?_
          refine qa_getP (pc1 := 47) dX10_keyAt_44 rfl wf_X10_7 rfl ko_mo (by omega) (show P 176 0 = 177 from kp_mo hps (by decide : kw_mo 0 ≠ 0)) ?_
          refine qa_iload (pc1 := 49) dX10_keyAt_47 rfl rfl ?_
          refine qr_ialdx (pc1 := 50) dX10_keyAt_49 rfl ka_m177 rfl (by omega) (by omega) (by have h9 := hl; simp only [xr_lk, xr_link, xr_lo, xr_hi] at h9; grind) ?_
          refine qa_goto (tgt := 60) dX10_keyAt_50 rfl ?_
          exact qa_iret dX10_keyAt_60 rfl (vp_nar_int _) (by simp only [xr_key, xr_link, xr_lo, xr_hi]; grind) rfl rfl rfl
    · refine qa_iload_n (pc1 := 17) dX10_keyAt_16 rfl rfl rfl ?_
      refine qa_goto (tgt := 21) dX10_keyAt_17 rfl ?_
      refine qa_istore (pc1 := 23) dX10_keyAt_21 (by decide) rfl ?_
      refine qa_iload_n (pc1 := 24) dX10_keyAt_23 rfl rfl rfl ?_
      refine qa_iconst (pc1 := 25) dX10_keyAt_24 (v := 2) kc_i2 rfl ?_
      refine qa_ic_ge (tgt := 32) (pc1 := 28) dX10_keyAt_25 rfl rfl (fun h25 => ?_) (fun h25 => ?_)
      · refine qa_iload (pc1 := 34) dX10_keyAt_32 rfl rfl ?_
        refine qa_iconst (pc1 := 35) dX10_keyAt_34 (v := 1) kc_i1 rfl ?_
        refine qa_isub (pc1 := 36) dX10_keyAt_35 rfl ?_
        refine qa_istore (pc1 := 38) dX10_keyAt_36 (by decide) rfl ?_
        refine qa_iload_n (pc1 := 39) dX10_keyAt_38 rfl rfl rfl ?_
        refine qa_iload_n (pc1 := 40) dX10_keyAt_39 rfl rfl rfl ?_
        refine qa_ic_ge (tgt := 53) (pc1 := 43) dX10_keyAt_40 rfl rfl (fun h40 => ?_) (fun h40 => ?_)
        · refine qa_aload_n (pc1 := 54) dX10_keyAt_53 rfl rfl rfl ?_
          refine qa_getP (pc1 := 57) dX10_keyAt_54 rfl wf_X10_13 rfl ko_mo (by omega) (show P 176 1 = 178 from kp_mo hps (by decide : kw_mo 1 ≠ 0)) ?_
          refine qa_iload (pc1 := 59) dX10_keyAt_57 rfl rfl ?_
          refine qr_ialdx (pc1 := 60) dX10_keyAt_59 rfl ka_m178 rfl (by omega) (by omega) (by have h9 := hl; simp only [xr_lk, xr_link, xr_lo, xr_hi] at h9; grind) ?_
          exact qa_iret dX10_keyAt_60 rfl (vp_nar_int _) (by simp only [xr_key, xr_link, xr_lo, xr_hi]; grind) rfl rfl rfl
        · refine qa_aload_n (pc1 := 44) dX10_keyAt_43 rfl rfl rfl ?_
          refine qa_getP (pc1 := 47) dX10_keyAt_44 rfl wf_X10_7 rfl ko_mo (by omega) (show P 176 0 = 177 from kp_mo hps (by decide : kw_mo 0 ≠ 0)) ?_
          refine qa_iload (pc1 := 49) dX10_keyAt_47 rfl rfl ?_
          refine qr_ialdx (pc1 := 50) dX10_keyAt_49 rfl ka_m177 rfl (by omega) (by omega) (by have h9 := hl; simp only [xr_lk, xr_link, xr_lo, xr_hi] at h9; grind) ?_
          refine qa_goto (tgt := 60) dX10_keyAt_50 rfl ?_
          exact qa_iret dX10_keyAt_60 rfl (vp_nar_int _) (by simp only [xr_key, xr_link, xr_lo, xr_hi]; grind) rfl rfl rfl
      · refine qa_iload_n (pc1 := 29) dX10_keyAt_28 rfl rfl rfl ?_
        refine qa_goto (tgt := 36) dX10_keyAt_29 rfl ?_
        refine qa_istore (pc1 := 38) dX10_keyAt_36 (by decide) rfl ?_
        refine qa_iload_n (pc1 := 39) dX10_keyAt_38 rfl rfl rfl ?_
        refine qa_iload_n (pc1 := 40) dX10_keyAt_39 rfl rfl rfl ?_
        refine qa_ic_ge (tgt := 53) (pc1 := 43) dX10_keyAt_40 rfl rfl (fun h40 => ?_) (fun h40 => ?_)
        · refine qa_aload_n (pc1 := 54) dX10_keyAt_53 rfl rfl rfl ?_
          refine qa_getP (pc1 := 57) dX10_keyAt_54 rfl wf_X10_13 rfl ko_mo (by omega) (show P 176 1 = 178 from kp_mo hps (by decide : kw_mo 1 ≠ 0)) ?_
          refine qa_iload (pc1 := 59) dX10_keyAt_57 rfl rfl ?_
          refine qr_ialdx (pc1 := 60) dX10_keyAt_59 rfl ka_m178 rfl (by omega) (by omega) (by have h9 := hl; simp only [xr_lk, xr_link, xr_lo, xr_hi] at h9; grind) ?_
          exact qa_iret dX10_keyAt_60 rfl (vp_nar_int _) (by simp only [xr_key, xr_link, xr_lo, xr_hi]; grind) rfl rfl rfl
        · refine qa_aload_n (pc1 := 44) dX10_keyAt_43 rfl rfl rfl ?_
          refine qa_getP (pc1 := 47) dX10_keyAt_44 rfl wf_X10_7 rfl ko_mo (by omega) (show P 176 0 = 177 from kp_mo hps (by decide : kw_mo 0 ≠ 0)) ?_
          refine qa_iload (pc1 := 49) dX10_keyAt_47 rfl rfl ?_
          refine qr_ialdx (pc1 := 50) dX10_keyAt_49 rfl ka_m177 rfl (by omega) (by omega) (by have h9 := hl; simp only [xr_lk, xr_link, xr_lo, xr_hi] at h9; grind) ?_
          refine qa_goto (tgt := 60) dX10_keyAt_50 rfl ?_
          exact qa_iret dX10_keyAt_60 rfl (vp_nar_int _) (by simp only [xr_key, xr_link, xr_lo, xr_hi]; grind) rfl rfl rfl
set_option maxRecDepth 20000 in
set_option maxHeartbeats 4000000 in
theorem rt_request (x : Int32) : kw_C l D aC b yX10_request cX10_request 1 (some .boolean) 1 [.inl x] C M P (some (.inl (kw_b (x = 0 ∨ x = 3)))) C M P := by
  refine ax_body (own := RX10) (ini := false) (by decide) rfl (fun h => by cases h) (Nat.le_of_ble_eq_true rfl) ?_
  refine qa_iload_n (pc1 := 1) dX10_request_0 rfl rfl rfl ?_
  refine qa_if_eq (tgt := 9) (pc1 := 4) dX10_request_1 rfl rfl (fun h1 => ?_) (fun h1 => ?_)
  · refine qa_iconst (pc1 := 10) dX10_request_9 (v := 1) kc_i1 rfl ?_
    refine qa_goto (tgt := 14) dX10_request_10 rfl ?_
    exact qa_iret dX10_request_14 rfl (by first | rfl | exact kw_bn) (by simp only [kw_b]; grind) rfl rfl rfl
  · refine qa_iload_n (pc1 := 5) dX10_request_4 rfl rfl rfl ?_
    refine qa_iconst (pc1 := 6) dX10_request_5 (v := 3) kc_i3 rfl ?_
    refine qa_ic_ne (tgt := 13) (pc1 := 9) dX10_request_6 rfl rfl (fun h6 => ?_) (fun h6 => ?_)
    · refine qa_iconst (pc1 := 14) dX10_request_13 (v := 0) kc_i0 rfl ?_
      exact qa_iret dX10_request_14 rfl (by first | rfl | exact kw_bn) (by simp only [kw_b]; grind) rfl rfl rfl
    · refine qa_iconst (pc1 := 10) dX10_request_9 (v := 1) kc_i1 rfl ?_
      refine qa_goto (tgt := 14) dX10_request_10 rfl ?_
      exact qa_iret dX10_request_14 rfl (by first | rfl | exact kw_bn) (by simp only [kw_b]; grind) rfl rfl rfl
set_option maxRecDepth 20000 in
set_option maxHeartbeats 4000000 in
theorem rt_answers (x : Int32) : kw_C l D aC b yX10_answers cX10_answers 1 (some .boolean) 1 [.inl x] C M P (some (.inl (kw_b (x = 1 ∨ x = 2 ∨ x = 4)))) C M P := by
  refine ax_body (own := RX10) (ini := false) (by decide) rfl (fun h => by cases h) (Nat.le_of_ble_eq_true rfl) ?_
  refine qa_iload_n (pc1 := 1) dX10_answers_0 rfl rfl rfl ?_
  refine qa_iconst (pc1 := 2) dX10_answers_1 (v := 1) kc_i1 rfl ?_
  refine qa_ic_eq (tgt := 15) (pc1 := 5) dX10_answers_2 rfl rfl (fun h2 => ?_) (fun h2 => ?_)
  · refine qa_iconst (pc1 := 16) dX10_answers_15 (v := 1) kc_i1 rfl ?_
    refine qa_goto (tgt := 20) dX10_answers_16 rfl ?_
    exact qa_iret dX10_answers_20 rfl (by first | rfl | exact kw_bn) (by simp only [kw_b]; grind) rfl rfl rfl
  · refine qa_iload_n (pc1 := 6) dX10_answers_5 rfl rfl rfl ?_
    refine qa_iconst (pc1 := 7) dX10_answers_6 (v := 2) kc_i2 rfl ?_
    refine qa_ic_eq (tgt := 15) (pc1 := 10) dX10_answers_7 rfl rfl (fun h7 => ?_) (fun h7 => ?_)
    · refine qa_iconst (pc1 := 16) dX10_answers_15 (v := 1) kc_i1 rfl ?_
      refine qa_goto (tgt := 20) dX10_answers_16 rfl ?_
      exact qa_iret dX10_answers_20 rfl (by first | rfl | exact kw_bn) (by simp only [kw_b]; grind) rfl rfl rfl
    · refine qa_iload_n (pc1 := 11) dX10_answers_10 rfl rfl rfl ?_
      refine qa_iconst (pc1 := 12) dX10_answers_11 (v := 4) kc_i4 rfl ?_
      refine qa_ic_ne (tgt := 19) (pc1 := 15) dX10_answers_12 rfl rfl (fun h12 => ?_) (fun h12 => ?_)
      · refine qa_iconst (pc1 := 20) dX10_answers_19 (v := 0) kc_i0 rfl ?_
        exact qa_iret dX10_answers_20 rfl (by first | rfl | exact kw_bn) (by simp only [kw_b]; grind) rfl rfl rfl
      · refine qa_iconst (pc1 := 16) dX10_answers_15 (v := 1) kc_i1 rfl ?_
        refine qa_goto (tgt := 20) dX10_answers_16 rfl ?_
        exact qa_iret dX10_answers_20 rfl (by first | rfl | exact kw_bn) (by simp only [kw_b]; grind) rfl rfl rfl
set_option maxRecDepth 20000 in
set_option maxHeartbeats 4000000 in
theorem rt_keyI (hps : kw_ps P) {k : Nat} (hk4 : k < 4) (x y : Int32) : kw_C l D aC b yX10_key cX10_key 4 (some .boolean) 1 [.inr (.inl 176), .inl (nI k), .inl x, .inl y] C M P (some (.inl 1)) C (ax_u (ax_u M 177 k x) 178 k y) P := by
  refine ax_body (own := RX10) (ini := false) (by decide) rfl (fun h => by cases h) (Nat.le_of_ble_eq_true rfl) ?_
  refine qa_iload_n (pc1 := 1) dX10_key_0 rfl rfl rfl ?_
  refine qn_if_lt (tgt := 9) (pc1 := 4) dX10_key_1 rfl rfl (by omega) ?_
  refine qa_iload_n (pc1 := 5) dX10_key_4 rfl rfl rfl ?_
  refine qa_iconst (pc1 := 6) dX10_key_5 (v := 3) kc_i3 rfl ?_
  refine qt_ic_le (tgt := 11) dX10_key_6 rfl (nI_le (a := k) (b := 3) (by omega) (by decide)) ?_
  refine qa_aload_n (pc1 := 12) dX10_key_11 rfl rfl rfl ?_
  refine qa_getP (pc1 := 15) dX10_key_12 rfl wf_X10_7 rfl ko_mo (by omega) (show P 176 0 = 177 from kp_mo hps (by decide : kw_mo 0 ≠ 0)) ?_
  refine qa_iload_n (pc1 := 16) dX10_key_15 rfl rfl rfl ?_
  refine qa_iload_n (pc1 := 17) dX10_key_16 rfl rfl rfl ?_
  refine qr_iast (pc1 := 18) dX10_key_17 rfl ka_m177 rfl (by omega) (by omega) (by omega) ?_
  refine qa_aload_n (pc1 := 19) dX10_key_18 rfl rfl rfl ?_
  refine qa_getP (pc1 := 22) dX10_key_19 rfl wf_X10_13 rfl ko_mo (by omega) (show P 176 1 = 178 from kp_mo hps (by decide : kw_mo 1 ≠ 0)) ?_
  refine qa_iload_n (pc1 := 23) dX10_key_22 rfl rfl rfl ?_
  refine qa_iload_n (pc1 := 24) dX10_key_23 rfl rfl rfl ?_
  refine qr_iast (pc1 := 25) dX10_key_24 rfl ka_m178 rfl (by omega) (by omega) (by omega) ?_
  refine qa_iconst (pc1 := 26) dX10_key_25 (v := 1) kc_i1 rfl ?_
  exact qa_iret dX10_key_26 rfl (by first | rfl | exact kw_bn) rfl rfl rfl rfl
set_option maxRecDepth 20000 in
set_option maxHeartbeats 4000000 in
theorem rt_keyO (s x y : Int32) (hs : ¬ vp_in s 4) : kw_C l D aC b yX10_key cX10_key 4 (some .boolean) 1 [.inr (.inl 176), .inl s, .inl x, .inl y] C M P (some (.inl 0)) C M P := by
  refine ax_body (own := RX10) (ini := false) (by decide) rfl (fun h => by cases h) (Nat.le_of_ble_eq_true rfl) ?_
  refine qa_iload_n (pc1 := 1) dX10_key_0 rfl rfl rfl ?_
  refine qa_if_lt (tgt := 9) (pc1 := 4) dX10_key_1 rfl rfl (fun h1 => ?_) (fun h1 => ?_)
  · refine qa_iconst (pc1 := 10) dX10_key_9 (v := 0) kc_i0 rfl ?_
    exact qa_iret dX10_key_10 rfl (by first | rfl | exact kw_bn) rfl rfl rfl rfl
  · refine qa_iload_n (pc1 := 5) dX10_key_4 rfl rfl rfl ?_
    refine qa_iconst (pc1 := 6) dX10_key_5 (v := 3) kc_i3 rfl ?_
    refine qa_ic_le (tgt := 11) (pc1 := 9) dX10_key_6 rfl rfl (fun h6 => ?_) (fun h6 => ?_)
    · exact absurd (kw_inz rfl h1 h6) hs
    · refine qa_iconst (pc1 := 10) dX10_key_9 (v := 0) kc_i0 rfl ?_
      exact qa_iret dX10_key_10 rfl (by first | rfl | exact kw_bn) rfl rfl rfl rfl
set_option maxRecDepth 20000 in
set_option maxHeartbeats 4000000 in
theorem rt_enrolI (hps : kw_ps P) {u m : Nat} (hu : u < 12) (hm : m ≤ 6) (pw : Int32) : kw_C l D aC b yX10_enrol cX10_enrol 4 (some .boolean) 1 [.inr (.inl 176), .inl (nI u), .inl pw, .inl (nI m)] C M P (some (.inl 1)) C (ax_u (ax_u (ax_u M 179 u 1) 180 u pw) 181 u (nI m)) P := by
  refine ax_body (own := RX10) (ini := false) (by decide) rfl (fun h => by cases h) (Nat.le_of_ble_eq_true rfl) ?_
  refine qa_iload_n (pc1 := 1) dX10_enrol_0 rfl rfl rfl ?_
  refine qn_if_lt (tgt := 20) (pc1 := 4) dX10_enrol_1 rfl rfl (by omega) ?_
  refine qa_iload_n (pc1 := 5) dX10_enrol_4 rfl rfl rfl ?_
  refine qa_bipush (pc1 := 7) dX10_enrol_5 (v := 11) kc_b11 rfl ?_
  refine qf_ic_gt (tgt := 20) (pc1 := 10) dX10_enrol_7 rfl rfl (nI_nlt (a := 11) (b := u) (by omega) (by decide)) ?_
  refine qa_iload_n (pc1 := 11) dX10_enrol_10 rfl rfl rfl ?_
  refine qn_if_lt (tgt := 20) (pc1 := 14) dX10_enrol_11 rfl rfl (by omega) ?_
  refine qa_iload_n (pc1 := 15) dX10_enrol_14 rfl rfl rfl ?_
  refine qa_bipush (pc1 := 17) dX10_enrol_15 (v := 6) kc_b6 rfl ?_
  refine qt_ic_le (tgt := 22) dX10_enrol_17 rfl (nI_le (a := m) (b := 6) hm (by decide)) ?_
  refine qa_aload_n (pc1 := 23) dX10_enrol_22 rfl rfl rfl ?_
  refine qa_getP (pc1 := 26) dX10_enrol_23 rfl wf_X10_16 rfl ko_mo (by omega) (show P 176 2 = 179 from kp_mo hps (by decide : kw_mo 2 ≠ 0)) ?_
  refine qa_iload_n (pc1 := 27) dX10_enrol_26 rfl rfl rfl ?_
  refine qa_iconst (pc1 := 28) dX10_enrol_27 (v := 1) kc_i1 rfl ?_
  refine qr_zast (pc1 := 29) dX10_enrol_28 rfl ka_m179 rfl (by omega) (by omega) (by omega) (by decide) ?_
  refine qa_aload_n (pc1 := 30) dX10_enrol_29 rfl rfl rfl ?_
  refine qa_getP (pc1 := 33) dX10_enrol_30 rfl wf_X10_20 rfl ko_mo (by omega) (show P 176 3 = 180 from kp_mo hps (by decide : kw_mo 3 ≠ 0)) ?_
  refine qa_iload_n (pc1 := 34) dX10_enrol_33 rfl rfl rfl ?_
  refine qa_iload_n (pc1 := 35) dX10_enrol_34 rfl rfl rfl ?_
  refine qr_iast (pc1 := 36) dX10_enrol_35 rfl ka_m180 rfl (by omega) (by omega) (by omega) ?_
  refine qa_aload_n (pc1 := 37) dX10_enrol_36 rfl rfl rfl ?_
  refine qa_getP (pc1 := 40) dX10_enrol_37 rfl wf_X10_23 rfl ko_mo (by omega) (show P 176 4 = 181 from kp_mo hps (by decide : kw_mo 4 ≠ 0)) ?_
  refine qa_iload_n (pc1 := 41) dX10_enrol_40 rfl rfl rfl ?_
  refine qa_iload_n (pc1 := 42) dX10_enrol_41 rfl rfl rfl ?_
  refine qr_iast (pc1 := 43) dX10_enrol_42 rfl ka_m181 rfl (by omega) (by omega) (by omega) ?_
  refine qa_iconst (pc1 := 44) dX10_enrol_43 (v := 1) kc_i1 rfl ?_
  exact qa_iret dX10_enrol_44 rfl (by first | rfl | exact kw_bn) rfl rfl rfl rfl
set_option maxRecDepth 20000 in
set_option maxHeartbeats 4000000 in
theorem rt_enrolO (s x y : Int32) (hs : ¬ (¬ s < 0 ∧ ¬ 11 < s ∧ ¬ y < 0 ∧ y ≤ 6)) : kw_C l D aC b yX10_enrol cX10_enrol 4 (some .boolean) 1 [.inr (.inl 176), .inl s, .inl x, .inl y] C M P (some (.inl 0)) C M P := by
  refine ax_body (own := RX10) (ini := false) (by decide) rfl (fun h => by cases h) (Nat.le_of_ble_eq_true rfl) ?_
  refine qa_iload_n (pc1 := 1) dX10_enrol_0 rfl rfl rfl ?_
  refine qa_if_lt (tgt := 20) (pc1 := 4) dX10_enrol_1 rfl rfl (fun h1 => ?_) (fun h1 => ?_)
  · refine qa_iconst (pc1 := 21) dX10_enrol_20 (v := 0) kc_i0 rfl ?_
    exact qa_iret dX10_enrol_21 rfl (by first | rfl | exact kw_bn) rfl rfl rfl rfl
  · refine qa_iload_n (pc1 := 5) dX10_enrol_4 rfl rfl rfl ?_
    refine qa_bipush (pc1 := 7) dX10_enrol_5 (v := 11) kc_b11 rfl ?_
    refine qa_ic_gt (tgt := 20) (pc1 := 10) dX10_enrol_7 rfl rfl (fun h7 => ?_) (fun h7 => ?_)
    · refine qa_iconst (pc1 := 21) dX10_enrol_20 (v := 0) kc_i0 rfl ?_
      exact qa_iret dX10_enrol_21 rfl (by first | rfl | exact kw_bn) rfl rfl rfl rfl
    · refine qa_iload_n (pc1 := 11) dX10_enrol_10 rfl rfl rfl ?_
      refine qa_if_lt (tgt := 20) (pc1 := 14) dX10_enrol_11 rfl rfl (fun h11 => ?_) (fun h11 => ?_)
      · refine qa_iconst (pc1 := 21) dX10_enrol_20 (v := 0) kc_i0 rfl ?_
        exact qa_iret dX10_enrol_21 rfl (by first | rfl | exact kw_bn) rfl rfl rfl rfl
      · refine qa_iload_n (pc1 := 15) dX10_enrol_14 rfl rfl rfl ?_
        refine qa_bipush (pc1 := 17) dX10_enrol_15 (v := 6) kc_b6 rfl ?_
        refine qa_ic_le (tgt := 22) (pc1 := 20) dX10_enrol_17 rfl rfl (fun h17 => ?_) (fun h17 => ?_)
        · exact absurd ⟨h1, h7, h11, h17⟩ hs
        · refine qa_iconst (pc1 := 21) dX10_enrol_20 (v := 0) kc_i0 rfl ?_
          exact qa_iret dX10_enrol_21 rfl (by first | rfl | exact kw_bn) rfl rfl rfl rfl
set_option maxRecDepth 20000 in
set_option maxHeartbeats 4000000 in
theorem rt_putF (hf : M 176 7 = 24) (s r kind id x a b1 : Int32) : kw_C l D aC b yX10_put cX10_put 10 none 3 [.inr (.inl 176), .inl s, .inl r, .inl kind, .inl id, .inl x, .inl a, .inl b1] C M P none C M P := by
  refine ax_body (own := RX10) (ini := false) (by decide) rfl (fun h => by cases h) (Nat.le_of_ble_eq_true rfl) ?_
  refine qa_aload_n (pc1 := 1) dX10_put_0 rfl rfl rfl ?_
  refine qr_getI (pc1 := 4) dX10_put_1 rfl wf_X10_61 rfl ko_mo (by omega) (by omega) ?_
  refine qa_bipush (pc1 := 6) dX10_put_4 (v := 24) kc_b24 rfl ?_
  refine qf_ic_ne (tgt := 10) (pc1 := 9) dX10_put_6 rfl rfl hf ?_
  exact qa_vret dX10_put_9 rfl rfl rfl rfl rfl
set_option maxRecDepth 20000 in
set_option maxHeartbeats 4000000 in
theorem rt_put (hps : kw_ps P) {n : Nat} (hn : n < 24) (hc : M 176 7 = nI n) (s r kind id x a b1 : Int32) (hl : xr_lk s r) : kw_C l D aC b yX10_put cX10_put 10 none 3 [.inr (.inl 176), .inl s, .inl r, .inl kind, .inl id, .inl x, .inl a, .inl b1] C M P none C (xr_put M n s r kind id x a b1) P := by
  refine ax_body (own := RX10) (ini := false) (by decide) rfl (fun h => by cases h) (Nat.le_of_ble_eq_true rfl) ?_
  refine qa_aload_n (pc1 := 1) dX10_put_0 rfl rfl rfl ?_
  refine qr_getI (pc1 := 4) dX10_put_1 rfl wf_X10_61 rfl ko_mo (by omega) (by omega) ?_
  refine qa_bipush (pc1 := 6) dX10_put_4 (v := 24) kc_b24 rfl ?_
  refine qt_ic_ne (tgt := 10) dX10_put_6 rfl (by rw [hc]; exact fun e => absurd ((nI_eq (a := n) (b := 24) (by omega) (by decide)).mp e) (by omega)) ?_
  refine qa_bipush (pc1 := 12) dX10_put_10 (v := (nI 8)) kc_b8N rfl ?_
  refine qa_aload_n (pc1 := 13) dX10_put_12 rfl rfl rfl ?_
  refine qr_getI (pc1 := 16) dX10_put_13 rfl wf_X10_61 rfl ko_mo (by omega) (by omega) ?_
  refine qa_top hc ?_
  refine qn_imul (pc1 := 17) dX10_put_16 rfl ?_
  refine qa_istore (pc1 := 19) dX10_put_17 (by decide) rfl ?_
  refine qa_aload_n (pc1 := 20) dX10_put_19 rfl rfl rfl ?_
  refine qa_iload_n (pc1 := 21) dX10_put_20 rfl rfl rfl ?_
  refine qa_iload_n (pc1 := 22) dX10_put_21 rfl rfl rfl ?_
  refine qa_callVi (pc1 := 25) dX10_put_22 rfl (rt_keyAt hps _ _ (by assumption)) wc_X10_65 wy_X10_keyAt rfl rfl (ci := k_mo) rfl ko_mo (by omega) rfl ?_
  refine qa_istore (pc1 := 27) dX10_put_25 (by decide) rfl ?_
  refine qa_aload_n (pc1 := 28) dX10_put_27 rfl rfl rfl ?_
  refine qa_getP (pc1 := 31) dX10_put_28 rfl wf_X10_26 rfl ko_mo (by omega) (show P 176 6 = 182 from kp_mo hps (by decide : kw_mo 6 ≠ 0)) ?_
  refine qa_iload (pc1 := 33) dX10_put_31 rfl rfl ?_
  refine qa_iload_n (pc1 := 34) dX10_put_33 rfl rfl rfl ?_
  refine qr_iast (pc1 := 35) dX10_put_34 rfl ka_m182 rfl (by omega) (by omega) (by omega) ?_
  refine qa_aload_n (pc1 := 36) dX10_put_35 rfl rfl rfl ?_
  refine qa_getP (pc1 := 39) dX10_put_36 rfl wf_X10_26 rfl ko_mo (by omega) (show P 176 6 = 182 from kp_mo hps (by decide : kw_mo 6 ≠ 0)) ?_
  refine qa_iload (pc1 := 41) dX10_put_39 rfl rfl ?_
  refine qa_iconst (pc1 := 42) dX10_put_41 (v := (nI 1)) kc_i1N rfl ?_
  refine qn_iadd (pc1 := 43) dX10_put_42 rfl ?_
  refine qa_iload (pc1 := 45) dX10_put_43 rfl rfl ?_
  refine qr_iast (pc1 := 46) dX10_put_45 rfl ka_m182 rfl (by omega) (by omega) (by omega) ?_
  refine qa_aload_n (pc1 := 47) dX10_put_46 rfl rfl rfl ?_
  refine qa_getP (pc1 := 50) dX10_put_47 rfl wf_X10_26 rfl ko_mo (by omega) (show P 176 6 = 182 from kp_mo hps (by decide : kw_mo 6 ≠ 0)) ?_
  refine qa_iload (pc1 := 52) dX10_put_50 rfl rfl ?_
  refine qa_iconst (pc1 := 53) dX10_put_52 (v := (nI 2)) kc_i2N rfl ?_
  refine qn_iadd (pc1 := 54) dX10_put_53 rfl ?_
  refine qa_iload_n (pc1 := 55) dX10_put_54 rfl rfl rfl ?_
  refine qa_callSi (pc1 := 58) dX10_put_55 rfl (rt_request _) wc_X10_68 wy_X10_request rfl rfl rfl ?_
  refine qb_if_eq (tgt := 66) (pc1 := 61) dX10_put_58 rfl rfl (fun h58 => ?_) (fun h58 => ?_)
  · refine qa_iconst (pc1 := 67) dX10_put_66 (v := 0) kc_i0 rfl ?_
    refine qr_iast (pc1 := 68) dX10_put_67 rfl ka_m182 rfl (by omega) (by omega) (by omega) ?_
    refine qa_aload_n (pc1 := 69) dX10_put_68 rfl rfl rfl ?_
    refine qa_getP (pc1 := 72) dX10_put_69 rfl wf_X10_26 rfl ko_mo (by omega) (show P 176 6 = 182 from kp_mo hps (by decide : kw_mo 6 ≠ 0)) ?_
    refine qa_iload (pc1 := 74) dX10_put_72 rfl rfl ?_
    refine qa_iconst (pc1 := 75) dX10_put_74 (v := (nI 3)) kc_i3N rfl ?_
    refine qn_iadd (pc1 := 76) dX10_put_75 rfl ?_
    refine qa_iload (pc1 := 78) dX10_put_76 rfl rfl ?_
    refine qr_iast (pc1 := 79) dX10_put_78 rfl ka_m182 rfl (by omega) (by omega) (by omega) ?_
    refine qa_aload_n (pc1 := 80) dX10_put_79 rfl rfl rfl ?_
    refine qa_getP (pc1 := 83) dX10_put_80 rfl wf_X10_26 rfl ko_mo (by omega) (show P 176 6 = 182 from kp_mo hps (by decide : kw_mo 6 ≠ 0)) ?_
    refine qa_iload (pc1 := 85) dX10_put_83 rfl rfl ?_
    refine qa_iconst (pc1 := 86) dX10_put_85 (v := (nI 4)) kc_i4N rfl ?_
    refine qn_iadd (pc1 := 87) dX10_put_86 rfl ?_
    refine qa_iload (pc1 := 89) dX10_put_87 rfl rfl ?_
    refine qr_iast (pc1 := 90) dX10_put_89 rfl ka_m182 rfl (by omega) (by omega) (by omega) ?_
    refine qa_aload_n (pc1 := 91) dX10_put_90 rfl rfl rfl ?_
    refine qa_getP (pc1 := 94) dX10_put_91 rfl wf_X10_26 rfl ko_mo (by omega) (show P 176 6 = 182 from kp_mo hps (by decide : kw_mo 6 ≠ 0)) ?_
    refine qa_iload (pc1 := 96) dX10_put_94 rfl rfl ?_
    refine qa_iconst (pc1 := 97) dX10_put_96 (v := (nI 5)) kc_i5N rfl ?_
    refine qn_iadd (pc1 := 98) dX10_put_97 rfl ?_
    refine qa_iload (pc1 := 100) dX10_put_98 rfl rfl ?_
    refine qa_iload_n (pc1 := 101) dX10_put_100 rfl rfl rfl ?_
    refine qa_iload (pc1 := 103) dX10_put_101 rfl rfl ?_
    refine qa_iload (pc1 := 105) dX10_put_103 rfl rfl ?_
    refine qa_iload (pc1 := 107) dX10_put_105 rfl rfl ?_
    refine qa_iload (pc1 := 109) dX10_put_107 rfl rfl ?_
    refine qa_callSi (pc1 := 112) dX10_put_109 rfl (rt_sealOf _ _ _ _ _ _) wc_X10_72 wy_X10_sealOf rfl rfl rfl ?_
    refine qr_iast (pc1 := 113) dX10_put_112 rfl ka_m182 rfl (by omega) (by omega) (by omega) ?_
    refine qa_aload_n (pc1 := 114) dX10_put_113 rfl rfl rfl ?_
    refine qa_getP (pc1 := 117) dX10_put_114 rfl wf_X10_26 rfl ko_mo (by omega) (show P 176 6 = 182 from kp_mo hps (by decide : kw_mo 6 ≠ 0)) ?_
    refine qa_iload (pc1 := 119) dX10_put_117 rfl rfl ?_
    refine qa_bipush (pc1 := 121) dX10_put_119 (v := (nI 6)) kc_b6N rfl ?_
    refine qn_iadd (pc1 := 122) dX10_put_121 rfl ?_
    refine qa_iload_n (pc1 := 123) dX10_put_122 rfl rfl rfl ?_
    refine qr_iast (pc1 := 124) dX10_put_123 rfl ka_m182 rfl (by omega) (by omega) (by omega) ?_
    refine qa_aload_n (pc1 := 125) dX10_put_124 rfl rfl rfl ?_
    refine qa_getP (pc1 := 128) dX10_put_125 rfl wf_X10_26 rfl ko_mo (by omega) (show P 176 6 = 182 from kp_mo hps (by decide : kw_mo 6 ≠ 0)) ?_
    refine qa_iload (pc1 := 130) dX10_put_128 rfl rfl ?_
    refine qa_bipush (pc1 := 132) dX10_put_130 (v := (nI 7)) kc_b7N rfl ?_
    refine qn_iadd (pc1 := 133) dX10_put_132 rfl ?_
    refine qa_iload_n (pc1 := 134) dX10_put_133 rfl rfl rfl ?_
    refine qr_iast (pc1 := 135) dX10_put_134 rfl ka_m182 rfl (by omega) (by omega) (by omega) ?_
    refine qa_aload_n (pc1 := 136) dX10_put_135 rfl rfl rfl ?_
    refine qa_dup (pc1 := 137) dX10_put_136 rfl ?_
    refine qr_getI (pc1 := 140) dX10_put_137 rfl wf_X10_61 rfl ko_mo (by omega) (by omega) ?_
    refine qa_top (show _ = nI n from by simp [ax_u, hc]) ?_
    refine qa_iconst (pc1 := 141) dX10_put_140 (v := (nI 1)) kc_i1N rfl ?_
    refine qn_iadd (pc1 := 142) dX10_put_141 rfl ?_
    refine qr_putI (pc1 := 145) dX10_put_142 rfl wp_X10_61 rfl rfl rfl ko_mo (by omega) (by omega) ?_
    exact qa_vret dX10_put_145 rfl rfl rfl (by simp only [xr_put]; grind) rfl
  · refine qa_iload (pc1 := 63) dX10_put_61 rfl rfl ?_
    refine qa_goto (tgt := 67) dX10_put_63 rfl ?_
    refine qr_iast (pc1 := 68) dX10_put_67 rfl ka_m182 rfl (by omega) (by omega) (by omega) ?_
    refine qa_aload_n (pc1 := 69) dX10_put_68 rfl rfl rfl ?_
    refine qa_getP (pc1 := 72) dX10_put_69 rfl wf_X10_26 rfl ko_mo (by omega) (show P 176 6 = 182 from kp_mo hps (by decide : kw_mo 6 ≠ 0)) ?_
    refine qa_iload (pc1 := 74) dX10_put_72 rfl rfl ?_
    refine qa_iconst (pc1 := 75) dX10_put_74 (v := (nI 3)) kc_i3N rfl ?_
    refine qn_iadd (pc1 := 76) dX10_put_75 rfl ?_
    refine qa_iload (pc1 := 78) dX10_put_76 rfl rfl ?_
    refine qr_iast (pc1 := 79) dX10_put_78 rfl ka_m182 rfl (by omega) (by omega) (by omega) ?_
    refine qa_aload_n (pc1 := 80) dX10_put_79 rfl rfl rfl ?_
    refine qa_getP (pc1 := 83) dX10_put_80 rfl wf_X10_26 rfl ko_mo (by omega) (show P 176 6 = 182 from kp_mo hps (by decide : kw_mo 6 ≠ 0)) ?_
    refine qa_iload (pc1 := 85) dX10_put_83 rfl rfl ?_
    refine qa_iconst (pc1 := 86) dX10_put_85 (v := (nI 4)) kc_i4N rfl ?_
    refine qn_iadd (pc1 := 87) dX10_put_86 rfl ?_
    refine qa_iload (pc1 := 89) dX10_put_87 rfl rfl ?_
    refine qr_iast (pc1 := 90) dX10_put_89 rfl ka_m182 rfl (by omega) (by omega) (by omega) ?_
    refine qa_aload_n (pc1 := 91) dX10_put_90 rfl rfl rfl ?_
    refine qa_getP (pc1 := 94) dX10_put_91 rfl wf_X10_26 rfl ko_mo (by omega) (show P 176 6 = 182 from kp_mo hps (by decide : kw_mo 6 ≠ 0)) ?_
    refine qa_iload (pc1 := 96) dX10_put_94 rfl rfl ?_
    refine qa_iconst (pc1 := 97) dX10_put_96 (v := (nI 5)) kc_i5N rfl ?_
    refine qn_iadd (pc1 := 98) dX10_put_97 rfl ?_
    refine qa_iload (pc1 := 100) dX10_put_98 rfl rfl ?_
    refine qa_iload_n (pc1 := 101) dX10_put_100 rfl rfl rfl ?_
    refine qa_iload (pc1 := 103) dX10_put_101 rfl rfl ?_
    refine qa_iload (pc1 := 105) dX10_put_103 rfl rfl ?_
    refine qa_iload (pc1 := 107) dX10_put_105 rfl rfl ?_
    refine qa_iload (pc1 := 109) dX10_put_107 rfl rfl ?_
    refine qa_callSi (pc1 := 112) dX10_put_109 rfl (rt_sealOf _ _ _ _ _ _) wc_X10_72 wy_X10_sealOf rfl rfl rfl ?_
    refine qr_iast (pc1 := 113) dX10_put_112 rfl ka_m182 rfl (by omega) (by omega) (by omega) ?_
    refine qa_aload_n (pc1 := 114) dX10_put_113 rfl rfl rfl ?_
    refine qa_getP (pc1 := 117) dX10_put_114 rfl wf_X10_26 rfl ko_mo (by omega) (show P 176 6 = 182 from kp_mo hps (by decide : kw_mo 6 ≠ 0)) ?_
    refine qa_iload (pc1 := 119) dX10_put_117 rfl rfl ?_
    refine qa_bipush (pc1 := 121) dX10_put_119 (v := (nI 6)) kc_b6N rfl ?_
    refine qn_iadd (pc1 := 122) dX10_put_121 rfl ?_
    refine qa_iload_n (pc1 := 123) dX10_put_122 rfl rfl rfl ?_
    refine qr_iast (pc1 := 124) dX10_put_123 rfl ka_m182 rfl (by omega) (by omega) (by omega) ?_
    refine qa_aload_n (pc1 := 125) dX10_put_124 rfl rfl rfl ?_
    refine qa_getP (pc1 := 128) dX10_put_125 rfl wf_X10_26 rfl ko_mo (by omega) (show P 176 6 = 182 from kp_mo hps (by decide : kw_mo 6 ≠ 0)) ?_
    refine qa_iload (pc1 := 130) dX10_put_128 rfl rfl ?_
    refine qa_bipush (pc1 := 132) dX10_put_130 (v := (nI 7)) kc_b7N rfl ?_
    refine qn_iadd (pc1 := 133) dX10_put_132 rfl ?_
    refine qa_iload_n (pc1 := 134) dX10_put_133 rfl rfl rfl ?_
    refine qr_iast (pc1 := 135) dX10_put_134 rfl ka_m182 rfl (by omega) (by omega) (by omega) ?_
    refine qa_aload_n (pc1 := 136) dX10_put_135 rfl rfl rfl ?_
    refine qa_dup (pc1 := 137) dX10_put_136 rfl ?_
    refine qr_getI (pc1 := 140) dX10_put_137 rfl wf_X10_61 rfl ko_mo (by omega) (by omega) ?_
    refine qa_top (show _ = nI n from by simp [ax_u, hc]) ?_
    refine qa_iconst (pc1 := 141) dX10_put_140 (v := (nI 1)) kc_i1N rfl ?_
    refine qn_iadd (pc1 := 142) dX10_put_141 rfl ?_
    refine qr_putI (pc1 := 145) dX10_put_142 rfl wp_X10_61 rfl rfl rfl ko_mo (by omega) (by omega) ?_
    exact qa_vret dX10_put_145 rfl rfl rfl (by simp only [xr_put]; grind) rfl
theorem rt_snd (hps : kw_ps P) (hk : xr_nok M) (s r kind id x a b1 : Int32) (hl : xr_lk s r) : kw_C l D aC b yX10_put cX10_put 10 none 3 [.inr (.inl 176), .inl s, .inl r, .inl kind, .inl id, .inl x, .inl a, .inl b1] C M P none C (xr_snd M s r kind id x a b1) P := by
  by_cases h : xr_n M < 24
  · rw [show xr_snd M s r kind id x a b1 = xr_put M (xr_n M) s r kind id x a b1 from by rw [xr_snd, if_pos h]]
    exact rt_put hps h hk.1 s r kind id x a b1 hl
  · rw [show xr_snd M s r kind id x a b1 = M from by rw [xr_snd, if_neg h]]
    refine rt_putF ?_ s r kind id x a b1
    rw [hk.1, show xr_n M = 24 from by have := hk.2; omega]; rfl
set_option maxRecDepth 20000 in
set_option maxHeartbeats 4000000 in
theorem rt_right (hps : kw_ps P) (x : Int32) (hl : xr_lk (M 183 7) (M 183 6)) : kw_C l D aC b yX10_right cX10_right 3 (some .boolean) 3 [.inr (.inl 176), .inl x] C M P (some (.inl (kw_b (xr_right M x)))) C M P := by
  refine ax_body (own := RX10) (ini := false) (by decide) rfl (fun h => by cases h) (Nat.le_of_ble_eq_true rfl) ?_
  refine qa_aload_n (pc1 := 1) dX10_right_0 rfl rfl rfl ?_
  refine qa_aload_n (pc1 := 2) dX10_right_1 rfl rfl rfl ?_
  refine qa_getP (pc1 := 5) dX10_right_2 rfl wf_X10_29 rfl ko_mo (by omega) (show P 176 8 = 183 from kp_mo hps (by decide : kw_mo 8 ≠ 0)) ?_
  refine qa_bipush (pc1 := 7) dX10_right_5 (v := (nI 7)) kc_b7N rfl ?_
  refine qr_iald (pc1 := 8) dX10_right_7 rfl ka_m183 rfl (by omega) (by omega) (by decide) ?_
  refine qa_aload_n (pc1 := 9) dX10_right_8 rfl rfl rfl ?_
  refine qa_getP (pc1 := 12) dX10_right_9 rfl wf_X10_29 rfl ko_mo (by omega) (show P 176 8 = 183 from kp_mo hps (by decide : kw_mo 8 ≠ 0)) ?_
  refine qa_bipush (pc1 := 14) dX10_right_12 (v := (nI 6)) kc_b6N rfl ?_
  refine qr_iald (pc1 := 15) dX10_right_14 rfl ka_m183 rfl (by omega) (by omega) (by decide) ?_
  refine qa_callVi (pc1 := 18) dX10_right_15 rfl (rt_keyAt hps _ _ (by assumption)) wc_X10_65 wy_X10_keyAt rfl rfl (ci := k_mo) rfl ko_mo (by omega) rfl ?_
  refine qa_istore_n (pc1 := 19) dX10_right_18 rfl (by decide) rfl ?_
  refine qa_aload_n (pc1 := 20) dX10_right_19 rfl rfl rfl ?_
  refine qa_getP (pc1 := 23) dX10_right_20 rfl wf_X10_29 rfl ko_mo (by omega) (show P 176 8 = 183 from kp_mo hps (by decide : kw_mo 8 ≠ 0)) ?_
  refine qa_iconst (pc1 := 24) dX10_right_23 (v := (nI 5)) kc_i5N rfl ?_
  refine qr_iald (pc1 := 25) dX10_right_24 rfl ka_m183 rfl (by omega) (by omega) (by decide) ?_
  refine qa_iload_n (pc1 := 26) dX10_right_25 rfl rfl rfl ?_
  refine qa_aload_n (pc1 := 27) dX10_right_26 rfl rfl rfl ?_
  refine qa_getP (pc1 := 30) dX10_right_27 rfl wf_X10_29 rfl ko_mo (by omega) (show P 176 8 = 183 from kp_mo hps (by decide : kw_mo 8 ≠ 0)) ?_
  refine qa_iconst (pc1 := 31) dX10_right_30 (v := (nI 0)) kc_i0N rfl ?_
  refine qr_iald (pc1 := 32) dX10_right_31 rfl ka_m183 rfl (by omega) (by omega) (by decide) ?_
  refine qa_aload_n (pc1 := 33) dX10_right_32 rfl rfl rfl ?_
  refine qa_getP (pc1 := 36) dX10_right_33 rfl wf_X10_29 rfl ko_mo (by omega) (show P 176 8 = 183 from kp_mo hps (by decide : kw_mo 8 ≠ 0)) ?_
  refine qa_iconst (pc1 := 37) dX10_right_36 (v := (nI 1)) kc_i1N rfl ?_
  refine qr_iald (pc1 := 38) dX10_right_37 rfl ka_m183 rfl (by omega) (by omega) (by decide) ?_
  refine qa_iload_n (pc1 := 39) dX10_right_38 rfl rfl rfl ?_
  refine qa_aload_n (pc1 := 40) dX10_right_39 rfl rfl rfl ?_
  refine qa_getP (pc1 := 43) dX10_right_40 rfl wf_X10_29 rfl ko_mo (by omega) (show P 176 8 = 183 from kp_mo hps (by decide : kw_mo 8 ≠ 0)) ?_
  refine qa_iconst (pc1 := 44) dX10_right_43 (v := (nI 3)) kc_i3N rfl ?_
  refine qr_iald (pc1 := 45) dX10_right_44 rfl ka_m183 rfl (by omega) (by omega) (by decide) ?_
  refine qa_aload_n (pc1 := 46) dX10_right_45 rfl rfl rfl ?_
  refine qa_getP (pc1 := 49) dX10_right_46 rfl wf_X10_29 rfl ko_mo (by omega) (show P 176 8 = 183 from kp_mo hps (by decide : kw_mo 8 ≠ 0)) ?_
  refine qa_iconst (pc1 := 50) dX10_right_49 (v := (nI 4)) kc_i4N rfl ?_
  refine qr_iald (pc1 := 51) dX10_right_50 rfl ka_m183 rfl (by omega) (by omega) (by decide) ?_
  refine qa_callSi (pc1 := 54) dX10_right_51 rfl (rt_sealOf _ _ _ _ _ _) wc_X10_72 wy_X10_sealOf rfl rfl rfl ?_
  refine qa_ic_ne (tgt := 61) (pc1 := 57) dX10_right_54 rfl rfl (fun h54 => ?_) (fun h54 => ?_)
  · refine qa_iconst (pc1 := 62) dX10_right_61 (v := 0) kc_i0 rfl ?_
    exact qa_iret dX10_right_62 rfl (by first | rfl | exact kw_bn) (by first | rw [kw_bt (by assumption)] | rw [kw_bf (by assumption)]) rfl rfl rfl
  · refine qa_iconst (pc1 := 58) dX10_right_57 (v := 1) kc_i1 rfl ?_
    refine qa_goto (tgt := 62) dX10_right_58 rfl ?_
    exact qa_iret dX10_right_62 rfl (by first | rfl | exact kw_bn) (by first | rw [kw_bt (by assumption)] | rw [kw_bf (by assumption)]) rfl rfl rfl
set_option maxRecDepth 20000 in
set_option maxHeartbeats 4000000 in
theorem rt_inFlight (k : Int32) : kw_C l D aC b yX10_inFlight cX10_inFlight 2 (some .boolean) 1 [.inr (.inl 176), .inl k] C M P (some (.inl (kw_b (¬ k < 0 ∧ ¬ M 176 7 ≤ k)))) C M P := by
  refine ax_body (own := RX10) (ini := false) (by decide) rfl (fun h => by cases h) (Nat.le_of_ble_eq_true rfl) ?_
  refine qa_iload_n (pc1 := 1) dX10_inFlight_0 rfl rfl rfl ?_
  refine qa_if_lt (tgt := 16) (pc1 := 4) dX10_inFlight_1 rfl rfl (fun h1 => ?_) (fun h1 => ?_)
  · refine qa_iconst (pc1 := 17) dX10_inFlight_16 (v := 0) kc_i0 rfl ?_
    exact qa_iret dX10_inFlight_17 rfl (by first | rfl | exact kw_bn) (by simp only [kw_b]; grind) rfl rfl rfl
  · refine qa_iload_n (pc1 := 5) dX10_inFlight_4 rfl rfl rfl ?_
    refine qa_aload_n (pc1 := 6) dX10_inFlight_5 rfl rfl rfl ?_
    refine qr_getI (pc1 := 9) dX10_inFlight_6 rfl wf_X10_61 rfl ko_mo (by omega) (by omega) ?_
    refine qa_ic_ge (tgt := 16) (pc1 := 12) dX10_inFlight_9 rfl rfl (fun h9 => ?_) (fun h9 => ?_)
    · refine qa_iconst (pc1 := 17) dX10_inFlight_16 (v := 0) kc_i0 rfl ?_
      exact qa_iret dX10_inFlight_17 rfl (by first | rfl | exact kw_bn) (by simp only [kw_b]; grind) rfl rfl rfl
    · refine qa_iconst (pc1 := 13) dX10_inFlight_12 (v := 1) kc_i1 rfl ?_
      refine qa_goto (tgt := 17) dX10_inFlight_13 rfl ?_
      exact qa_iret dX10_inFlight_17 rfl (by first | rfl | exact kw_bn) (by simp only [kw_b]; grind) rfl rfl rfl
set_option maxRecDepth 20000 in
set_option maxHeartbeats 4000000 in
theorem rt_takeOut (hps : kw_ps P) {kk n : Nat} (hkn : kk < n) (hn : n ≤ 24) (hc : M 176 7 = nI n) : kw_C l D aC b yX10_takeOut cX10_takeOut 3 none 1 [.inr (.inl 176), .inl (nI kk)] C M P none C (xr_take M kk n) P := by
  refine ax_body (own := RX10) (ini := false) (by decide) rfl (fun h => by cases h) (Nat.le_of_ble_eq_true rfl) ?_
  have hcT : ∀ i, xr_ti M kk i 176 7 = nI n := fun i => by simp [xr_ti, hc]
  have loop : ∀ i, 8 * kk ≤ i → i ≤ 8 * n - 8 → ax_G l D aC b RX10 cX10_takeOut 3 none false (kw_rm 1) 191 (ax_F D aC b 191 0 0 (kw_R none kw_K kw_L (kw_gl C (xr_take M kk n)) P)) (fun _ => True) 5 [(2, .inl (nI i)), (0, .inr (.inl 176)), (1, .inl (nI kk))] [] 0 0 kw_K kw_L (kw_gl C (xr_ti M kk i)) P := by
    refine kw_loop (8 * n - 8) (fun i ih hki hin => ?_)
    refine qa_iload_n (pc1 := 6) dX10_takeOut_5 rfl rfl rfl ?_
    refine qa_bipush (pc1 := 8) dX10_takeOut_6 (v := (nI 8)) kc_b8N rfl ?_
    refine qa_aload_n (pc1 := 9) dX10_takeOut_8 rfl rfl rfl ?_
    refine qr_getI (pc1 := 12) dX10_takeOut_9 rfl wf_X10_61 rfl ko_mo (by omega) (by omega) ?_
    refine qa_top (hcT i) ?_
    refine qn_imul (pc1 := 13) dX10_takeOut_12 rfl ?_
    refine qa_bipush (pc1 := 15) dX10_takeOut_13 (v := (nI 8)) kc_b8N rfl ?_
    refine qn_isub (pc1 := 16) dX10_takeOut_15 rfl (by omega) ?_
    refine qn_ic_ge (tgt := 40) (pc1 := 19) dX10_takeOut_16 rfl rfl (by omega) (by omega) (fun h16 => ?_) (fun h16 => ?_)
    · refine qa_aload_n (pc1 := 41) dX10_takeOut_40 rfl rfl rfl ?_
      refine qa_dup (pc1 := 42) dX10_takeOut_41 rfl ?_
      refine qr_getI (pc1 := 45) dX10_takeOut_42 rfl wf_X10_61 rfl ko_mo (by omega) (by omega) ?_
      refine qa_top (hcT i) ?_
      refine qa_iconst (pc1 := 46) dX10_takeOut_45 (v := (nI 1)) kc_i1N rfl ?_
      refine qn_isub (pc1 := 47) dX10_takeOut_46 rfl (by omega) ?_
      refine qr_putI (pc1 := 50) dX10_takeOut_47 rfl wp_X10_61 rfl rfl rfl ko_mo (by omega) (by omega) ?_
      exact qa_vret dX10_takeOut_50 rfl rfl rfl (by rw [xr_take, show 8 * n - 8 = i from by omega]) rfl
    · refine qa_aload_n (pc1 := 20) dX10_takeOut_19 rfl rfl rfl ?_
      refine qa_getP (pc1 := 23) dX10_takeOut_20 rfl wf_X10_26 rfl ko_mo (by omega) (show P 176 6 = 182 from kp_mo hps (by decide : kw_mo 6 ≠ 0)) ?_
      refine qa_iload_n (pc1 := 24) dX10_takeOut_23 rfl rfl rfl ?_
      refine qa_aload_n (pc1 := 25) dX10_takeOut_24 rfl rfl rfl ?_
      refine qa_getP (pc1 := 28) dX10_takeOut_25 rfl wf_X10_26 rfl ko_mo (by omega) (show P 176 6 = 182 from kp_mo hps (by decide : kw_mo 6 ≠ 0)) ?_
      refine qa_iload_n (pc1 := 29) dX10_takeOut_28 rfl rfl rfl ?_
      refine qa_bipush (pc1 := 31) dX10_takeOut_29 (v := (nI 8)) kc_b8N rfl ?_
      refine qn_iadd (pc1 := 32) dX10_takeOut_31 rfl ?_
      refine qr_iald (pc1 := 33) dX10_takeOut_32 rfl ka_m182 rfl (by omega) (by omega) (by omega) ?_
      refine qa_top (show _ = M 182 (i + 8) from by simp [xr_ti]; intros; omega) ?_
      refine qr_iast (pc1 := 34) dX10_takeOut_33 rfl ka_m182 rfl (by omega) (by omega) (by omega) ?_
      refine qa_iincN (pc1 := 37) dX10_takeOut_34 rfl (by decide) rfl ?_
      refine qa_goto (tgt := 5) dX10_takeOut_37 rfl ?_
      exact qa_memM (xr_ti_step hki) (qa_ls (by exact (kw_lsc rfl (kw_lsc rfl (kw_lsc rfl kw_lsn)))) (ih (by omega) (by omega) (by omega)))
  refine qa_bipush (pc1 := 2) dX10_takeOut_0 (v := (nI 8)) kc_b8N rfl ?_
  refine qa_iload_n (pc1 := 3) dX10_takeOut_2 rfl rfl rfl ?_
  refine qn_imul (pc1 := 4) dX10_takeOut_3 rfl ?_
  refine qa_istore_n (pc1 := 5) dX10_takeOut_4 rfl (by decide) rfl ?_
  exact qa_memM xr_ti_0 (qa_ls (by exact (kw_lsc rfl (kw_lsc rfl (kw_lsc rfl kw_lsn)))) (loop (8 * kk) (Nat.le_refl _) (by omega)))
set_option maxRecDepth 20000 in
set_option maxHeartbeats 4000000 in
theorem rt_loseO (s : Int32) (hs : ¬ (¬ s < 0 ∧ ¬ M 176 7 ≤ s)) : kw_C l D aC b yX10_lose cX10_lose 2 (some .boolean) 2 [.inr (.inl 176), .inl s] C M P (some (.inl 0)) C M P := by
  refine ax_body (own := RX10) (ini := false) (by decide) rfl (fun h => by cases h) (Nat.le_of_ble_eq_true rfl) ?_
  refine qa_aload_n (pc1 := 1) dX10_lose_0 rfl rfl rfl ?_
  refine qa_iload_n (pc1 := 2) dX10_lose_1 rfl rfl rfl ?_
  refine qa_callVi (pc1 := 5) dX10_lose_2 rfl (rt_inFlight _) wc_X10_76 wy_X10_inFlight rfl rfl (ci := k_mo) rfl ko_mo (by omega) rfl ?_
  refine qf_if_ne (tgt := 10) (pc1 := 8) dX10_lose_5 rfl rfl (kw_bf hs) ?_
  refine qa_iconst (pc1 := 9) dX10_lose_8 (v := 0) kc_i0 rfl ?_
  exact qa_iret dX10_lose_9 rfl (by first | rfl | exact kw_bn) rfl rfl rfl rfl
set_option maxRecDepth 20000 in
set_option maxHeartbeats 4000000 in
theorem rt_loseI (hps : kw_ps P) {kk n : Nat} (hkn : kk < n) (hn : n ≤ 24) (hc : M 176 7 = nI n) : kw_C l D aC b yX10_lose cX10_lose 2 (some .boolean) 2 [.inr (.inl 176), .inl (nI kk)] C M P (some (.inl 1)) C (xr_take M kk n) P := by
  refine ax_body (own := RX10) (ini := false) (by decide) rfl (fun h => by cases h) (Nat.le_of_ble_eq_true rfl) ?_
  refine qa_aload_n (pc1 := 1) dX10_lose_0 rfl rfl rfl ?_
  refine qa_iload_n (pc1 := 2) dX10_lose_1 rfl rfl rfl ?_
  refine qa_callVi (pc1 := 5) dX10_lose_2 rfl (rt_inFlight _) wc_X10_76 wy_X10_inFlight rfl rfl (ci := k_mo) rfl ko_mo (by omega) rfl ?_
  refine qt_if_ne (tgt := 10) dX10_lose_5 rfl (kw_b1.mpr (show ¬ nI kk < 0 ∧ ¬ M 176 7 ≤ nI kk from ⟨nI_pos (by omega), by rw [hc]; exact nI_ge hkn (by omega)⟩)) ?_
  refine qa_aload_n (pc1 := 11) dX10_lose_10 rfl rfl rfl ?_
  refine qa_iload_n (pc1 := 12) dX10_lose_11 rfl rfl rfl ?_
  refine qa_callVv (pc1 := 15) dX10_lose_12 rfl (rt_takeOut hps hkn hn hc) wc_X10_79 wy_X10_takeOut rfl rfl (ci := k_mo) rfl ko_mo (by omega) rfl ?_
  refine qa_iconst (pc1 := 16) dX10_lose_15 (v := 1) kc_i1 rfl ?_
  exact qa_iret dX10_lose_16 rfl (by first | rfl | exact kw_bn) rfl rfl rfl rfl
set_option maxRecDepth 20000 in
set_option maxHeartbeats 4000000 in
theorem rt_copyO (s : Int32) (hs : ¬ ((¬ s < 0 ∧ ¬ M 176 7 ≤ s) ∧ ¬ M 176 7 = 24)) : kw_C l D aC b yX10_copy cX10_copy 3 (some .boolean) 2 [.inr (.inl 176), .inl s] C M P (some (.inl 0)) C M P := by
  refine ax_body (own := RX10) (ini := false) (by decide) rfl (fun h => by cases h) (Nat.le_of_ble_eq_true rfl) ?_
  refine qa_aload_n (pc1 := 1) dX10_copy_0 rfl rfl rfl ?_
  refine qa_iload_n (pc1 := 2) dX10_copy_1 rfl rfl rfl ?_
  refine qa_callVi (pc1 := 5) dX10_copy_2 rfl (rt_inFlight _) wc_X10_76 wy_X10_inFlight rfl rfl (ci := k_mo) rfl ko_mo (by omega) rfl ?_
  refine qb_if_eq (tgt := 17) (pc1 := 8) dX10_copy_5 rfl rfl (fun h5 => ?_) (fun h5 => ?_)
  · refine qa_iconst (pc1 := 18) dX10_copy_17 (v := 0) kc_i0 rfl ?_
    exact qa_iret dX10_copy_18 rfl (by first | rfl | exact kw_bn) rfl rfl rfl rfl
  · refine qa_aload_n (pc1 := 9) dX10_copy_8 rfl rfl rfl ?_
    refine qr_getI (pc1 := 12) dX10_copy_9 rfl wf_X10_61 rfl ko_mo (by omega) (by omega) ?_
    refine qa_bipush (pc1 := 14) dX10_copy_12 (v := 24) kc_b24 rfl ?_
    refine qa_ic_ne (tgt := 19) (pc1 := 17) dX10_copy_14 rfl rfl (fun h14 => ?_) (fun h14 => ?_)
    · exact absurd ⟨h5, h14⟩ hs
    · refine qa_iconst (pc1 := 18) dX10_copy_17 (v := 0) kc_i0 rfl ?_
      exact qa_iret dX10_copy_18 rfl (by first | rfl | exact kw_bn) rfl rfl rfl rfl
set_option maxRecDepth 20000 in
set_option maxHeartbeats 4000000 in
theorem rt_copyI (hps : kw_ps P) {kk n : Nat} (hkn : kk < n) (hn : n < 24) (hc : M 176 7 = nI n) : kw_C l D aC b yX10_copy cX10_copy 3 (some .boolean) 2 [.inr (.inl 176), .inl (nI kk)] C M P (some (.inl 1)) C (ax_u (xr_cp M kk n 8) 176 7 (nI (n + 1))) P := by
  refine ax_body (own := RX10) (ini := false) (by decide) rfl (fun h => by cases h) (Nat.le_of_ble_eq_true rfl) ?_
  have hcT : ∀ i, xr_cp M kk n i 176 7 = nI n := fun i => by simp [xr_cp, hc]
  have loop : ∀ i, i ≤ 8 → i ≤ 8 → ax_G l D aC b RX10 cX10_copy 3 (some .boolean) false (kw_rm 2) 191 (ax_F D aC b 191 0 0 (kw_R (some (.inl 1)) kw_K kw_L (kw_gl C (ax_u (xr_cp M kk n 8) 176 7 (nI (n + 1)))) P)) (fun _ => True) 21 [(2, .inl (nI i)), (0, .inr (.inl 176)), (1, .inl (nI kk))] [] 0 0 kw_K kw_L (kw_gl C (xr_cp M kk n i)) P := by
    refine kw_loopB 8 (fun i hiN ih hin => ?_)
    refine qa_iload_n (pc1 := 22) dX10_copy_21 rfl rfl rfl ?_
    refine qa_bipush (pc1 := 24) dX10_copy_22 (v := (nI 8)) kc_b8N rfl ?_
    refine qn_ic_ge (tgt := 58) (pc1 := 27) dX10_copy_24 rfl rfl (by omega) (by omega) (fun h24 => ?_) (fun h24 => ?_)
    · refine qa_aload_n (pc1 := 59) dX10_copy_58 rfl rfl rfl ?_
      refine qa_dup (pc1 := 60) dX10_copy_59 rfl ?_
      refine qr_getI (pc1 := 63) dX10_copy_60 rfl wf_X10_61 rfl ko_mo (by omega) (by omega) ?_
      refine qa_top (hcT i) ?_
      refine qa_iconst (pc1 := 64) dX10_copy_63 (v := (nI 1)) kc_i1N rfl ?_
      refine qn_iadd (pc1 := 65) dX10_copy_64 rfl ?_
      refine qr_putI (pc1 := 68) dX10_copy_65 rfl wp_X10_61 rfl rfl rfl ko_mo (by omega) (by omega) ?_
      refine qa_iconst (pc1 := 69) dX10_copy_68 (v := 1) kc_i1 rfl ?_
      exact qa_iret dX10_copy_69 rfl (by first | rfl | exact kw_bn) rfl rfl (by rw [show i = 8 from by omega]) rfl
    · refine qa_aload_n (pc1 := 28) dX10_copy_27 rfl rfl rfl ?_
      refine qa_getP (pc1 := 31) dX10_copy_28 rfl wf_X10_26 rfl ko_mo (by omega) (show P 176 6 = 182 from kp_mo hps (by decide : kw_mo 6 ≠ 0)) ?_
      refine qa_bipush (pc1 := 33) dX10_copy_31 (v := (nI 8)) kc_b8N rfl ?_
      refine qa_aload_n (pc1 := 34) dX10_copy_33 rfl rfl rfl ?_
      refine qr_getI (pc1 := 37) dX10_copy_34 rfl wf_X10_61 rfl ko_mo (by omega) (by omega) ?_
      refine qa_top (hcT i) ?_
      refine qn_imul (pc1 := 38) dX10_copy_37 rfl ?_
      refine qa_iload_n (pc1 := 39) dX10_copy_38 rfl rfl rfl ?_
      refine qn_iadd (pc1 := 40) dX10_copy_39 rfl ?_
      refine qa_aload_n (pc1 := 41) dX10_copy_40 rfl rfl rfl ?_
      refine qa_getP (pc1 := 44) dX10_copy_41 rfl wf_X10_26 rfl ko_mo (by omega) (show P 176 6 = 182 from kp_mo hps (by decide : kw_mo 6 ≠ 0)) ?_
      refine qa_bipush (pc1 := 46) dX10_copy_44 (v := (nI 8)) kc_b8N rfl ?_
      refine qa_iload_n (pc1 := 47) dX10_copy_46 rfl rfl rfl ?_
      refine qn_imul (pc1 := 48) dX10_copy_47 rfl ?_
      refine qa_iload_n (pc1 := 49) dX10_copy_48 rfl rfl rfl ?_
      refine qn_iadd (pc1 := 50) dX10_copy_49 rfl ?_
      refine qr_iald (pc1 := 51) dX10_copy_50 rfl ka_m182 rfl (by omega) (by omega) (by omega) ?_
      refine qa_top (show _ = M 182 (8 * kk + i) from by simp [xr_cp]; omega) ?_
      refine qr_iast (pc1 := 52) dX10_copy_51 rfl ka_m182 rfl (by omega) (by omega) (by omega) ?_
      refine qa_iincN (pc1 := 55) dX10_copy_52 rfl (by decide) rfl ?_
      refine qa_goto (tgt := 21) dX10_copy_55 rfl ?_
      exact qa_memM xr_cp_step (qa_ls (by exact (kw_lsc rfl (kw_lsc rfl (kw_lsc rfl kw_lsn)))) (ih (by omega) (by omega)))
  refine qa_aload_n (pc1 := 1) dX10_copy_0 rfl rfl rfl ?_
  refine qa_iload_n (pc1 := 2) dX10_copy_1 rfl rfl rfl ?_
  refine qa_callVi (pc1 := 5) dX10_copy_2 rfl (rt_inFlight _) wc_X10_76 wy_X10_inFlight rfl rfl (ci := k_mo) rfl ko_mo (by omega) rfl ?_
  refine qf_if_eq (tgt := 17) (pc1 := 8) dX10_copy_5 rfl rfl (kw_b1.mpr (show ¬ nI kk < 0 ∧ ¬ M 176 7 ≤ nI kk from ⟨nI_pos (by omega), by rw [hc]; exact nI_ge hkn (by omega)⟩)) ?_
  refine qa_aload_n (pc1 := 9) dX10_copy_8 rfl rfl rfl ?_
  refine qr_getI (pc1 := 12) dX10_copy_9 rfl wf_X10_61 rfl ko_mo (by omega) (by omega) ?_
  refine qa_bipush (pc1 := 14) dX10_copy_12 (v := 24) kc_b24 rfl ?_
  refine qt_ic_ne (tgt := 19) dX10_copy_14 rfl (by rw [hc]; exact fun e => absurd ((nI_eq (a := n) (b := 24) (by omega) (by decide)).mp e) (by omega)) ?_
  refine qa_iconst (pc1 := 20) dX10_copy_19 (v := (nI 0)) kc_i0N rfl ?_
  refine qa_istore_n (pc1 := 21) dX10_copy_20 rfl (by decide) rfl ?_
  exact qa_memM xr_cp_0 (qa_ls (by exact (kw_lsc rfl (kw_lsc rfl (kw_lsc rfl kw_lsn)))) (loop 0 (Nat.zero_le _) (by omega)))
set_option maxRecDepth 20000 in
set_option maxHeartbeats 4000000 in
theorem rt_forgeO (s f v : Int32) (hs : ¬ ((¬ s < 0 ∧ ¬ M 176 7 ≤ s) ∧ ¬ f < 0 ∧ f ≤ 5)) : kw_C l D aC b yX10_forge cX10_forge 4 (some .boolean) 2 [.inr (.inl 176), .inl s, .inl f, .inl v] C M P (some (.inl 0)) C M P := by
  refine ax_body (own := RX10) (ini := false) (by decide) rfl (fun h => by cases h) (Nat.le_of_ble_eq_true rfl) ?_
  refine qa_aload_n (pc1 := 1) dX10_forge_0 rfl rfl rfl ?_
  refine qa_iload_n (pc1 := 2) dX10_forge_1 rfl rfl rfl ?_
  refine qa_callVi (pc1 := 5) dX10_forge_2 rfl (rt_inFlight _) wc_X10_76 wy_X10_inFlight rfl rfl (ci := k_mo) rfl ko_mo (by omega) rfl ?_
  refine qb_if_eq (tgt := 17) (pc1 := 8) dX10_forge_5 rfl rfl (fun h5 => ?_) (fun h5 => ?_)
  · refine qa_iconst (pc1 := 18) dX10_forge_17 (v := 0) kc_i0 rfl ?_
    exact qa_iret dX10_forge_18 rfl (by first | rfl | exact kw_bn) rfl rfl rfl rfl
  · refine qa_iload_n (pc1 := 9) dX10_forge_8 rfl rfl rfl ?_
    refine qa_if_lt (tgt := 17) (pc1 := 12) dX10_forge_9 rfl rfl (fun h9 => ?_) (fun h9 => ?_)
    · refine qa_iconst (pc1 := 18) dX10_forge_17 (v := 0) kc_i0 rfl ?_
      exact qa_iret dX10_forge_18 rfl (by first | rfl | exact kw_bn) rfl rfl rfl rfl
    · refine qa_iload_n (pc1 := 13) dX10_forge_12 rfl rfl rfl ?_
      refine qa_iconst (pc1 := 14) dX10_forge_13 (v := 5) kc_i5 rfl ?_
      refine qa_ic_le (tgt := 19) (pc1 := 17) dX10_forge_14 rfl rfl (fun h14 => ?_) (fun h14 => ?_)
      · exact absurd ⟨h5, h9, h14⟩ hs
      · refine qa_iconst (pc1 := 18) dX10_forge_17 (v := 0) kc_i0 rfl ?_
        exact qa_iret dX10_forge_18 rfl (by first | rfl | exact kw_bn) rfl rfl rfl rfl
set_option maxRecDepth 20000 in
set_option maxHeartbeats 4000000 in
theorem rt_forgeI (hps : kw_ps P) {kk n : Nat} (hkn : kk < n) (hn : n ≤ 24) (hc : M 176 7 = nI n) {f : Nat} (hf6 : f < 6) (v : Int32) : kw_C l D aC b yX10_forge cX10_forge 4 (some .boolean) 2 [.inr (.inl 176), .inl (nI kk), .inl (nI f), .inl v] C M P (some (.inl 1)) C (ax_u M 182 (8 * kk + f) (M 182 (8 * kk + f) + v)) P := by
  refine ax_body (own := RX10) (ini := false) (by decide) rfl (fun h => by cases h) (Nat.le_of_ble_eq_true rfl) ?_
  refine qa_aload_n (pc1 := 1) dX10_forge_0 rfl rfl rfl ?_
  refine qa_iload_n (pc1 := 2) dX10_forge_1 rfl rfl rfl ?_
  refine qa_callVi (pc1 := 5) dX10_forge_2 rfl (rt_inFlight _) wc_X10_76 wy_X10_inFlight rfl rfl (ci := k_mo) rfl ko_mo (by omega) rfl ?_
  refine qf_if_eq (tgt := 17) (pc1 := 8) dX10_forge_5 rfl rfl (kw_b1.mpr (show ¬ nI kk < 0 ∧ ¬ M 176 7 ≤ nI kk from ⟨nI_pos (by omega), by rw [hc]; exact nI_ge hkn (by omega)⟩)) ?_
  refine qa_iload_n (pc1 := 9) dX10_forge_8 rfl rfl rfl ?_
  refine qn_if_lt (tgt := 17) (pc1 := 12) dX10_forge_9 rfl rfl (by omega) ?_
  refine qa_iload_n (pc1 := 13) dX10_forge_12 rfl rfl rfl ?_
  refine qa_iconst (pc1 := 14) dX10_forge_13 (v := 5) kc_i5 rfl ?_
  refine qt_ic_le (tgt := 19) dX10_forge_14 rfl (nI_le (a := f) (b := 5) (by omega) (by decide)) ?_
  refine qa_aload_n (pc1 := 20) dX10_forge_19 rfl rfl rfl ?_
  refine qa_getP (pc1 := 23) dX10_forge_20 rfl wf_X10_26 rfl ko_mo (by omega) (show P 176 6 = 182 from kp_mo hps (by decide : kw_mo 6 ≠ 0)) ?_
  refine qa_bipush (pc1 := 25) dX10_forge_23 (v := (nI 8)) kc_b8N rfl ?_
  refine qa_iload_n (pc1 := 26) dX10_forge_25 rfl rfl rfl ?_
  refine qn_imul (pc1 := 27) dX10_forge_26 rfl ?_
  refine qa_iload_n (pc1 := 28) dX10_forge_27 rfl rfl rfl ?_
  refine qn_iadd (pc1 := 29) dX10_forge_28 rfl ?_
  refine qa_dup2 (pc1 := 30) dX10_forge_29 rfl ?_
  refine qr_iald (pc1 := 31) dX10_forge_30 rfl ka_m182 rfl (by omega) (by omega) (by omega) ?_
  refine qa_iload_n (pc1 := 32) dX10_forge_31 rfl rfl rfl ?_
  refine qa_iadd (pc1 := 33) dX10_forge_32 rfl ?_
  refine qr_iast (pc1 := 34) dX10_forge_33 rfl ka_m182 rfl (by omega) (by omega) (by omega) ?_
  refine qa_iconst (pc1 := 35) dX10_forge_34 (v := 1) kc_i1 rfl ?_
  exact qa_iret dX10_forge_35 rfl (by first | rfl | exact kw_bn) rfl rfl rfl rfl
set_option maxRecDepth 20000 in
set_option maxHeartbeats 4000000 in
theorem rt_fieldO (s f : Int32) (hs : ¬ ((¬ s < 0 ∧ ¬ M 176 7 ≤ s) ∧ ¬ f < 0 ∧ f ≤ 7)) : kw_C l D aC b yX10_field cX10_field 3 (some .int) 2 [.inr (.inl 176), .inl s, .inl f] C M P (some (.inl (-1))) C M P := by
  refine ax_body (own := RX10) (ini := false) (by decide) rfl (fun h => by cases h) (Nat.le_of_ble_eq_true rfl) ?_
  refine qa_aload_n (pc1 := 1) dX10_field_0 rfl rfl rfl ?_
  refine qa_iload_n (pc1 := 2) dX10_field_1 rfl rfl rfl ?_
  refine qa_callVi (pc1 := 5) dX10_field_2 rfl (rt_inFlight _) wc_X10_76 wy_X10_inFlight rfl rfl (ci := k_mo) rfl ko_mo (by omega) rfl ?_
  refine qb_if_eq (tgt := 18) (pc1 := 8) dX10_field_5 rfl rfl (fun h5 => ?_) (fun h5 => ?_)
  · refine qa_iconst (pc1 := 19) dX10_field_18 (v := (-1)) kc_im1 rfl ?_
    refine qa_goto (tgt := 33) dX10_field_19 rfl ?_
    exact qa_iret dX10_field_33 rfl (vp_nar_int _) rfl rfl rfl rfl
  · refine qa_iload_n (pc1 := 9) dX10_field_8 rfl rfl rfl ?_
    refine qa_if_lt (tgt := 18) (pc1 := 12) dX10_field_9 rfl rfl (fun h9 => ?_) (fun h9 => ?_)
    · refine qa_iconst (pc1 := 19) dX10_field_18 (v := (-1)) kc_im1 rfl ?_
      refine qa_goto (tgt := 33) dX10_field_19 rfl ?_
      exact qa_iret dX10_field_33 rfl (vp_nar_int _) rfl rfl rfl rfl
    · refine qa_iload_n (pc1 := 13) dX10_field_12 rfl rfl rfl ?_
      refine qa_bipush (pc1 := 15) dX10_field_13 (v := 7) kc_b7 rfl ?_
      refine qa_ic_le (tgt := 22) (pc1 := 18) dX10_field_15 rfl rfl (fun h15 => ?_) (fun h15 => ?_)
      · exact absurd ⟨h5, h9, h15⟩ hs
      · refine qa_iconst (pc1 := 19) dX10_field_18 (v := (-1)) kc_im1 rfl ?_
        refine qa_goto (tgt := 33) dX10_field_19 rfl ?_
        exact qa_iret dX10_field_33 rfl (vp_nar_int _) rfl rfl rfl rfl
set_option maxRecDepth 20000 in
set_option maxHeartbeats 4000000 in
theorem rt_fieldI (hps : kw_ps P) {kk n : Nat} (hkn : kk < n) (hn : n ≤ 24) (hc : M 176 7 = nI n) {f : Nat} (hf8 : f < 8) : kw_C l D aC b yX10_field cX10_field 3 (some .int) 2 [.inr (.inl 176), .inl (nI kk), .inl (nI f)] C M P (some (.inl (M 182 (8 * kk + f)))) C M P := by
  refine ax_body (own := RX10) (ini := false) (by decide) rfl (fun h => by cases h) (Nat.le_of_ble_eq_true rfl) ?_
  refine qa_aload_n (pc1 := 1) dX10_field_0 rfl rfl rfl ?_
  refine qa_iload_n (pc1 := 2) dX10_field_1 rfl rfl rfl ?_
  refine qa_callVi (pc1 := 5) dX10_field_2 rfl (rt_inFlight _) wc_X10_76 wy_X10_inFlight rfl rfl (ci := k_mo) rfl ko_mo (by omega) rfl ?_
  refine qf_if_eq (tgt := 18) (pc1 := 8) dX10_field_5 rfl rfl (kw_b1.mpr (show ¬ nI kk < 0 ∧ ¬ M 176 7 ≤ nI kk from ⟨nI_pos (by omega), by rw [hc]; exact nI_ge hkn (by omega)⟩)) ?_
  refine qa_iload_n (pc1 := 9) dX10_field_8 rfl rfl rfl ?_
  refine qn_if_lt (tgt := 18) (pc1 := 12) dX10_field_9 rfl rfl (by omega) ?_
  refine qa_iload_n (pc1 := 13) dX10_field_12 rfl rfl rfl ?_
  refine qa_bipush (pc1 := 15) dX10_field_13 (v := 7) kc_b7 rfl ?_
  refine qt_ic_le (tgt := 22) dX10_field_15 rfl (nI_le (a := f) (b := 7) (by omega) (by decide)) ?_
  refine qa_aload_n (pc1 := 23) dX10_field_22 rfl rfl rfl ?_
  refine qa_getP (pc1 := 26) dX10_field_23 rfl wf_X10_26 rfl ko_mo (by omega) (show P 176 6 = 182 from kp_mo hps (by decide : kw_mo 6 ≠ 0)) ?_
  refine qa_bipush (pc1 := 28) dX10_field_26 (v := (nI 8)) kc_b8N rfl ?_
  refine qa_iload_n (pc1 := 29) dX10_field_28 rfl rfl rfl ?_
  refine qn_imul (pc1 := 30) dX10_field_29 rfl ?_
  refine qa_iload_n (pc1 := 31) dX10_field_30 rfl rfl rfl ?_
  refine qn_iadd (pc1 := 32) dX10_field_31 rfl ?_
  refine qr_iald (pc1 := 33) dX10_field_32 rfl ka_m182 rfl (by omega) (by omega) (by omega) ?_
  exact qa_iret dX10_field_33 rfl (vp_nar_int _) rfl rfl rfl rfl
set_option maxRecDepth 20000 in
set_option maxHeartbeats 4000000 in
theorem rt_flight  : kw_C l D aC b yX10_flight cX10_flight 1 (some .int) 1 [.inr (.inl 176)] C M P (some (.inl (M 176 7))) C M P := by
  refine ax_body (own := RX10) (ini := false) (by decide) rfl (fun h => by cases h) (Nat.le_of_ble_eq_true rfl) ?_
  refine qa_aload_n (pc1 := 1) dX10_flight_0 rfl rfl rfl ?_
  refine qr_getI (pc1 := 4) dX10_flight_1 rfl wf_X10_61 rfl ko_mo (by omega) (by omega) ?_
  exact qa_iret dX10_flight_4 rfl (vp_nar_int _) rfl rfl rfl rfl
set_option maxRecDepth 20000 in
set_option maxHeartbeats 4000000 in
theorem rt_noLine (p y : Int32) : kw_C l D aC b yX10_noLine cX10_noLine 2 (some .boolean) 1 [.inl p, .inl y] C M P (some (.inl (kw_b (¬ (¬ p < 0 ∧ ¬ 1 < p ∧ ¬ y < 0 ∧ y ≤ 3))))) C M P := by
  refine ax_body (own := RX10) (ini := false) (by decide) rfl (fun h => by cases h) (Nat.le_of_ble_eq_true rfl) ?_
  refine qa_iload_n (pc1 := 1) dX10_noLine_0 rfl rfl rfl ?_
  refine qa_if_lt (tgt := 18) (pc1 := 4) dX10_noLine_1 rfl rfl (fun h1 => ?_) (fun h1 => ?_)
  · refine qa_iconst (pc1 := 19) dX10_noLine_18 (v := 1) kc_i1 rfl ?_
    refine qa_goto (tgt := 23) dX10_noLine_19 rfl ?_
    exact qa_iret dX10_noLine_23 rfl (by first | rfl | exact kw_bn) (by simp only [kw_b]; grind) rfl rfl rfl
  · refine qa_iload_n (pc1 := 5) dX10_noLine_4 rfl rfl rfl ?_
    refine qa_iconst (pc1 := 6) dX10_noLine_5 (v := 1) kc_i1 rfl ?_
    refine qa_ic_gt (tgt := 18) (pc1 := 9) dX10_noLine_6 rfl rfl (fun h6 => ?_) (fun h6 => ?_)
    · refine qa_iconst (pc1 := 19) dX10_noLine_18 (v := 1) kc_i1 rfl ?_
      refine qa_goto (tgt := 23) dX10_noLine_19 rfl ?_
      exact qa_iret dX10_noLine_23 rfl (by first | rfl | exact kw_bn) (by simp only [kw_b]; grind) rfl rfl rfl
    · refine qa_iload_n (pc1 := 10) dX10_noLine_9 rfl rfl rfl ?_
      refine qa_if_lt (tgt := 18) (pc1 := 13) dX10_noLine_10 rfl rfl (fun h10 => ?_) (fun h10 => ?_)
      · refine qa_iconst (pc1 := 19) dX10_noLine_18 (v := 1) kc_i1 rfl ?_
        refine qa_goto (tgt := 23) dX10_noLine_19 rfl ?_
        exact qa_iret dX10_noLine_23 rfl (by first | rfl | exact kw_bn) (by simp only [kw_b]; grind) rfl rfl rfl
      · refine qa_iload_n (pc1 := 14) dX10_noLine_13 rfl rfl rfl ?_
        refine qa_iconst (pc1 := 15) dX10_noLine_14 (v := 3) kc_i3 rfl ?_
        refine qa_ic_le (tgt := 22) (pc1 := 18) dX10_noLine_15 rfl rfl (fun h15 => ?_) (fun h15 => ?_)
        · refine qa_iconst (pc1 := 23) dX10_noLine_22 (v := 0) kc_i0 rfl ?_
          exact qa_iret dX10_noLine_23 rfl (by first | rfl | exact kw_bn) (by simp only [kw_b]; grind) rfl rfl rfl
        · refine qa_iconst (pc1 := 19) dX10_noLine_18 (v := 1) kc_i1 rfl ?_
          refine qa_goto (tgt := 23) dX10_noLine_19 rfl ?_
          exact qa_iret dX10_noLine_23 rfl (by first | rfl | exact kw_bn) (by simp only [kw_b]; grind) rfl rfl rfl
set_option maxRecDepth 20000 in
set_option maxHeartbeats 4000000 in
theorem rt_pending (hps : kw_ps P) {r : Nat} (hr : r < 8) : kw_C l D aC b yX10_pending cX10_pending 2 (some .boolean) 1 [.inr (.inl 176), .inl (nI r)] C M P (some (.inl (kw_b (xr_pg M r)))) C M P := by
  refine ax_body (own := RX10) (ini := false) (by decide) rfl (fun h => by cases h) (Nat.le_of_ble_eq_true rfl) ?_
  refine qa_aload_n (pc1 := 1) dX10_pending_0 rfl rfl rfl ?_
  refine qa_getP (pc1 := 4) dX10_pending_1 rfl wf_X10_32 rfl ko_mo (by omega) (show P 176 9 = 184 from kp_mo hps (by decide : kw_mo 9 ≠ 0)) ?_
  refine qa_bipush (pc1 := 6) dX10_pending_4 (v := (nI 10)) kc_b10N rfl ?_
  refine qa_iload_n (pc1 := 7) dX10_pending_6 rfl rfl rfl ?_
  refine qn_imul (pc1 := 8) dX10_pending_7 rfl ?_
  refine qr_iald (pc1 := 9) dX10_pending_8 rfl ka_m184 rfl (by omega) (by omega) (by omega) ?_
  refine qa_iconst (pc1 := 10) dX10_pending_9 (v := 1) kc_i1 rfl ?_
  refine qa_ic_eq (tgt := 26) (pc1 := 13) dX10_pending_10 rfl rfl (fun h10 => ?_) (fun h10 => ?_)
  · refine qa_iconst (pc1 := 27) dX10_pending_26 (v := 1) kc_i1 rfl ?_
    refine qa_goto (tgt := 31) dX10_pending_27 rfl ?_
    exact qa_iret dX10_pending_31 rfl (by first | rfl | exact kw_bn) (by simp only [kw_b]; grind) rfl rfl rfl
  · refine qa_aload_n (pc1 := 14) dX10_pending_13 rfl rfl rfl ?_
    refine qa_getP (pc1 := 17) dX10_pending_14 rfl wf_X10_32 rfl ko_mo (by omega) (show P 176 9 = 184 from kp_mo hps (by decide : kw_mo 9 ≠ 0)) ?_
    refine qa_bipush (pc1 := 19) dX10_pending_17 (v := (nI 10)) kc_b10N rfl ?_
    refine qa_iload_n (pc1 := 20) dX10_pending_19 rfl rfl rfl ?_
    refine qn_imul (pc1 := 21) dX10_pending_20 rfl ?_
    refine qr_iald (pc1 := 22) dX10_pending_21 rfl ka_m184 rfl (by omega) (by omega) (by omega) ?_
    refine qa_iconst (pc1 := 23) dX10_pending_22 (v := 3) kc_i3 rfl ?_
    refine qa_ic_ne (tgt := 30) (pc1 := 26) dX10_pending_23 rfl rfl (fun h23 => ?_) (fun h23 => ?_)
    · refine qa_iconst (pc1 := 31) dX10_pending_30 (v := 0) kc_i0 rfl ?_
      exact qa_iret dX10_pending_31 rfl (by first | rfl | exact kw_bn) (by simp only [kw_b]; grind) rfl rfl rfl
    · refine qa_iconst (pc1 := 27) dX10_pending_26 (v := 1) kc_i1 rfl ?_
      refine qa_goto (tgt := 31) dX10_pending_27 rfl ?_
      exact qa_iret dX10_pending_31 rfl (by first | rfl | exact kw_bn) (by simp only [kw_b]; grind) rfl rfl rfl
set_option maxRecDepth 20000 in
set_option maxHeartbeats 4000000 in
theorem rt_sendLine (hps : kw_ps P) (hk : xr_nok M) {r : Nat} (hr : r < 8) : kw_C l D aC b yX10_sendLine cX10_sendLine 8 none 4 [.inr (.inl 176), .inl (nI r)] C M P none C (xr_sl M r) P := by
  refine ax_body (own := RX10) (ini := false) (by decide) rfl (fun h => by cases h) (Nat.le_of_ble_eq_true rfl) ?_
  have hl2 : xr_lk (nI (r / 4)) 2 := xr_lk2 (by omega)
  refine qa_bipush (pc1 := 2) dX10_sendLine_0 (v := (nI 10)) kc_b10N rfl ?_
  refine qa_iload_n (pc1 := 3) dX10_sendLine_2 rfl rfl rfl ?_
  refine qn_imul (pc1 := 4) dX10_sendLine_3 rfl ?_
  refine qa_istore_n (pc1 := 5) dX10_sendLine_4 rfl (by decide) rfl ?_
  refine qa_iload_n (pc1 := 6) dX10_sendLine_5 rfl rfl rfl ?_
  refine qa_iconst (pc1 := 7) dX10_sendLine_6 (v := (nI 4)) kc_i4N rfl ?_
  refine qn_idiv (pc1 := 8) dX10_sendLine_7 rfl (by omega) (by omega) (by omega) ?_
  refine qa_istore_n (pc1 := 9) dX10_sendLine_8 rfl (by decide) rfl ?_
  refine qa_aload_n (pc1 := 10) dX10_sendLine_9 rfl rfl rfl ?_
  refine qa_getP (pc1 := 13) dX10_sendLine_10 rfl wf_X10_32 rfl ko_mo (by omega) (show P 176 9 = 184 from kp_mo hps (by decide : kw_mo 9 ≠ 0)) ?_
  refine qa_iload_n (pc1 := 14) dX10_sendLine_13 rfl rfl rfl ?_
  refine qa_iconst (pc1 := 15) dX10_sendLine_14 (v := (nI 2)) kc_i2N rfl ?_
  refine qn_iadd (pc1 := 16) dX10_sendLine_15 rfl ?_
  refine qr_iald (pc1 := 17) dX10_sendLine_16 rfl ka_m184 rfl (by omega) (by omega) (by omega) ?_
  refine qa_istore (pc1 := 19) dX10_sendLine_17 (by decide) rfl ?_
  refine qa_aload_n (pc1 := 20) dX10_sendLine_19 rfl rfl rfl ?_
  refine qa_getP (pc1 := 23) dX10_sendLine_20 rfl wf_X10_32 rfl ko_mo (by omega) (show P 176 9 = 184 from kp_mo hps (by decide : kw_mo 9 ≠ 0)) ?_
  refine qa_iload_n (pc1 := 24) dX10_sendLine_23 rfl rfl rfl ?_
  refine qa_iconst (pc1 := 25) dX10_sendLine_24 (v := (nI 3)) kc_i3N rfl ?_
  refine qn_iadd (pc1 := 26) dX10_sendLine_25 rfl ?_
  refine qr_iald (pc1 := 27) dX10_sendLine_26 rfl ka_m184 rfl (by omega) (by omega) (by omega) ?_
  refine qa_istore (pc1 := 29) dX10_sendLine_27 (by decide) rfl ?_
  refine qa_aload_n (pc1 := 30) dX10_sendLine_29 rfl rfl rfl ?_
  refine qa_getP (pc1 := 33) dX10_sendLine_30 rfl wf_X10_32 rfl ko_mo (by omega) (show P 176 9 = 184 from kp_mo hps (by decide : kw_mo 9 ≠ 0)) ?_
  refine qa_iload_n (pc1 := 34) dX10_sendLine_33 rfl rfl rfl ?_
  refine qa_iconst (pc1 := 35) dX10_sendLine_34 (v := (nI 4)) kc_i4N rfl ?_
  refine qn_iadd (pc1 := 36) dX10_sendLine_35 rfl ?_
  refine qr_iald (pc1 := 37) dX10_sendLine_36 rfl ka_m184 rfl (by omega) (by omega) (by omega) ?_
  refine qa_istore (pc1 := 39) dX10_sendLine_37 (by decide) rfl ?_
  refine qa_aload_n (pc1 := 40) dX10_sendLine_39 rfl rfl rfl ?_
  refine qa_getP (pc1 := 43) dX10_sendLine_40 rfl wf_X10_32 rfl ko_mo (by omega) (show P 176 9 = 184 from kp_mo hps (by decide : kw_mo 9 ≠ 0)) ?_
  refine qa_iload_n (pc1 := 44) dX10_sendLine_43 rfl rfl rfl ?_
  refine qr_iald (pc1 := 45) dX10_sendLine_44 rfl ka_m184 rfl (by omega) (by omega) (by omega) ?_
  refine qa_iconst (pc1 := 46) dX10_sendLine_45 (v := 1) kc_i1 rfl ?_
  refine qa_ic_ne (tgt := 89) (pc1 := 49) dX10_sendLine_46 rfl rfl (fun h46 => ?_) (fun h46 => ?_)
  · refine qa_aload_n (pc1 := 90) dX10_sendLine_89 rfl rfl rfl ?_
    refine qa_iload_n (pc1 := 91) dX10_sendLine_90 rfl rfl rfl ?_
    refine qa_iconst (pc1 := 92) dX10_sendLine_91 (v := 2) kc_i2 rfl ?_
    refine qa_iconst (pc1 := 93) dX10_sendLine_92 (v := 3) kc_i3 rfl ?_
    refine qa_iload (pc1 := 95) dX10_sendLine_93 rfl rfl ?_
    refine qa_iload (pc1 := 97) dX10_sendLine_95 rfl rfl ?_
    refine qa_iload (pc1 := 99) dX10_sendLine_97 rfl rfl ?_
    refine qa_aload_n (pc1 := 100) dX10_sendLine_99 rfl rfl rfl ?_
    refine qa_getP (pc1 := 103) dX10_sendLine_100 rfl wf_X10_32 rfl ko_mo (by omega) (show P 176 9 = 184 from kp_mo hps (by decide : kw_mo 9 ≠ 0)) ?_
    refine qa_iload_n (pc1 := 104) dX10_sendLine_103 rfl rfl rfl ?_
    refine qa_bipush (pc1 := 106) dX10_sendLine_104 (v := (nI 6)) kc_b6N rfl ?_
    refine qn_iadd (pc1 := 107) dX10_sendLine_106 rfl ?_
    refine qr_iald (pc1 := 108) dX10_sendLine_107 rfl ka_m184 rfl (by omega) (by omega) (by omega) ?_
    refine qa_callVv (pc1 := 111) dX10_sendLine_108 rfl (rt_snd hps (by assumption) _ _ _ _ _ _ _ (by assumption)) wc_X10_102 wy_X10_put rfl rfl (ci := k_mo) rfl ko_mo (by omega) rfl ?_
    refine qa_aload_n (pc1 := 112) dX10_sendLine_111 rfl rfl rfl ?_
    refine qa_getP (pc1 := 115) dX10_sendLine_112 rfl wf_X10_32 rfl ko_mo (by omega) (show P 176 9 = 184 from kp_mo hps (by decide : kw_mo 9 ≠ 0)) ?_
    refine qa_iload_n (pc1 := 116) dX10_sendLine_115 rfl rfl rfl ?_
    refine qa_bipush (pc1 := 118) dX10_sendLine_116 (v := (nI 8)) kc_b8N rfl ?_
    refine qn_iadd (pc1 := 119) dX10_sendLine_118 rfl ?_
    refine qa_aload_n (pc1 := 120) dX10_sendLine_119 rfl rfl rfl ?_
    refine qr_getI (pc1 := 123) dX10_sendLine_120 rfl wf_X10_106 rfl ko_mo (by omega) (by omega) ?_
    refine qr_iast (pc1 := 124) dX10_sendLine_123 rfl ka_m184 rfl (by omega) (by omega) (by omega) ?_
    refine qa_aload_n (pc1 := 125) dX10_sendLine_124 rfl rfl rfl ?_
    refine qa_getP (pc1 := 128) dX10_sendLine_125 rfl wf_X10_32 rfl ko_mo (by omega) (show P 176 9 = 184 from kp_mo hps (by decide : kw_mo 9 ≠ 0)) ?_
    refine qa_iload_n (pc1 := 129) dX10_sendLine_128 rfl rfl rfl ?_
    refine qa_bipush (pc1 := 131) dX10_sendLine_129 (v := (nI 9)) kc_b9N rfl ?_
    refine qn_iadd (pc1 := 132) dX10_sendLine_131 rfl ?_
    refine qa_dup2 (pc1 := 133) dX10_sendLine_132 rfl ?_
    refine qr_iald (pc1 := 134) dX10_sendLine_133 rfl ka_m184 rfl (by omega) (by omega) (by omega) ?_
    refine qa_iconst (pc1 := 135) dX10_sendLine_134 (v := 1) kc_i1 rfl ?_
    refine qa_iadd (pc1 := 136) dX10_sendLine_135 rfl ?_
    refine qr_iast (pc1 := 137) dX10_sendLine_136 rfl ka_m184 rfl (by omega) (by omega) (by omega) ?_
    exact qa_vret dX10_sendLine_137 rfl rfl rfl (by simp only [xr_sl, xr_sl2, xr_sl1]; grind) rfl
  · refine qa_aload_n (pc1 := 50) dX10_sendLine_49 rfl rfl rfl ?_
    refine qa_getP (pc1 := 53) dX10_sendLine_50 rfl wf_X10_32 rfl ko_mo (by omega) (show P 176 9 = 184 from kp_mo hps (by decide : kw_mo 9 ≠ 0)) ?_
    refine qa_iload_n (pc1 := 54) dX10_sendLine_53 rfl rfl rfl ?_
    refine qa_iconst (pc1 := 55) dX10_sendLine_54 (v := (nI 5)) kc_i5N rfl ?_
    refine qn_iadd (pc1 := 56) dX10_sendLine_55 rfl ?_
    refine qr_iald (pc1 := 57) dX10_sendLine_56 rfl ka_m184 rfl (by omega) (by omega) (by omega) ?_
    refine qa_aload_n (pc1 := 58) dX10_sendLine_57 rfl rfl rfl ?_
    refine qa_getP (pc1 := 61) dX10_sendLine_58 rfl wf_X10_7 rfl ko_mo (by omega) (show P 176 0 = 177 from kp_mo hps (by decide : kw_mo 0 ≠ 0)) ?_
    refine qa_iload_n (pc1 := 62) dX10_sendLine_61 rfl rfl rfl ?_
    refine qr_iald (pc1 := 63) dX10_sendLine_62 rfl ka_m177 rfl (by omega) (by omega) (by omega) ?_
    refine qa_iload (pc1 := 65) dX10_sendLine_63 rfl rfl ?_
    refine qa_callSi (pc1 := 68) dX10_sendLine_65 rfl (rt_mix _ _) wc_X10_57 wy_X10_mix rfl rfl rfl ?_
    refine qa_ixor (pc1 := 69) dX10_sendLine_68 rfl ?_
    refine qa_istore (pc1 := 71) dX10_sendLine_69 (by decide) rfl ?_
    refine qa_aload_n (pc1 := 72) dX10_sendLine_71 rfl rfl rfl ?_
    refine qa_iload_n (pc1 := 73) dX10_sendLine_72 rfl rfl rfl ?_
    refine qa_iconst (pc1 := 74) dX10_sendLine_73 (v := 2) kc_i2 rfl ?_
    refine qa_iconst (pc1 := 75) dX10_sendLine_74 (v := 0) kc_i0 rfl ?_
    refine qa_iload (pc1 := 77) dX10_sendLine_75 rfl rfl ?_
    refine qa_iload (pc1 := 79) dX10_sendLine_77 rfl rfl ?_
    refine qa_iload (pc1 := 81) dX10_sendLine_79 rfl rfl ?_
    refine qa_iload (pc1 := 83) dX10_sendLine_81 rfl rfl ?_
    refine qa_callVv (pc1 := 86) dX10_sendLine_83 rfl (rt_snd hps (by assumption) _ _ _ _ _ _ _ (by assumption)) wc_X10_102 wy_X10_put rfl rfl (ci := k_mo) rfl ko_mo (by omega) rfl ?_
    refine qa_goto (tgt := 111) dX10_sendLine_86 rfl ?_
    refine qa_aload_n (pc1 := 112) dX10_sendLine_111 rfl rfl rfl ?_
    refine qa_getP (pc1 := 115) dX10_sendLine_112 rfl wf_X10_32 rfl ko_mo (by omega) (show P 176 9 = 184 from kp_mo hps (by decide : kw_mo 9 ≠ 0)) ?_
    refine qa_iload_n (pc1 := 116) dX10_sendLine_115 rfl rfl rfl ?_
    refine qa_bipush (pc1 := 118) dX10_sendLine_116 (v := (nI 8)) kc_b8N rfl ?_
    refine qn_iadd (pc1 := 119) dX10_sendLine_118 rfl ?_
    refine qa_aload_n (pc1 := 120) dX10_sendLine_119 rfl rfl rfl ?_
    refine qr_getI (pc1 := 123) dX10_sendLine_120 rfl wf_X10_106 rfl ko_mo (by omega) (by omega) ?_
    refine qr_iast (pc1 := 124) dX10_sendLine_123 rfl ka_m184 rfl (by omega) (by omega) (by omega) ?_
    refine qa_aload_n (pc1 := 125) dX10_sendLine_124 rfl rfl rfl ?_
    refine qa_getP (pc1 := 128) dX10_sendLine_125 rfl wf_X10_32 rfl ko_mo (by omega) (show P 176 9 = 184 from kp_mo hps (by decide : kw_mo 9 ≠ 0)) ?_
    refine qa_iload_n (pc1 := 129) dX10_sendLine_128 rfl rfl rfl ?_
    refine qa_bipush (pc1 := 131) dX10_sendLine_129 (v := (nI 9)) kc_b9N rfl ?_
    refine qn_iadd (pc1 := 132) dX10_sendLine_131 rfl ?_
    refine qa_dup2 (pc1 := 133) dX10_sendLine_132 rfl ?_
    refine qr_iald (pc1 := 134) dX10_sendLine_133 rfl ka_m184 rfl (by omega) (by omega) (by omega) ?_
    refine qa_iconst (pc1 := 135) dX10_sendLine_134 (v := 1) kc_i1 rfl ?_
    refine qa_iadd (pc1 := 136) dX10_sendLine_135 rfl ?_
    refine qr_iast (pc1 := 137) dX10_sendLine_136 rfl ka_m184 rfl (by omega) (by omega) (by omega) ?_
    exact qa_vret dX10_sendLine_137 rfl rfl rfl (by simp only [xr_sl, xr_sl2, xr_sl1]; grind) rfl
end REF
