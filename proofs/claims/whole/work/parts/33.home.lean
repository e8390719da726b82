
abbrev xc_oa (C : ax_I) (h : Nat) (a : Int32) : Prop := ¬ a < 0 ∧ ¬ 6 ≤ a ∧ ¬ C (84 + 48 * h) a.toNatClampNeg = 0
def xc_ua (C : ax_I) (h : Nat) (a : Int32) : Int32 := if xc_oa C h a then C (86 + 48 * h) a.toNatClampNeg else -1
def xc_cnt (C : ax_I) (h : Nat) (u : Int32) (i f : Nat) (n : Int32) : Int32 := match f with
  | 0 => n
  | g + 1 => xc_cnt C h u (i + 1) g (if ¬ C (84 + 48 * h) i = 0 ∧ C (86 + 48 * h) i = u then n + 1 else n)
def xc_fr (C : ax_I) (h : Nat) (i : Nat) : Bool := decide (C (84 + 48 * h) i = 0)
def xc_least (C : ax_I) (h : Nat) : Option Nat := kw_first (xc_fr C h) 0 6
def xc_open (C : ax_I) (h j : Nat) (num u : Int32) : ax_I := ax_u (ax_u (ax_u C (84 + 48 * h) j 1) (85 + 48 * h) j num) (86 + 48 * h) j u
def xc_end (C : ax_I) (h j : Nat) : ax_I := if C (84 + 48 * h) j = 0 then C else ax_u C (84 + 48 * h) j 0
abbrev xc_e1c (C : ax_I) (h : Nat) (num u : Int32) (i : Nat) : Prop := ¬ C (84 + 48 * h) i = 0 ∧ C (85 + 48 * h) i = num ∧ C (86 + 48 * h) i = u
def xc_e1 (C : ax_I) (h : Nat) (num u : Int32) (i : Nat) : ax_I := if xc_e1c C h num u i then ax_u (ax_u C (84 + 48 * h) i 0) (83 + 48 * h) 3 ((ax_u C (84 + 48 * h) i 0) (83 + 48 * h) 3 + 1) else C
def xc_ea (h : Nat) (num u : Int32) (i f : Nat) (C : ax_I) : ax_I := match f with
  | 0 => C
  | g + 1 => xc_ea h num u (i + 1) g (xc_e1 C h num u i)
def xc_sfg (h : Nat) (i f : Nat) (C : ax_I) : ax_I := match f with
  | 0 => C
  | g + 1 => xc_sfg h (i + 1) g (ax_u C (84 + 48 * h) i 0)
def xc_sf (C : ax_I) (h : Nat) : ax_I := ax_u (xc_sfg h 0 6 C) (83 + 48 * h) 3 0
def xc_sa (C : ax_I) (r : Nat) (x a b : Int32) : ax_I := ax_u (ax_u (ax_u C r 5 x) r 6 a) r 7 b
def xc_tr (C : ax_I) (r q : Nat) (now : Int32) : ax_I := ax_u (ax_u (ax_u (ax_u (ax_u C r 0 (C q 0)) r 1 (C q 1)) r 2 (C q 2)) r 3 (C q 3)) r 4 now
abbrev xc_us (u : Int32) : Prop := ¬ u < 0 ∧ ¬ 12 ≤ u
abbrev xc_adm (C : ax_I) (h : Nat) (u pw : Int32) : Prop := xc_us u ∧ ¬ C (82 + 48 * h) u.toNatClampNeg = -1 ∧ C (81 + 48 * h) u.toNatClampNeg = pw
def xc_ask (C : ax_I) (h r : Nat) (hid : Int32) : ax_I :=
  if xc_adm C h (C r 3) (hid ^^^ xa_mix (xc_key C (C (80 + 48 * h) 0) 2) (C r 2)) then
    (if xc_cnt C h (C r 3) 0 6 0 < C (82 + 48 * h) (C r 3).toNatClampNeg then
      (if xc_io (xc_least C h) = -1 then xc_sa C r 2 3 0 else xc_sa C r 1 (C (80 + 48 * h) 5) (xc_io (xc_least C h)))
    else xc_sa C r 2 2 0)
  else xc_sa C r 2 1 0
/-- the record's address is one, where it is used as one -/
abbrev xc_rok (C : ax_I) (r : Nat) : Prop := (C r 0 = 5 ∨ C r 5 = 1) → (C r 7).toNatClampNeg < 6 ∧ C r 7 = nI (C r 7).toNatClampNeg
def xc_carry (C : ax_I) (h r : Nat) : ax_I := if C r 0 = 5 then xc_end C h (C r 7).toNatClampNeg else if C r 5 = 1 then xc_open C h (C r 7).toNatClampNeg (C r 6) (C r 3) else if C r 5 = 4 then xc_ea h (C r 7) (C r 6) 0 6 C else C
/-- a row of the class that is not the Sessions object's or one of its arrays stays -/
theorem xc_ea_o {h : Nat} {num u : Int32} {f i : Nat} {C : ax_I} {n : Nat} (h1 : ¬ n = 83 + 48 * h) (h2 : ¬ n = 84 + 48 * h) : xc_ea h num u i f C n = C n := by
  induction f generalizing i C with
  | zero => rfl
  | succ f ih =>
    unfold xc_ea
    rw [ih]
    unfold xc_e1
    split
    · funext j; simp [ax_u, h1, h2]
    · rfl
theorem xc_carry_o {C : ax_I} {h r n : Nat} (h1 : ¬ n = 83 + 48 * h) (h2 : ¬ n = 84 + 48 * h) (h3 : ¬ n = 85 + 48 * h) (h4 : ¬ n = 86 + 48 * h) : xc_carry C h r n = C n := by
  unfold xc_carry
  split
  · unfold xc_end; split
    · rfl
    · funext j; simp [ax_u, h2]
  · split
    · funext j; simp [xc_open, ax_u, h2, h3, h4]
    · split
      · exact xc_ea_o h1 h2
      · rfl
def xc_add (C : ax_I) (h k : Nat) : ax_I := ax_u (xc_carry C h (88 + 48 * h + k)) (80 + 48 * h) 5 (nI (k + 1))
def xc_sao (C : ax_I) (P : ax_P) (h r : Nat) : ax_I := xc_snd C P (C (80 + 48 * h) 0) 2 (C r 5) (C r 1) (C r 2) (C r 6) (C r 7)
/-- record j makes the request in q known at 'now' -/
def xc_kn (C : ax_I) (h q : Nat) (now : Int32) (j : Nat) : Bool := decide (C (88 + 48 * h + j) 0 = C q 0 ∧ C (88 + 48 * h + j) 1 = C q 1 ∧ C (88 + 48 * h + j) 2 = C q 2 ∧ ¬ 20 < now - C (88 + 48 * h + j) 4)
def kw_m (j : Nat) : Int32 := nI j - 1
theorem kw_m_s (j : Nat) : kw_m (j + 1) = nI j := nI_pred j
theorem kw_m_dec (j : Nat) : nI j + Int32.ofInt (-1) = kw_m j := by
  rw [kw_m, Int32.sub_eq_add_neg]; rfl
theorem kw_last_some {c : Nat → Bool} {j k : Nat} (h : kw_last c j = some k) : k < j ∧ c k = true ∧ ∀ i, k < i → i < j → ¬ c i = true := by
  induction j with
  | zero => cases h
  | succ j ih =>
    unfold kw_last at h
    by_cases hc : c j = true
    · rw [if_pos hc] at h; cases h
      exact ⟨by omega, hc, fun i h1 h2 => by omega⟩
    · rw [if_neg hc] at h
      obtain ⟨h1, h2, h3⟩ := ih h
      refine ⟨by omega, h2, fun i h4 h5 => ?_⟩
      by_cases e : i = j
      · rw [e]; exact hc
      · exact h3 i h4 (by omega)
theorem kw_last_none {c : Nat → Bool} {j : Nat} (h : kw_last c j = none) : ∀ i, i < j → ¬ c i = true := by
  induction j with
  | zero => intro i hi; omega
  | succ j ih =>
    unfold kw_last at h
    by_cases hc : c j = true
    · rw [if_pos hc] at h; cases h
    · rw [if_neg hc] at h
      intro i hi
      by_cases e : i = j
      · rw [e]; exact hc
      · exact ih h i (by omega)
def xc_new (C : ax_I) (h k d : Nat) : ax_I := if C (d + 1) 0 = 0 then xc_ask (xc_tr C (88 + 48 * h + k) (d + 1) (C 2 4)) h (88 + 48 * h + k) (C (d + 1) 4) else xc_sa (xc_tr C (88 + 48 * h + k) (d + 1) (C 2 4)) (88 + 48 * h + k) 4 (C (d + 1) 3) (C (d + 1) 4)
def xc_ev (C : ax_I) (h k : Nat) (a : Int32) : ax_I := xc_sa (ax_u C (88 + 48 * h + k) 0 5) (88 + 48 * h + k) (-1) 0 a
/-- the answers of the records from i on, f of them, are sent -/
def xc_md (P : ax_P) (h : Nat) (i f : Nat) (C : ax_I) : ax_I := match f with
  | 0 => C
  | g + 1 => xc_md P h (i + 1) g (if C (88 + 48 * h + i) 5 = -1 then C else xc_sao C P h (88 + 48 * h + i))
def xc_rp (h : Nat) (i f : Nat) (C : ax_I) : ax_I := match f with
  | 0 => C
  | g + 1 => xc_rp h (i + 1) g (xc_carry C h (88 + 48 * h + i))
def xc_htell (C : ax_I) (h : Nat) (w : Int32) : Int32 := if w = 0 then C (80 + 48 * h) 5 else if w = 1 then C (80 + 48 * h) 6 else if w = 2 then C (83 + 48 * h) 3 else -1
theorem kw_case3 (w : Int32) : w = 0 ∨ w = 1 ∨ w = 2 ∨ (¬ w = 0 ∧ ¬ w = 1 ∧ ¬ w = 2 ∧ (w.toInt < 0 ∨ 2 < w.toInt)) := by
  by_cases h : vp_in w 3
  · obtain ⟨j, hj, e⟩ := vp_in_of h (by decide)
    rcases j with _ | _ | _ | j
    · exact Or.inl e
    · exact Or.inr (Or.inl e)
    · exact Or.inr (Or.inr (Or.inl e))
    · omega
  · refine Or.inr (Or.inr (Or.inr ⟨?_, ?_, ?_, ?_⟩))
    · intro e; apply h; rw [e, vp_in_iff]; decide
    · intro e; apply h; rw [e, vp_in_iff]; decide
    · intro e; apply h; rw [e, vp_in_iff]; decide
    · rw [vp_in_iff] at h; omega

section HO
variable {l : Launch} {D : va_G} {aC : Nat → ClassId} {b : Nat} {C M : ax_I} {P : ax_P}
set_option maxRecDepth 20000 in
set_option maxHeartbeats 4000000 in
theorem ct_isOpenAt (hps : kw_ps P) {h : Nat} (hh : h < 2) (a : Int32) : kw_C l D aC b yX9_isOpenAt cX9_isOpenAt 2 (some .boolean) 1 [.inr (.inl (83 + 48 * h)), .inl a] C M P (some (.inl (kw_b (xc_oa C h a)))) C M P := by
  refine ax_body (own := RX9) (ini := false) (by decide) rfl (fun h => by cases h) (Nat.le_of_ble_eq_true rfl) ?_
  refine qa_iload_n (pc1 := 1) dX9_isOpenAt_0 rfl rfl rfl ?_
  refine qa_if_lt (tgt := 23) (pc1 := 4) dX9_isOpenAt_1 rfl rfl (fun h1 => ?_) (fun h1 => ?_)
  · refine qa_iconst (pc1 := 24) dX9_isOpenAt_23 (v := 0) kc_i0 rfl ?_
    exact qa_iret dX9_isOpenAt_24 rfl (by first | rfl | exact kw_bn) (by simp only [kw_b]; grind) rfl rfl rfl
  · refine qa_iload_n (pc1 := 5) dX9_isOpenAt_4 rfl rfl rfl ?_
    refine qa_bipush (pc1 := 7) dX9_isOpenAt_5 (v := 6) kc_b6 rfl ?_
    refine qa_ic_ge (tgt := 23) (pc1 := 10) dX9_isOpenAt_7 rfl rfl (fun h7 => ?_) (fun h7 => ?_)
    · refine qa_iconst (pc1 := 24) dX9_isOpenAt_23 (v := 0) kc_i0 rfl ?_
      exact qa_iret dX9_isOpenAt_24 rfl (by first | rfl | exact kw_bn) (by simp only [kw_b]; grind) rfl rfl rfl
    · refine qa_aload_n (pc1 := 11) dX9_isOpenAt_10 rfl rfl rfl ?_
      refine qa_getP (pc1 := 14) dX9_isOpenAt_11 rfl wf_X9_11 rfl (ko_se _ (by assumption)) (by omega) (kp_op hps (by assumption)) ?_
      refine qa_iload_n (pc1 := 15) dX9_isOpenAt_14 rfl rfl rfl ?_
      refine qc_zaldx (pc1 := 16) dX9_isOpenAt_15 rfl (ka_op _ (by assumption)) rfl (by omega) (by omega) (kw_iny rfl h1 h7) ?_
      refine qa_if_eq (tgt := 23) (pc1 := 19) dX9_isOpenAt_16 rfl rfl (fun h16 => ?_) (fun h16 => ?_)
      · refine qa_iconst (pc1 := 24) dX9_isOpenAt_23 (v := 0) kc_i0 rfl ?_
        exact qa_iret dX9_isOpenAt_24 rfl (by first | rfl | exact kw_bn) (by simp only [kw_b]; grind) rfl rfl rfl
      · refine qa_iconst (pc1 := 20) dX9_isOpenAt_19 (v := 1) kc_i1 rfl ?_
        refine qa_goto (tgt := 24) dX9_isOpenAt_20 rfl ?_
        exact qa_iret dX9_isOpenAt_24 rfl (by first | rfl | exact kw_bn) (by simp only [kw_b]; grind) rfl rfl rfl
set_option maxRecDepth 20000 in
set_option maxHeartbeats 4000000 in
theorem ct_userAt (hps : kw_ps P) {h : Nat} (hh : h < 2) (a : Int32) : kw_C l D aC b yX9_userAt cX9_userAt 2 (some .int) 2 [.inr (.inl (83 + 48 * h)), .inl a] C M P (some (.inl (xc_ua C h a))) C M P := by
  refine ax_body (own := RX9) (ini := false) (by decide) rfl (fun h => by cases h) (Nat.le_of_ble_eq_true rfl) ?_
  refine qa_aload_n (pc1 := 1) dX9_userAt_0 rfl rfl rfl ?_
  refine qa_iload_n (pc1 := 2) dX9_userAt_1 rfl rfl rfl ?_
  refine qa_callVi (pc1 := 5) dX9_userAt_2 rfl (ct_isOpenAt hps (by assumption) _) wc_X9_26 wy_X9_isOpenAt rfl rfl (ci := k_se) rfl (ko_se _ (by assumption)) (by omega) rfl ?_
  refine qb_if_eq (tgt := 17) (pc1 := 8) dX9_userAt_5 rfl rfl (fun h5 => ?_) (fun h5 => ?_)
  · refine qa_iconst (pc1 := 18) dX9_userAt_17 (v := (-1)) kc_im1 rfl ?_
    exact qa_iret dX9_userAt_18 rfl (vp_nar_int _) (by simp only [xc_ua]; grind) rfl rfl rfl
  · refine qa_aload_n (pc1 := 9) dX9_userAt_8 rfl rfl rfl ?_
    refine qa_getP (pc1 := 12) dX9_userAt_9 rfl wf_X9_19 rfl (ko_se _ (by assumption)) (by omega) (kp_us hps (by assumption)) ?_
    refine qa_iload_n (pc1 := 13) dX9_userAt_12 rfl rfl rfl ?_
    refine qc_ialdx (pc1 := 14) dX9_userAt_13 rfl (ka_us _ (by assumption)) rfl (by omega) (by omega) (kw_iny rfl h5.1 h5.2.1) ?_
    refine qa_goto (tgt := 18) dX9_userAt_14 rfl ?_
    exact qa_iret dX9_userAt_18 rfl (vp_nar_int _) (by simp only [xc_ua]; grind) rfl rfl rfl
set_option maxRecDepth 20000 in
set_option maxHeartbeats 4000000 in
theorem ct_countOf (hps : kw_ps P) {h : Nat} (hh : h < 2) (u : Int32) : kw_C l D aC b yX9_countOf cX9_countOf 4 (some .int) 1 [.inr (.inl (83 + 48 * h)), .inl u] C M P (some (.inl (xc_cnt C h u 0 6 0))) C M P := by
  refine ax_body (own := RX9) (ini := false) (by decide) rfl (fun h => by cases h) (Nat.le_of_ble_eq_true rfl) ?_
  have loop : ∀ i, i ≤ 6 → ∀ n : Int32, xc_cnt C h u i (6 - i) n = xc_cnt C h u 0 6 0 → ax_G l D aC b RX9 cX9_countOf 4 (some .int) false (kw_rm 1) 191 (ax_F D aC b 191 0 0 (kw_R (some (.inl (xc_cnt C h u 0 6 0))) kw_K kw_L (kw_gl C M) P)) (fun _ => True) 4 [(3, .inl (nI i)), (2, .inl n), (0, .inr (.inl (83 + 48 * h))), (1, .inl u)] [] 0 0 kw_K kw_L (kw_gl C M) P := by
    refine kw_loopB 6 (fun i hiN ih n hf => ?_)
    refine qa_iload_n (pc1 := 5) dX9_countOf_4 rfl rfl rfl ?_
    refine qa_bipush (pc1 := 7) dX9_countOf_5 (v := (nI 6)) kc_b6N rfl ?_
    refine qn_ic_ge (tgt := 38) (pc1 := 10) dX9_countOf_7 rfl rfl (by omega) (by omega) (fun h7 => ?_) (fun h7 => ?_)
    · refine qa_iload_n (pc1 := 39) dX9_countOf_38 rfl rfl rfl ?_
      exact qa_iret dX9_countOf_39 rfl (vp_nar_int _) (by rw [← hf, show 6 - i = 0 from by omega]; rfl) rfl rfl rfl
    · have hi : i < 6 := by omega
      refine qa_aload_n (pc1 := 11) dX9_countOf_10 rfl rfl rfl ?_
      refine qa_getP (pc1 := 14) dX9_countOf_11 rfl wf_X9_11 rfl (ko_se _ (by assumption)) (by omega) (kp_op hps (by assumption)) ?_
      refine qa_iload_n (pc1 := 15) dX9_countOf_14 rfl rfl rfl ?_
      refine qc_zald (pc1 := 16) dX9_countOf_15 rfl (ka_op _ (by assumption)) rfl (by omega) (by omega) (by omega) ?_
      refine qa_if_eq (tgt := 32) (pc1 := 19) dX9_countOf_16 rfl rfl (fun h16 => ?_) (fun h16 => ?_)
      · refine qa_iincN (pc1 := 35) dX9_countOf_32 rfl (by decide) rfl ?_
        refine qa_goto (tgt := 4) dX9_countOf_35 rfl ?_
        exact qa_ls (by exact (kw_lsc rfl (kw_lsc rfl (kw_lsc rfl (kw_lsc rfl kw_lsn))))) (ih (by omega) _ (by rw [← hf, show 6 - i = (6 - (i + 1)) + 1 from by omega, xc_cnt]; grind))
      · refine qa_aload_n (pc1 := 20) dX9_countOf_19 rfl rfl rfl ?_
        refine qa_getP (pc1 := 23) dX9_countOf_20 rfl wf_X9_19 rfl (ko_se _ (by assumption)) (by omega) (kp_us hps (by assumption)) ?_
        refine qa_iload_n (pc1 := 24) dX9_countOf_23 rfl rfl rfl ?_
        refine qc_iald (pc1 := 25) dX9_countOf_24 rfl (ka_us _ (by assumption)) rfl (by omega) (by omega) (by omega) ?_
        refine qa_iload_n (pc1 := 26) dX9_countOf_25 rfl rfl rfl ?_
        refine qa_ic_ne (tgt := 32) (pc1 := 29) dX9_countOf_26 rfl rfl (fun h26 => ?_) (fun h26 => ?_)
        · refine qa_iincN (pc1 := 35) dX9_countOf_32 rfl (by decide) rfl ?_
          refine qa_goto (tgt := 4) dX9_countOf_35 rfl ?_
          exact qa_ls (by exact (kw_lsc rfl (kw_lsc rfl (kw_lsc rfl (kw_lsc rfl kw_lsn))))) (ih (by omega) _ (by rw [← hf, show 6 - i = (6 - (i + 1)) + 1 from by omega, xc_cnt]; grind))
        · refine qa_iinc1 (pc1 := 32) dX9_countOf_29 rfl (by decide) rfl ?_
          refine qa_iincN (pc1 := 35) dX9_countOf_32 rfl (by decide) rfl ?_
          refine qa_goto (tgt := 4) dX9_countOf_35 rfl ?_
          exact qa_ls (by exact (kw_lsc rfl (kw_lsc rfl (kw_lsc rfl (kw_lsc rfl kw_lsn))))) (ih (by omega) _ (by rw [← hf, show 6 - i = (6 - (i + 1)) + 1 from by omega, xc_cnt]; grind))
  refine qa_iconst (pc1 := 1) dX9_countOf_0 (v := 0) kc_i0 rfl ?_
  refine qa_istore_n (pc1 := 2) dX9_countOf_1 rfl (by decide) rfl ?_
  refine qa_iconst (pc1 := 3) dX9_countOf_2 (v := (nI 0)) kc_i0N rfl ?_
  refine qa_istore_n (pc1 := 4) dX9_countOf_3 rfl (by decide) rfl ?_
  exact qa_ls (by exact (kw_lsc rfl (kw_lsc rfl (kw_lsc rfl (kw_lsc rfl kw_lsn))))) (loop 0 (Nat.zero_le _) _ rfl)
set_option maxRecDepth 20000 in
set_option maxHeartbeats 4000000 in
theorem ct_least (hps : kw_ps P) {h : Nat} (hh : h < 2) : kw_C l D aC b yX9_leastFreeAddress cX9_leastFreeAddress 2 (some .int) 1 [.inr (.inl (83 + 48 * h))] C M P (some (.inl (xc_io (xc_least C h)))) C M P := by
  refine ax_body (own := RX9) (ini := false) (by decide) rfl (fun h => by cases h) (Nat.le_of_ble_eq_true rfl) ?_
  have loop : ∀ i, i ≤ 6 → kw_first (xc_fr C h) i (6 - i) = kw_first (xc_fr C h) 0 6 → ax_G l D aC b RX9 cX9_leastFreeAddress 2 (some .int) false (kw_rm 1) 191 (ax_F D aC b 191 0 0 (kw_R (some (.inl (xc_io (xc_least C h)))) kw_K kw_L (kw_gl C M) P)) (fun _ => True) 2 [(1, .inl (nI i)), (0, .inr (.inl (83 + 48 * h)))] [] 0 0 kw_K kw_L (kw_gl C M) P := by
    refine kw_loopB 6 (fun i hiN ih hf => ?_)
    refine qa_iload_n (pc1 := 3) dX9_leastFreeAddress_2 rfl rfl rfl ?_
    refine qa_bipush (pc1 := 5) dX9_leastFreeAddress_3 (v := (nI 6)) kc_b6N rfl ?_
    refine qn_ic_ge (tgt := 25) (pc1 := 8) dX9_leastFreeAddress_5 rfl rfl (by omega) (by omega) (fun h5 => ?_) (fun h5 => ?_)
    · refine qa_iconst (pc1 := 26) dX9_leastFreeAddress_25 (v := (-1)) kc_im1 rfl ?_
      exact qa_iret dX9_leastFreeAddress_26 rfl (vp_nar_int _) (by rw [xc_least, ← hf, kw_first_e (by omega)]; rfl) rfl rfl rfl
    · have hi : i < 6 := by omega
      refine qa_aload_n (pc1 := 9) dX9_leastFreeAddress_8 rfl rfl rfl ?_
      refine qa_getP (pc1 := 12) dX9_leastFreeAddress_9 rfl wf_X9_11 rfl (ko_se _ (by assumption)) (by omega) (kp_op hps (by assumption)) ?_
      refine qa_iload_n (pc1 := 13) dX9_leastFreeAddress_12 rfl rfl rfl ?_
      refine qc_zald (pc1 := 14) dX9_leastFreeAddress_13 rfl (ka_op _ (by assumption)) rfl (by omega) (by omega) (by omega) ?_
      refine qa_if_ne (tgt := 19) (pc1 := 17) dX9_leastFreeAddress_14 rfl rfl (fun h14 => ?_) (fun h14 => ?_)
      · refine qa_iincN (pc1 := 22) dX9_leastFreeAddress_19 rfl (by decide) rfl ?_
        refine qa_goto (tgt := 2) dX9_leastFreeAddress_22 rfl ?_
        exact qa_ls (by exact (kw_lsc rfl (kw_lsc rfl kw_lsn))) (ih (by omega) ((kw_first_f (by omega) (by simp only [xc_fr, decide_eq_true_eq]; grind)).symm.trans hf))
      · refine qa_iload_n (pc1 := 18) dX9_leastFreeAddress_17 rfl rfl rfl ?_
        exact qa_iret dX9_leastFreeAddress_18 rfl (vp_nar_int _) (by rw [xc_least, ← hf, kw_first_t (by omega) (by simp only [xc_fr, decide_eq_true_eq]; grind)]; rfl) rfl rfl rfl
  refine qa_iconst (pc1 := 1) dX9_leastFreeAddress_0 (v := (nI 0)) kc_i0N rfl ?_
  refine qa_istore_n (pc1 := 2) dX9_leastFreeAddress_1 rfl (by decide) rfl ?_
  exact qa_ls (by exact (kw_lsc rfl (kw_lsc rfl kw_lsn))) (loop 0 (Nat.zero_le _) rfl)
set_option maxRecDepth 20000 in
set_option maxHeartbeats 4000000 in
theorem ct_open (hps : kw_ps P) {h : Nat} (hh : h < 2) {j : Nat} (hj : j < 6) (num u : Int32) : kw_C l D aC b yX9_open cX9_open 4 none 1 [.inr (.inl (83 + 48 * h)), .inl (nI j), .inl num, .inl u] C M P none (xc_open C h j num u) M P := by
  refine ax_body (own := RX9) (ini := false) (by decide) rfl (fun h => by cases h) (Nat.le_of_ble_eq_true rfl) ?_
  refine qa_iload_n (pc1 := 1) dX9_open_0 rfl rfl rfl ?_
  refine qn_if_lt (tgt := 31) (pc1 := 4) dX9_open_1 rfl rfl (by omega) ?_
  refine qa_iload_n (pc1 := 5) dX9_open_4 rfl rfl rfl ?_
  refine qa_bipush (pc1 := 7) dX9_open_5 (v := 6) kc_b6 rfl ?_
  refine qf_ic_ge (tgt := 31) (pc1 := 10) dX9_open_7 rfl rfl (nI_ge (a := j) (b := 6) hj (by decide)) ?_
  refine qa_aload_n (pc1 := 11) dX9_open_10 rfl rfl rfl ?_
  refine qa_getP (pc1 := 14) dX9_open_11 rfl wf_X9_11 rfl (ko_se _ (by assumption)) (by omega) (kp_op hps (by assumption)) ?_
  refine qa_iload_n (pc1 := 15) dX9_open_14 rfl rfl rfl ?_
  refine qa_iconst (pc1 := 16) dX9_open_15 (v := 1) kc_i1 rfl ?_
  refine qc_zast (pc1 := 17) dX9_open_16 rfl (ka_op _ (by assumption)) rfl (by omega) (by omega) (by omega) (by decide) ?_
  refine qa_aload_n (pc1 := 18) dX9_open_17 rfl rfl rfl ?_
  refine qa_getP (pc1 := 21) dX9_open_18 rfl wf_X9_15 rfl (ko_se _ (by assumption)) (by omega) (kp_nu hps (by assumption)) ?_
  refine qa_iload_n (pc1 := 22) dX9_open_21 rfl rfl rfl ?_
  refine qa_iload_n (pc1 := 23) dX9_open_22 rfl rfl rfl ?_
  refine qc_iast (pc1 := 24) dX9_open_23 rfl (ka_nu _ (by assumption)) rfl (by omega) (by omega) (by omega) ?_
  refine qa_aload_n (pc1 := 25) dX9_open_24 rfl rfl rfl ?_
  refine qa_getP (pc1 := 28) dX9_open_25 rfl wf_X9_19 rfl (ko_se _ (by assumption)) (by omega) (kp_us hps (by assumption)) ?_
  refine qa_iload_n (pc1 := 29) dX9_open_28 rfl rfl rfl ?_
  refine qa_iload_n (pc1 := 30) dX9_open_29 rfl rfl rfl ?_
  refine qc_iast (pc1 := 31) dX9_open_30 rfl (ka_us _ (by assumption)) rfl (by omega) (by omega) (by omega) ?_
  exact qa_vret dX9_open_31 rfl rfl rfl rfl rfl
set_option maxRecDepth 20000 in
set_option maxHeartbeats 4000000 in
theorem ct_endAt (hps : kw_ps P) {h : Nat} (hh : h < 2) {j : Nat} (hj : j < 6) : kw_C l D aC b yX9_endAt cX9_endAt 2 none 2 [.inr (.inl (83 + 48 * h)), .inl (nI j)] C M P none (xc_end C h j) M P := by
  refine ax_body (own := RX9) (ini := false) (by decide) rfl (fun h => by cases h) (Nat.le_of_ble_eq_true rfl) ?_
  refine qa_aload_n (pc1 := 1) dX9_endAt_0 rfl rfl rfl ?_
  refine qa_iload_n (pc1 := 2) dX9_endAt_1 rfl rfl rfl ?_
  refine qa_callVi (pc1 := 5) dX9_endAt_2 rfl (ct_isOpenAt hps (by assumption) _) wc_X9_26 wy_X9_isOpenAt rfl rfl (ci := k_se) rfl (ko_se _ (by assumption)) (by omega) rfl ?_
  refine qb_if_eq (tgt := 15) (pc1 := 8) dX9_endAt_5 rfl rfl (fun h5 => ?_) (fun h5 => ?_)
  · exact qa_vret dX9_endAt_15 rfl rfl (by simp only [xc_end, xc_oa, nI_clamp (show j < 2 ^ 31 from by omega)] at h5 ⊢; have h6 := nI_pos (n := j) (by omega); have h7 : ¬ (6 : Int32) ≤ nI j := nI_ge (a := j) (b := 6) hj (by decide); grind) rfl rfl
  · refine qa_aload_n (pc1 := 9) dX9_endAt_8 rfl rfl rfl ?_
    refine qa_getP (pc1 := 12) dX9_endAt_9 rfl wf_X9_11 rfl (ko_se _ (by assumption)) (by omega) (kp_op hps (by assumption)) ?_
    refine qa_iload_n (pc1 := 13) dX9_endAt_12 rfl rfl rfl ?_
    refine qa_iconst (pc1 := 14) dX9_endAt_13 (v := 0) kc_i0 rfl ?_
    refine qc_zast (pc1 := 15) dX9_endAt_14 rfl (ka_op _ (by assumption)) rfl (by omega) (by omega) (by omega) (by decide) ?_
    exact qa_vret dX9_endAt_15 rfl rfl (by simp only [xc_end, xc_oa, nI_clamp (show j < 2 ^ 31 from by omega)] at h5 ⊢; have h6 := nI_pos (n := j) (by omega); have h7 : ¬ (6 : Int32) ≤ nI j := nI_ge (a := j) (b := 6) hj (by decide); grind) rfl rfl
set_option maxRecDepth 20000 in
set_option maxHeartbeats 4000000 in
theorem ct_endAnd (hps : kw_ps P) {h : Nat} (hh : h < 2) (num u : Int32) : kw_C l D aC b yX9_endAndCount cX9_endAndCount 4 none 1 [.inr (.inl (83 + 48 * h)), .inl num, .inl u] C M P none (xc_ea h num u 0 6 C) M P := by
  refine ax_body (own := RX9) (ini := false) (by decide) rfl (fun h => by cases h) (Nat.le_of_ble_eq_true rfl) ?_
  have loop : ∀ i, i ≤ 6 → ∀ C1 : ax_I, xc_ea h num u i (6 - i) C1 = xc_ea h num u 0 6 C → ax_G l D aC b RX9 cX9_endAndCount 4 none false (kw_rm 1) 191 (ax_F D aC b 191 0 0 (kw_R none kw_K kw_L (kw_gl (xc_ea h num u 0 6 C) M) P)) (fun _ => True) 2 [(3, .inl (nI i)), (0, .inr (.inl (83 + 48 * h))), (1, .inl num), (2, .inl u)] [] 0 0 kw_K kw_L (kw_gl C1 M) P := by
    refine kw_loopB 6 (fun i hiN ih C1 hf => ?_)
    refine qa_iload_n (pc1 := 3) dX9_endAndCount_2 rfl rfl rfl ?_
    refine qa_bipush (pc1 := 5) dX9_endAndCount_3 (v := (nI 6)) kc_b6N rfl ?_
    refine qn_ic_ge (tgt := 60) (pc1 := 8) dX9_endAndCount_5 rfl rfl (by omega) (by omega) (fun h5 => ?_) (fun h5 => ?_)
    · exact qa_vret dX9_endAndCount_60 rfl rfl (by rw [← hf, show 6 - i = 0 from by omega]; rfl) rfl rfl
    · have hi : i < 6 := by omega
      refine qa_aload_n (pc1 := 9) dX9_endAndCount_8 rfl rfl rfl ?_
      refine qa_getP (pc1 := 12) dX9_endAndCount_9 rfl wf_X9_11 rfl (ko_se _ (by assumption)) (by omega) (kp_op hps (by assumption)) ?_
      refine qa_iload_n (pc1 := 13) dX9_endAndCount_12 rfl rfl rfl ?_
      refine qc_zald (pc1 := 14) dX9_endAndCount_13 rfl (ka_op _ (by assumption)) rfl (by omega) (by omega) (by omega) ?_
      refine qa_if_eq (tgt := 54) (pc1 := 17) dX9_endAndCount_14 rfl rfl (fun h14 => ?_) (fun h14 => ?_)
      · refine qa_iincN (pc1 := 57) dX9_endAndCount_54 rfl (by decide) rfl ?_
        refine qa_goto (tgt := 2) dX9_endAndCount_57 rfl ?_
        exact qa_memC (show _ = xc_e1 C1 h num u i from by simp only [xc_e1, xc_e1c]; grind) (qa_ls (by exact (kw_lsc rfl (kw_lsc rfl (kw_lsc rfl (kw_lsc rfl kw_lsn))))) (ih (by omega) _ (by rw [← hf, show 6 - i = (6 - (i + 1)) + 1 from by omega]; rfl)))
      · refine qa_aload_n (pc1 := 18) dX9_endAndCount_17 rfl rfl rfl ?_
        refine qa_getP (pc1 := 21) dX9_endAndCount_18 rfl wf_X9_15 rfl (ko_se _ (by assumption)) (by omega) (kp_nu hps (by assumption)) ?_
        refine qa_iload_n (pc1 := 22) dX9_endAndCount_21 rfl rfl rfl ?_
        refine qc_iald (pc1 := 23) dX9_endAndCount_22 rfl (ka_nu _ (by assumption)) rfl (by omega) (by omega) (by omega) ?_
        refine qa_iload_n (pc1 := 24) dX9_endAndCount_23 rfl rfl rfl ?_
        refine qa_ic_ne (tgt := 54) (pc1 := 27) dX9_endAndCount_24 rfl rfl (fun h24 => ?_) (fun h24 => ?_)
        · refine qa_iincN (pc1 := 57) dX9_endAndCount_54 rfl (by decide) rfl ?_
          refine qa_goto (tgt := 2) dX9_endAndCount_57 rfl ?_
          exact qa_memC (show _ = xc_e1 C1 h num u i from by simp only [xc_e1, xc_e1c]; grind) (qa_ls (by exact (kw_lsc rfl (kw_lsc rfl (kw_lsc rfl (kw_lsc rfl kw_lsn))))) (ih (by omega) _ (by rw [← hf, show 6 - i = (6 - (i + 1)) + 1 from by omega]; rfl)))
        · refine qa_aload_n (pc1 := 28) dX9_endAndCount_27 rfl rfl rfl ?_
          refine qa_getP (pc1 := 31) dX9_endAndCount_28 rfl wf_X9_19 rfl (ko_se _ (by assumption)) (by omega) (kp_us hps (by assumption)) ?_
          refine qa_iload_n (pc1 := 32) dX9_endAndCount_31 rfl rfl rfl ?_
          refine qc_iald (pc1 := 33) dX9_endAndCount_32 rfl (ka_us _ (by assumption)) rfl (by omega) (by omega) (by omega) ?_
          refine qa_iload_n (pc1 := 34) dX9_endAndCount_33 rfl rfl rfl ?_
          refine qa_ic_ne (tgt := 54) (pc1 := 37) dX9_endAndCount_34 rfl rfl (fun h34 => ?_) (fun h34 => ?_)
          · refine qa_iincN (pc1 := 57) dX9_endAndCount_54 rfl (by decide) rfl ?_
            refine qa_goto (tgt := 2) dX9_endAndCount_57 rfl ?_
            exact qa_memC (show _ = xc_e1 C1 h num u i from by simp only [xc_e1, xc_e1c]; grind) (qa_ls (by exact (kw_lsc rfl (kw_lsc rfl (kw_lsc rfl (kw_lsc rfl kw_lsn))))) (ih (by omega) _ (by rw [← hf, show 6 - i = (6 - (i + 1)) + 1 from by omega]; rfl)))
          · refine qa_aload_n (pc1 := 38) dX9_endAndCount_37 rfl rfl rfl ?_
            refine qa_getP (pc1 := 41) dX9_endAndCount_38 rfl wf_X9_11 rfl (ko_se _ (by assumption)) (by omega) (kp_op hps (by assumption)) ?_
            refine qa_iload_n (pc1 := 42) dX9_endAndCount_41 rfl rfl rfl ?_
            refine qa_iconst (pc1 := 43) dX9_endAndCount_42 (v := 0) kc_i0 rfl ?_
            refine qc_zast (pc1 := 44) dX9_endAndCount_43 rfl (ka_op _ (by assumption)) rfl (by omega) (by omega) (by omega) (by decide) ?_
            refine qa_aload_n (pc1 := 45) dX9_endAndCount_44 rfl rfl rfl ?_
            refine qa_dup (pc1 := 46) dX9_endAndCount_45 rfl ?_
            refine qc_getI (pc1 := 49) dX9_endAndCount_46 rfl wf_X9_22 rfl (ko_se _ (by assumption)) (by omega) (by omega) ?_
            refine qa_iconst (pc1 := 50) dX9_endAndCount_49 (v := 1) kc_i1 rfl ?_
            refine qa_iadd (pc1 := 51) dX9_endAndCount_50 rfl ?_
            refine qc_putI (pc1 := 54) dX9_endAndCount_51 rfl wp_X9_22 rfl rfl rfl (ko_se _ (by assumption)) (by omega) (by omega) ?_
            refine qa_iincN (pc1 := 57) dX9_endAndCount_54 rfl (by decide) rfl ?_
            refine qa_goto (tgt := 2) dX9_endAndCount_57 rfl ?_
            exact qa_memC (show _ = xc_e1 C1 h num u i from by simp only [xc_e1, xc_e1c]; grind) (qa_ls (by exact (kw_lsc rfl (kw_lsc rfl (kw_lsc rfl (kw_lsc rfl kw_lsn))))) (ih (by omega) _ (by rw [← hf, show 6 - i = (6 - (i + 1)) + 1 from by omega]; rfl)))
  refine qa_iconst (pc1 := 1) dX9_endAndCount_0 (v := (nI 0)) kc_i0N rfl ?_
  refine qa_istore_n (pc1 := 2) dX9_endAndCount_1 rfl (by decide) rfl ?_
  exact qa_ls (by exact (kw_lsc rfl (kw_lsc rfl (kw_lsc rfl (kw_lsc rfl kw_lsn))))) (loop 0 (Nat.zero_le _) _ rfl)
set_option maxRecDepth 20000 in
set_option maxHeartbeats 4000000 in
theorem ct_sforget (hps : kw_ps P) {h : Nat} (hh : h < 2) : kw_C l D aC b yX9_forgetAll cX9_forgetAll 2 none 1 [.inr (.inl (83 + 48 * h))] C M P none (xc_sf C h) M P := by
  refine ax_body (own := RX9) (ini := false) (by decide) rfl (fun h => by cases h) (Nat.le_of_ble_eq_true rfl) ?_
  have loop : ∀ i, i ≤ 6 → ∀ C1 : ax_I, xc_sfg h i (6 - i) C1 = xc_sfg h 0 6 C → ax_G l D aC b RX9 cX9_forgetAll 2 none false (kw_rm 1) 191 (ax_F D aC b 191 0 0 (kw_R none kw_K kw_L (kw_gl (xc_sf C h) M) P)) (fun _ => True) 2 [(1, .inl (nI i)), (0, .inr (.inl (83 + 48 * h)))] [] 0 0 kw_K kw_L (kw_gl C1 M) P := by
    refine kw_loopB 6 (fun i hiN ih C1 hf => ?_)
    refine qa_iload_n (pc1 := 3) dX9_forgetAll_2 rfl rfl rfl ?_
    refine qa_bipush (pc1 := 5) dX9_forgetAll_3 (v := (nI 6)) kc_b6N rfl ?_
    refine qn_ic_ge (tgt := 21) (pc1 := 8) dX9_forgetAll_5 rfl rfl (by omega) (by omega) (fun h5 => ?_) (fun h5 => ?_)
    · refine qa_aload_n (pc1 := 22) dX9_forgetAll_21 rfl rfl rfl ?_
      refine qa_iconst (pc1 := 23) dX9_forgetAll_22 (v := 0) kc_i0 rfl ?_
      refine qc_putI (pc1 := 26) dX9_forgetAll_23 rfl wp_X9_22 rfl rfl rfl (ko_se _ (by assumption)) (by omega) (by omega) ?_
      exact qa_vret dX9_forgetAll_26 rfl rfl (by rw [xc_sf, ← hf, show 6 - i = 0 from by omega]; rfl) rfl rfl
    · have hi : i < 6 := by omega
      refine qa_aload_n (pc1 := 9) dX9_forgetAll_8 rfl rfl rfl ?_
      refine qa_getP (pc1 := 12) dX9_forgetAll_9 rfl wf_X9_11 rfl (ko_se _ (by assumption)) (by omega) (kp_op hps (by assumption)) ?_
      refine qa_iload_n (pc1 := 13) dX9_forgetAll_12 rfl rfl rfl ?_
      refine qa_iconst (pc1 := 14) dX9_forgetAll_13 (v := 0) kc_i0 rfl ?_
      refine qc_zast (pc1 := 15) dX9_forgetAll_14 rfl (ka_op _ (by assumption)) rfl (by omega) (by omega) (by omega) (by decide) ?_
      refine qa_iincN (pc1 := 18) dX9_forgetAll_15 rfl (by decide) rfl ?_
      refine qa_goto (tgt := 2) dX9_forgetAll_18 rfl ?_
      exact qa_ls (by exact (kw_lsc rfl (kw_lsc rfl kw_lsn))) (ih (by omega) _ (by rw [← hf, show 6 - i = (6 - (i + 1)) + 1 from by omega]; rfl))
  refine qa_iconst (pc1 := 1) dX9_forgetAll_0 (v := (nI 0)) kc_i0N rfl ?_
  refine qa_istore_n (pc1 := 2) dX9_forgetAll_1 rfl (by decide) rfl ?_
  exact qa_ls (by exact (kw_lsc rfl (kw_lsc rfl kw_lsn))) (loop 0 (Nat.zero_le _) _ rfl)
set_option maxRecDepth 20000 in
set_option maxHeartbeats 4000000 in
theorem ct_setAnswer {h r : Nat} (hh : h < 2) (hr : r < 40) (x a b1 : Int32) : kw_C l D aC b yX4_setAnswer cX4_setAnswer 4 none 1 [.inr (.inl (88 + 48 * h + r)), .inl x, .inl a, .inl b1] C M P none (xc_sa C (88 + 48 * h + r) x a b1) M P := by
  refine ax_body (own := RX4) (ini := false) (by decide) rfl (fun h => by cases h) (Nat.le_of_ble_eq_true rfl) ?_
  refine qa_aload_n (pc1 := 1) dX4_setAnswer_0 rfl rfl rfl ?_
  refine qa_iload_n (pc1 := 2) dX4_setAnswer_1 rfl rfl rfl ?_
  refine qc_putI (pc1 := 5) dX4_setAnswer_2 rfl wp_X4_27 rfl rfl rfl (ko_rc _ (by assumption) _ (by assumption)) (by omega) (by omega) ?_
  refine qa_aload_n (pc1 := 6) dX4_setAnswer_5 rfl rfl rfl ?_
  refine qa_iload_n (pc1 := 7) dX4_setAnswer_6 rfl rfl rfl ?_
  refine qc_putI (pc1 := 10) dX4_setAnswer_7 rfl wp_X4_30 rfl rfl rfl (ko_rc _ (by assumption) _ (by assumption)) (by omega) (by omega) ?_
  refine qa_aload_n (pc1 := 11) dX4_setAnswer_10 rfl rfl rfl ?_
  refine qa_iload_n (pc1 := 12) dX4_setAnswer_11 rfl rfl rfl ?_
  refine qc_putI (pc1 := 15) dX4_setAnswer_12 rfl wp_X4_33 rfl rfl rfl (ko_rc _ (by assumption) _ (by assumption)) (by omega) (by omega) ?_
  exact qa_vret dX4_setAnswer_15 rfl rfl rfl rfl rfl
set_option maxRecDepth 20000 in
set_option maxHeartbeats 4000000 in
theorem ct_takeRequest {h r : Nat} (hh : h < 2) (hr : r < 40) {d : Nat} (hdg : kw_dg d) (now : Int32) : kw_C l D aC b yX4_takeRequest cX4_takeRequest 3 none 1 [.inr (.inl (88 + 48 * h + r)), .inr (.inl (d + 1)), .inl now] C M P none (xc_tr C (88 + 48 * h + r) (d + 1) now) M P := by
  refine ax_body (own := RX4) (ini := false) (by decide) rfl (fun h => by cases h) (Nat.le_of_ble_eq_true rfl) ?_
  have hq1 := hdg.2.2
  have hq0 := hdg.2.1
  have e1 : ¬ d + 1 = 88 + 48 * h + r := by omega
  refine qa_aload_n (pc1 := 1) dX4_takeRequest_0 rfl rfl rfl ?_
  refine qa_aload_n (pc1 := 2) dX4_takeRequest_1 rfl rfl rfl ?_
  refine qa_iconst (pc1 := 3) dX4_takeRequest_2 (v := (nI 0)) kc_i0N rfl ?_
  refine qc_iald (pc1 := 4) dX4_takeRequest_3 rfl (ka_pa _ (by assumption)) rfl (by omega) (by omega) (by decide) ?_
  refine qc_putI (pc1 := 7) dX4_takeRequest_4 rfl wp_X4_9 rfl rfl rfl (ko_rc _ (by assumption) _ (by assumption)) (by omega) (by omega) ?_
  refine qa_aload_n (pc1 := 8) dX4_takeRequest_7 rfl rfl rfl ?_
  refine qa_aload_n (pc1 := 9) dX4_takeRequest_8 rfl rfl rfl ?_
  refine qa_iconst (pc1 := 10) dX4_takeRequest_9 (v := (nI 1)) kc_i1N rfl ?_
  refine qc_iald (pc1 := 11) dX4_takeRequest_10 rfl (ka_pa _ (by assumption)) rfl (by omega) (by omega) (by decide) ?_
  refine qa_top (show _ = C (d + 1) 1 from by simp [ax_u, e1]) ?_
  refine qc_putI (pc1 := 14) dX4_takeRequest_11 rfl wp_X4_15 rfl rfl rfl (ko_rc _ (by assumption) _ (by assumption)) (by omega) (by omega) ?_
  refine qa_aload_n (pc1 := 15) dX4_takeRequest_14 rfl rfl rfl ?_
  refine qa_aload_n (pc1 := 16) dX4_takeRequest_15 rfl rfl rfl ?_
  refine qa_iconst (pc1 := 17) dX4_takeRequest_16 (v := (nI 2)) kc_i2N rfl ?_
  refine qc_iald (pc1 := 18) dX4_takeRequest_17 rfl (ka_pa _ (by assumption)) rfl (by omega) (by omega) (by decide) ?_
  refine qa_top (show _ = C (d + 1) 2 from by simp [ax_u, e1]) ?_
  refine qc_putI (pc1 := 21) dX4_takeRequest_18 rfl wp_X4_18 rfl rfl rfl (ko_rc _ (by assumption) _ (by assumption)) (by omega) (by omega) ?_
  refine qa_aload_n (pc1 := 22) dX4_takeRequest_21 rfl rfl rfl ?_
  refine qa_aload_n (pc1 := 23) dX4_takeRequest_22 rfl rfl rfl ?_
  refine qa_iconst (pc1 := 24) dX4_takeRequest_23 (v := (nI 3)) kc_i3N rfl ?_
  refine qc_iald (pc1 := 25) dX4_takeRequest_24 rfl (ka_pa _ (by assumption)) rfl (by omega) (by omega) (by decide) ?_
  refine qa_top (show _ = C (d + 1) 3 from by simp [ax_u, e1]) ?_
  refine qc_putI (pc1 := 28) dX4_takeRequest_25 rfl wp_X4_21 rfl rfl rfl (ko_rc _ (by assumption) _ (by assumption)) (by omega) (by omega) ?_
  refine qa_aload_n (pc1 := 29) dX4_takeRequest_28 rfl rfl rfl ?_
  refine qa_iload_n (pc1 := 30) dX4_takeRequest_29 rfl rfl rfl ?_
  refine qc_putI (pc1 := 33) dX4_takeRequest_30 rfl wp_X4_24 rfl rfl rfl (ko_rc _ (by assumption) _ (by assumption)) (by omega) (by omega) ?_
  exact qa_vret dX4_takeRequest_33 rfl rfl rfl rfl rfl
set_option maxRecDepth 20000 in
set_option maxHeartbeats 4000000 in
theorem ct_admits (hps : kw_ps P) {h : Nat} (hh : h < 2) (u pw : Int32) : kw_C l D aC b yX3_admits cX3_admits 3 (some .boolean) 2 [.inr (.inl (80 + 48 * h)), .inl u, .inl pw] C M P (some (.inl (kw_b (xc_adm C h u pw)))) C M P := by
  refine ax_body (own := RX3) (ini := false) (by decide) rfl (fun h => by cases h) (Nat.le_of_ble_eq_true rfl) ?_
  refine qa_iload_n (pc1 := 1) dX3_admits_0 rfl rfl rfl ?_
  refine qa_callTi (pc1 := 4) dX3_admits_1 rfl (ct_isUser _) wc_X3_119 wy_X0_isUser rfl rfl rfl ?_
  refine qb_if_eq (tgt := 31) (pc1 := 7) dX3_admits_4 rfl rfl (fun h4 => ?_) (fun h4 => ?_)
  · refine qa_iconst (pc1 := 32) dX3_admits_31 (v := 0) kc_i0 rfl ?_
    exact qa_iret dX3_admits_32 rfl (by first | rfl | exact kw_bn) (by simp only [kw_b]; grind) rfl rfl rfl
  · refine qa_aload_n (pc1 := 8) dX3_admits_7 rfl rfl rfl ?_
    refine qa_getP (pc1 := 11) dX3_admits_8 rfl wf_X3_15 rfl (ko_hm _ (by assumption)) (by omega) (kp_li hps (by assumption)) ?_
    refine qa_iload_n (pc1 := 12) dX3_admits_11 rfl rfl rfl ?_
    refine qc_ialdx (pc1 := 13) dX3_admits_12 rfl (ka_li _ (by assumption)) rfl (by omega) (by omega) (kw_iny rfl h4.1 h4.2) ?_
    refine qa_iconst (pc1 := 14) dX3_admits_13 (v := (-1)) kc_im1 rfl ?_
    refine qa_ic_eq (tgt := 31) (pc1 := 17) dX3_admits_14 rfl rfl (fun h14 => ?_) (fun h14 => ?_)
    · refine qa_iconst (pc1 := 32) dX3_admits_31 (v := 0) kc_i0 rfl ?_
      exact qa_iret dX3_admits_32 rfl (by first | rfl | exact kw_bn) (by simp only [kw_b]; grind) rfl rfl rfl
    · refine qa_aload_n (pc1 := 18) dX3_admits_17 rfl rfl rfl ?_
      refine qa_getP (pc1 := 21) dX3_admits_18 rfl wf_X3_9 rfl (ko_hm _ (by assumption)) (by omega) (kp_pw hps (by assumption)) ?_
      refine qa_iload_n (pc1 := 22) dX3_admits_21 rfl rfl rfl ?_
      refine qc_ialdx (pc1 := 23) dX3_admits_22 rfl (ka_pw _ (by assumption)) rfl (by omega) (by omega) (kw_iny rfl h4.1 h4.2) ?_
      refine qa_iload_n (pc1 := 24) dX3_admits_23 rfl rfl rfl ?_
      refine qa_ic_ne (tgt := 31) (pc1 := 27) dX3_admits_24 rfl rfl (fun h24 => ?_) (fun h24 => ?_)
      · refine qa_iconst (pc1 := 32) dX3_admits_31 (v := 0) kc_i0 rfl ?_
        exact qa_iret dX3_admits_32 rfl (by first | rfl | exact kw_bn) (by simp only [kw_b]; grind) rfl rfl rfl
      · refine qa_iconst (pc1 := 28) dX3_admits_27 (v := 1) kc_i1 rfl ?_
        refine qa_goto (tgt := 32) dX3_admits_28 rfl ?_
        exact qa_iret dX3_admits_32 rfl (by first | rfl | exact kw_bn) (by simp only [kw_b]; grind) rfl rfl rfl
set_option maxRecDepth 20000 in
set_option maxHeartbeats 4000000 in
theorem ct_ask (hps : kw_ps P) {h r : Nat} (hh : h < 2) (hr : r < 40) (hid : Int32) : kw_C l D aC b yX3_answerAsk cX3_answerAsk 6 none 3 [.inr (.inl (80 + 48 * h)), .inr (.inl (88 + 48 * h + r)), .inl hid, .inr (.inl 2)] C M P none (xc_ask C h (88 + 48 * h + r) hid) M P := by
  refine ax_body (own := RX3) (ini := false) (by decide) rfl (fun h => by cases h) (Nat.le_of_ble_eq_true rfl) ?_
  refine qa_iload_n (pc1 := 1) dX3_answerAsk_0 rfl rfl rfl ?_
  refine qa_aload_n (pc1 := 2) dX3_answerAsk_1 rfl rfl rfl ?_
  refine qa_aload_n (pc1 := 3) dX3_answerAsk_2 rfl rfl rfl ?_
  refine qc_getI (pc1 := 6) dX3_answerAsk_3 rfl wf_X3_31 rfl (ko_hm _ (by assumption)) (by omega) (by omega) ?_
  refine qa_iconst (pc1 := 7) dX3_answerAsk_6 (v := 2) kc_i2 rfl ?_
  refine qa_callVi (pc1 := 10) dX3_answerAsk_7 rfl (ct_keyAt hps _ _) wc_X3_97 wy_X6_keyAt rfl rfl (ci := k_net) rfl ko_net (by omega) rfl ?_
  refine qa_aload_n (pc1 := 11) dX3_answerAsk_10 rfl rfl rfl ?_
  refine qc_getI (pc1 := 14) dX3_answerAsk_11 rfl wf_X3_86 rfl (ko_rc _ (by assumption) _ (by assumption)) (by omega) (by omega) ?_
  refine qa_callTi (pc1 := 17) dX3_answerAsk_14 rfl (ct_mix _ _) wc_X3_101 wy_X0_mix rfl rfl rfl ?_
  refine qa_ixor (pc1 := 18) dX3_answerAsk_17 rfl ?_
  refine qa_istore (pc1 := 20) dX3_answerAsk_18 (by decide) rfl ?_
  refine qa_aload_n (pc1 := 21) dX3_answerAsk_20 rfl rfl rfl ?_
  refine qa_getP (pc1 := 24) dX3_answerAsk_21 rfl wf_X3_21 rfl (ko_hm _ (by assumption)) (by omega) (kp_se hps (by assumption)) ?_
  refine qa_callVi (pc1 := 27) dX3_answerAsk_24 rfl (ct_least hps (by assumption)) wc_X3_104 wy_X9_leastFreeAddress rfl rfl (ci := k_se) rfl (ko_se _ (by assumption)) (by omega) rfl ?_
  refine qa_istore (pc1 := 29) dX3_answerAsk_27 (by decide) rfl ?_
  refine qa_aload_n (pc1 := 30) dX3_answerAsk_29 rfl rfl rfl ?_
  refine qa_aload_n (pc1 := 31) dX3_answerAsk_30 rfl rfl rfl ?_
  refine qc_getI (pc1 := 34) dX3_answerAsk_31 rfl wf_X3_108 rfl (ko_rc _ (by assumption) _ (by assumption)) (by omega) (by omega) ?_
  refine qa_iload (pc1 := 36) dX3_answerAsk_34 rfl rfl ?_
  refine qa_callVi (pc1 := 39) dX3_answerAsk_36 rfl (ct_admits hps (by assumption) _ _) wc_X3_111 wy_X3_admits rfl rfl (ci := k_hm) rfl (ko_hm _ (by assumption)) (by omega) rfl ?_
  refine qb_if_ne (tgt := 52) (pc1 := 42) dX3_answerAsk_39 rfl rfl (fun h39 => ?_) (fun h39 => ?_)
  · refine qa_aload_n (pc1 := 53) dX3_answerAsk_52 rfl rfl rfl ?_
    refine qa_getP (pc1 := 56) dX3_answerAsk_53 rfl wf_X3_21 rfl (ko_hm _ (by assumption)) (by omega) (kp_se hps (by assumption)) ?_
    refine qa_aload_n (pc1 := 57) dX3_answerAsk_56 rfl rfl rfl ?_
    refine qc_getI (pc1 := 60) dX3_answerAsk_57 rfl wf_X3_108 rfl (ko_rc _ (by assumption) _ (by assumption)) (by omega) (by omega) ?_
    refine qa_callVi (pc1 := 63) dX3_answerAsk_60 rfl (ct_countOf hps (by assumption) _) wc_X3_115 wy_X9_countOf rfl rfl (ci := k_se) rfl (ko_se _ (by assumption)) (by omega) rfl ?_
    refine qa_aload_n (pc1 := 64) dX3_answerAsk_63 rfl rfl rfl ?_
    refine qa_getP (pc1 := 67) dX3_answerAsk_64 rfl wf_X3_15 rfl (ko_hm _ (by assumption)) (by omega) (kp_li hps (by assumption)) ?_
    refine qa_aload_n (pc1 := 68) dX3_answerAsk_67 rfl rfl rfl ?_
    refine qc_getI (pc1 := 71) dX3_answerAsk_68 rfl wf_X3_108 rfl (ko_rc _ (by assumption) _ (by assumption)) (by omega) (by omega) ?_
    refine qc_ialdx (pc1 := 72) dX3_answerAsk_71 rfl (ka_li _ (by assumption)) rfl (by omega) (by omega) (kw_iny rfl h39.1.1 h39.1.2) ?_
    refine qa_ic_lt (tgt := 85) (pc1 := 75) dX3_answerAsk_72 rfl rfl (fun h72 => ?_) (fun h72 => ?_)
    · refine qa_iload (pc1 := 87) dX3_answerAsk_85 rfl rfl ?_
      refine qa_iconst (pc1 := 88) dX3_answerAsk_87 (v := (-1)) kc_im1 rfl ?_
      refine qa_ic_ne (tgt := 101) (pc1 := 91) dX3_answerAsk_88 rfl rfl (fun h88 => ?_) (fun h88 => ?_)
      · refine qa_aload_n (pc1 := 102) dX3_answerAsk_101 rfl rfl rfl ?_
        refine qa_iconst (pc1 := 103) dX3_answerAsk_102 (v := 1) kc_i1 rfl ?_
        refine qa_aload_n (pc1 := 104) dX3_answerAsk_103 rfl rfl rfl ?_
        refine qc_getI (pc1 := 107) dX3_answerAsk_104 rfl wf_X3_62 rfl (ko_hm _ (by assumption)) (by omega) (by omega) ?_
        refine qa_iload (pc1 := 109) dX3_answerAsk_107 rfl rfl ?_
        refine qa_callVv (pc1 := 112) dX3_answerAsk_109 rfl (ct_setAnswer (by assumption) (by assumption) _ _ _) wc_X3_76 wy_X4_setAnswer rfl rfl (ci := k_rc) rfl (ko_rc _ (by assumption) _ (by assumption)) (by omega) rfl ?_
        exact qa_vret dX3_answerAsk_112 rfl rfl (by simp only [xc_ask]; grind) rfl rfl
      · refine qa_aload_n (pc1 := 92) dX3_answerAsk_91 rfl rfl rfl ?_
        refine qa_iconst (pc1 := 93) dX3_answerAsk_92 (v := 2) kc_i2 rfl ?_
        refine qa_iconst (pc1 := 94) dX3_answerAsk_93 (v := 3) kc_i3 rfl ?_
        refine qa_iconst (pc1 := 95) dX3_answerAsk_94 (v := 0) kc_i0 rfl ?_
        refine qa_callVv (pc1 := 98) dX3_answerAsk_95 rfl (ct_setAnswer (by assumption) (by assumption) _ _ _) wc_X3_76 wy_X4_setAnswer rfl rfl (ci := k_rc) rfl (ko_rc _ (by assumption) _ (by assumption)) (by omega) rfl ?_
        refine qa_goto (tgt := 112) dX3_answerAsk_98 rfl ?_
        exact qa_vret dX3_answerAsk_112 rfl rfl (by simp only [xc_ask]; grind) rfl rfl
    · refine qa_aload_n (pc1 := 76) dX3_answerAsk_75 rfl rfl rfl ?_
      refine qa_iconst (pc1 := 77) dX3_answerAsk_76 (v := 2) kc_i2 rfl ?_
      refine qa_iconst (pc1 := 78) dX3_answerAsk_77 (v := 2) kc_i2 rfl ?_
      refine qa_iconst (pc1 := 79) dX3_answerAsk_78 (v := 0) kc_i0 rfl ?_
      refine qa_callVv (pc1 := 82) dX3_answerAsk_79 rfl (ct_setAnswer (by assumption) (by assumption) _ _ _) wc_X3_76 wy_X4_setAnswer rfl rfl (ci := k_rc) rfl (ko_rc _ (by assumption) _ (by assumption)) (by omega) rfl ?_
      refine qa_goto (tgt := 112) dX3_answerAsk_82 rfl ?_
      exact qa_vret dX3_answerAsk_112 rfl rfl (by simp only [xc_ask]; grind) rfl rfl
  · refine qa_aload_n (pc1 := 43) dX3_answerAsk_42 rfl rfl rfl ?_
    refine qa_iconst (pc1 := 44) dX3_answerAsk_43 (v := 2) kc_i2 rfl ?_
    refine qa_iconst (pc1 := 45) dX3_answerAsk_44 (v := 1) kc_i1 rfl ?_
    refine qa_iconst (pc1 := 46) dX3_answerAsk_45 (v := 0) kc_i0 rfl ?_
    refine qa_callVv (pc1 := 49) dX3_answerAsk_46 rfl (ct_setAnswer (by assumption) (by assumption) _ _ _) wc_X3_76 wy_X4_setAnswer rfl rfl (ci := k_rc) rfl (ko_rc _ (by assumption) _ (by assumption)) (by omega) rfl ?_
    refine qa_goto (tgt := 112) dX3_answerAsk_49 rfl ?_
    exact qa_vret dX3_answerAsk_112 rfl rfl (by simp only [xc_ask]; grind) rfl rfl
set_option maxRecDepth 20000 in
set_option maxHeartbeats 4000000 in
theorem ct_carry (hps : kw_ps P) {h r : Nat} (hh : h < 2) (hr : r < 40) (hok : xc_rok C (88 + 48 * h + r)) : kw_C l D aC b yX3_carryOut cX3_carryOut 2 none 3 [.inr (.inl (80 + 48 * h)), .inr (.inl (88 + 48 * h + r))] C M P none (xc_carry C h (88 + 48 * h + r)) M P := by
  refine ax_body (own := RX3) (ini := false) (by decide) rfl (fun h => by cases h) (Nat.le_of_ble_eq_true rfl) ?_
  refine qa_aload_n (pc1 := 1) dX3_carryOut_0 rfl rfl rfl ?_
  refine qc_getI (pc1 := 4) dX3_carryOut_1 rfl wf_X3_69 rfl (ko_rc _ (by assumption) _ (by assumption)) (by omega) (by omega) ?_
  refine qa_iconst (pc1 := 5) dX3_carryOut_4 (v := 5) kc_i5 rfl ?_
  refine qa_ic_ne (tgt := 22) (pc1 := 8) dX3_carryOut_5 rfl rfl (fun h5 => ?_) (fun h5 => ?_)
  · refine qa_aload_n (pc1 := 23) dX3_carryOut_22 rfl rfl rfl ?_
    refine qc_getI (pc1 := 26) dX3_carryOut_23 rfl wf_X3_133 rfl (ko_rc _ (by assumption) _ (by assumption)) (by omega) (by omega) ?_
    refine qa_iconst (pc1 := 27) dX3_carryOut_26 (v := 1) kc_i1 rfl ?_
    refine qa_ic_ne (tgt := 52) (pc1 := 30) dX3_carryOut_27 rfl rfl (fun h27 => ?_) (fun h27 => ?_)
    · refine qa_aload_n (pc1 := 53) dX3_carryOut_52 rfl rfl rfl ?_
      refine qc_getI (pc1 := 56) dX3_carryOut_53 rfl wf_X3_133 rfl (ko_rc _ (by assumption) _ (by assumption)) (by omega) (by omega) ?_
      refine qa_iconst (pc1 := 57) dX3_carryOut_56 (v := 4) kc_i4 rfl ?_
      refine qa_ic_ne (tgt := 75) (pc1 := 60) dX3_carryOut_57 rfl rfl (fun h57 => ?_) (fun h57 => ?_)
      · exact qa_vret dX3_carryOut_75 rfl rfl (by simp only [xc_carry]; grind) rfl rfl
      · refine qa_aload_n (pc1 := 61) dX3_carryOut_60 rfl rfl rfl ?_
        refine qa_getP (pc1 := 64) dX3_carryOut_61 rfl wf_X3_21 rfl (ko_hm _ (by assumption)) (by omega) (kp_se hps (by assumption)) ?_
        refine qa_aload_n (pc1 := 65) dX3_carryOut_64 rfl rfl rfl ?_
        refine qc_getI (pc1 := 68) dX3_carryOut_65 rfl wf_X3_126 rfl (ko_rc _ (by assumption) _ (by assumption)) (by omega) (by omega) ?_
        refine qa_aload_n (pc1 := 69) dX3_carryOut_68 rfl rfl rfl ?_
        refine qc_getI (pc1 := 72) dX3_carryOut_69 rfl wf_X3_136 rfl (ko_rc _ (by assumption) _ (by assumption)) (by omega) (by omega) ?_
        refine qa_callVv (pc1 := 75) dX3_carryOut_72 rfl (ct_endAnd hps (by assumption) _ _) wc_X3_142 wy_X9_endAndCount rfl rfl (ci := k_se) rfl (ko_se _ (by assumption)) (by omega) rfl ?_
        exact qa_vret dX3_carryOut_75 rfl rfl (by simp only [xc_carry]; grind) rfl rfl
    · refine qa_aload_n (pc1 := 31) dX3_carryOut_30 rfl rfl rfl ?_
      refine qa_getP (pc1 := 34) dX3_carryOut_31 rfl wf_X3_21 rfl (ko_hm _ (by assumption)) (by omega) (kp_se hps (by assumption)) ?_
      refine qa_aload_n (pc1 := 35) dX3_carryOut_34 rfl rfl rfl ?_
      refine qc_getI (pc1 := 38) dX3_carryOut_35 rfl wf_X3_126 rfl (ko_rc _ (by assumption) _ (by assumption)) (by omega) (by omega) ?_
      refine qa_top (hok (Or.inr h27)).2 ?_
      refine qa_aload_n (pc1 := 39) dX3_carryOut_38 rfl rfl rfl ?_
      refine qc_getI (pc1 := 42) dX3_carryOut_39 rfl wf_X3_136 rfl (ko_rc _ (by assumption) _ (by assumption)) (by omega) (by omega) ?_
      refine qa_aload_n (pc1 := 43) dX3_carryOut_42 rfl rfl rfl ?_
      refine qc_getI (pc1 := 46) dX3_carryOut_43 rfl wf_X3_108 rfl (ko_rc _ (by assumption) _ (by assumption)) (by omega) (by omega) ?_
      refine qa_callVv (pc1 := 49) dX3_carryOut_46 rfl (ct_open hps (by assumption) (hok (Or.inr h27)).1 _ _) wc_X3_139 wy_X9_open rfl rfl (ci := k_se) rfl (ko_se _ (by assumption)) (by omega) rfl ?_
      refine qa_goto (tgt := 75) dX3_carryOut_49 rfl ?_
      exact qa_vret dX3_carryOut_75 rfl rfl (by simp only [xc_carry]; grind) rfl rfl
  · refine qa_aload_n (pc1 := 9) dX3_carryOut_8 rfl rfl rfl ?_
    refine qa_getP (pc1 := 12) dX3_carryOut_9 rfl wf_X3_21 rfl (ko_hm _ (by assumption)) (by omega) (kp_se hps (by assumption)) ?_
    refine qa_aload_n (pc1 := 13) dX3_carryOut_12 rfl rfl rfl ?_
    refine qc_getI (pc1 := 16) dX3_carryOut_13 rfl wf_X3_126 rfl (ko_rc _ (by assumption) _ (by assumption)) (by omega) (by omega) ?_
    refine qa_top (hok (Or.inl h5)).2 ?_
    refine qa_callVv (pc1 := 19) dX3_carryOut_16 rfl (ct_endAt hps (by assumption) (hok (Or.inl h5)).1) wc_X3_129 wy_X9_endAt rfl rfl (ci := k_se) rfl (ko_se _ (by assumption)) (by omega) rfl ?_
    refine qa_goto (tgt := 75) dX3_carryOut_19 rfl ?_
    exact qa_vret dX3_carryOut_75 rfl rfl (by simp only [xc_carry]; grind) rfl rfl
set_option maxRecDepth 20000 in
set_option maxHeartbeats 4000000 in
theorem ct_addRecord (hps : kw_ps P) {h k : Nat} (hh : h < 2) (hk40 : k < 40) (hc : C (80 + 48 * h) 5 = nI k) (hok : xc_rok C (88 + 48 * h + k)) : kw_C l D aC b yX3_addRecord cX3_addRecord 1 none 4 [.inr (.inl (80 + 48 * h))] C M P none (xc_add C h k) M P := by
  refine ax_body (own := RX3) (ini := false) (by decide) rfl (fun h => by cases h) (Nat.le_of_ble_eq_true rfl) ?_
  refine qa_aload_n (pc1 := 1) dX3_addRecord_0 rfl rfl rfl ?_
  refine qa_aload_n (pc1 := 2) dX3_addRecord_1 rfl rfl rfl ?_
  refine qa_getP (pc1 := 5) dX3_addRecord_2 rfl wf_X3_27 rfl (ko_hm _ (by assumption)) (by omega) (kp_rcs hps (by assumption)) ?_
  refine qa_aload_n (pc1 := 6) dX3_addRecord_5 rfl rfl rfl ?_
  refine qc_getI (pc1 := 9) dX3_addRecord_6 rfl wf_X3_62 rfl (ko_hm _ (by assumption)) (by omega) (by omega) ?_
  refine qa_top hc ?_
  refine qa_aald (pc1 := 10) dX3_addRecord_9 rfl (ka_rcs _ (by assumption)) rfl (by omega) (by omega) (kp_rc hps (by assumption) (by assumption)) ?_
  refine qa_callVv (pc1 := 13) dX3_addRecord_10 rfl (ct_carry hps (by assumption) (by assumption) (by assumption)) wc_X3_122 wy_X3_carryOut rfl rfl (ci := k_hm) rfl (ko_hm _ (by assumption)) (by omega) rfl ?_
  refine qa_aload_n (pc1 := 14) dX3_addRecord_13 rfl rfl rfl ?_
  refine qa_dup (pc1 := 15) dX3_addRecord_14 rfl ?_
  refine qc_getI (pc1 := 18) dX3_addRecord_15 rfl wf_X3_62 rfl (ko_hm _ (by assumption)) (by omega) (by omega) ?_
  refine qa_top (show _ = nI k from by rw [xc_carry_o (by omega) (by omega) (by omega) (by omega)]; exact hc) ?_
  refine qa_iconst (pc1 := 19) dX3_addRecord_18 (v := (nI 1)) kc_i1N rfl ?_
  refine qn_iadd (pc1 := 20) dX3_addRecord_19 rfl ?_
  refine qc_putI (pc1 := 23) dX3_addRecord_20 rfl wp_X3_62 rfl rfl rfl (ko_hm _ (by assumption)) (by omega) (by omega) ?_
  exact qa_vret dX3_addRecord_23 rfl rfl rfl rfl rfl
set_option maxRecDepth 20000 in
set_option maxHeartbeats 4000000 in
theorem ct_sao (hps : kw_ps P) (hk : xc_nok C) {h r : Nat} (hh : h < 2) (hr : r < 40) : kw_C l D aC b yX3_sendAnswerOf cX3_sendAnswerOf 3 none 5 [.inr (.inl (80 + 48 * h)), .inr (.inl (88 + 48 * h + r)), .inr (.inl 2)] C M P none (xc_sao C P h (88 + 48 * h + r)) M P := by
  refine ax_body (own := RX3) (ini := false) (by decide) rfl (fun h => by cases h) (Nat.le_of_ble_eq_true rfl) ?_
  refine qa_aload_n (pc1 := 1) dX3_sendAnswerOf_0 rfl rfl rfl ?_
  refine qa_aload_n (pc1 := 2) dX3_sendAnswerOf_1 rfl rfl rfl ?_
  refine qc_getI (pc1 := 5) dX3_sendAnswerOf_2 rfl wf_X3_31 rfl (ko_hm _ (by assumption)) (by omega) (by omega) ?_
  refine qa_iconst (pc1 := 6) dX3_sendAnswerOf_5 (v := 2) kc_i2 rfl ?_
  refine qa_aload_n (pc1 := 7) dX3_sendAnswerOf_6 rfl rfl rfl ?_
  refine qc_getI (pc1 := 10) dX3_sendAnswerOf_7 rfl wf_X3_133 rfl (ko_rc _ (by assumption) _ (by assumption)) (by omega) (by omega) ?_
  refine qa_aload_n (pc1 := 11) dX3_sendAnswerOf_10 rfl rfl rfl ?_
  refine qc_getI (pc1 := 14) dX3_sendAnswerOf_11 rfl wf_X3_83 rfl (ko_rc _ (by assumption) _ (by assumption)) (by omega) (by omega) ?_
  refine qa_aload_n (pc1 := 15) dX3_sendAnswerOf_14 rfl rfl rfl ?_
  refine qc_getI (pc1 := 18) dX3_sendAnswerOf_15 rfl wf_X3_86 rfl (ko_rc _ (by assumption) _ (by assumption)) (by omega) (by omega) ?_
  refine qa_aload_n (pc1 := 19) dX3_sendAnswerOf_18 rfl rfl rfl ?_
  refine qc_getI (pc1 := 22) dX3_sendAnswerOf_19 rfl wf_X3_136 rfl (ko_rc _ (by assumption) _ (by assumption)) (by omega) (by omega) ?_
  refine qa_aload_n (pc1 := 23) dX3_sendAnswerOf_22 rfl rfl rfl ?_
  refine qc_getI (pc1 := 26) dX3_sendAnswerOf_23 rfl wf_X3_126 rfl (ko_rc _ (by assumption) _ (by assumption)) (by omega) (by omega) ?_
  refine qa_callVv (pc1 := 29) dX3_sendAnswerOf_26 rfl (ct_snd hps (by assumption) _ _ _ _ _ _ _) wc_X3_146 wy_X6_send rfl rfl (ci := k_net) rfl ko_net (by omega) rfl ?_
  exact qa_vret dX3_sendAnswerOf_29 rfl rfl rfl rfl rfl
set_option maxRecDepth 20000 in
set_option maxHeartbeats 4000000 in
theorem ct_again (hps : kw_ps P) (hk : xc_nok C) {h k : Nat} (hh : h < 2) (hk40 : k < 40) : kw_C l D aC b yX3_hearAgain cX3_hearAgain 3 (some .int) 6 [.inr (.inl (80 + 48 * h)), .inl (nI k), .inr (.inl 2)] C M P (some (.inl (if nI k < C (80 + 48 * h) 6 then 2 else 3))) (if nI k < C (80 + 48 * h) 6 then xc_sao C P h (88 + 48 * h + k) else C) M P := by
  refine ax_body (own := RX3) (ini := false) (by decide) rfl (fun h => by cases h) (Nat.le_of_ble_eq_true rfl) ?_
  refine qa_iload_n (pc1 := 1) dX3_hearAgain_0 rfl rfl rfl ?_
  refine qa_aload_n (pc1 := 2) dX3_hearAgain_1 rfl rfl rfl ?_
  refine qc_getI (pc1 := 5) dX3_hearAgain_2 rfl wf_X3_90 rfl (ko_hm _ (by assumption)) (by omega) (by omega) ?_
  refine qa_ic_lt (tgt := 10) (pc1 := 8) dX3_hearAgain_5 rfl rfl (fun h5 => ?_) (fun h5 => ?_)
  · refine qa_aload_n (pc1 := 11) dX3_hearAgain_10 rfl rfl rfl ?_
    refine qa_aload_n (pc1 := 12) dX3_hearAgain_11 rfl rfl rfl ?_
    refine qa_getP (pc1 := 15) dX3_hearAgain_12 rfl wf_X3_27 rfl (ko_hm _ (by assumption)) (by omega) (kp_rcs hps (by assumption)) ?_
    refine qa_iload_n (pc1 := 16) dX3_hearAgain_15 rfl rfl rfl ?_
    refine qa_aald (pc1 := 17) dX3_hearAgain_16 rfl (ka_rcs _ (by assumption)) rfl (by omega) (by omega) (kp_rc hps (by assumption) (by assumption)) ?_
    refine qa_aload_n (pc1 := 18) dX3_hearAgain_17 rfl rfl rfl ?_
    refine qa_callVv (pc1 := 21) dX3_hearAgain_18 rfl (ct_sao hps (by assumption) (by assumption) (by assumption)) wc_X3_93 wy_X3_sendAnswerOf rfl rfl (ci := k_hm) rfl (ko_hm _ (by assumption)) (by omega) rfl ?_
    refine qa_iconst (pc1 := 22) dX3_hearAgain_21 (v := 2) kc_i2 rfl ?_
    exact qa_iret dX3_hearAgain_22 rfl (vp_nar_int _) (by grind) (by grind) rfl rfl
  · refine qa_iconst (pc1 := 9) dX3_hearAgain_8 (v := 3) kc_i3 rfl ?_
    exact qa_iret dX3_hearAgain_9 rfl (vp_nar_int _) (by grind) (by grind) rfl rfl
set_option maxRecDepth 20000 in
set_option maxHeartbeats 4000000 in
theorem ct_latest (hps : kw_ps P) {h d k : Nat} (hh : h < 2) (hdg : kw_dg d) (hk40 : k ≤ 40) (hc : C (80 + 48 * h) 5 = nI k) (now : Int32) : kw_C l D aC b yX3_latestRecordOf cX3_latestRecordOf 5 (some .int) 1 [.inr (.inl (80 + 48 * h)), .inr (.inl (d + 1)), .inl now] C M P (some (.inl (xc_io (kw_last (xc_kn C h (d + 1) now) k)))) C M P := by
  refine ax_body (own := RX3) (ini := false) (by decide) rfl (fun h => by cases h) (Nat.le_of_ble_eq_true rfl) ?_
  have hq1 := hdg.2.2
  have hq0 := hdg.2.1
  have loop : ∀ j, j ≤ 40 → kw_last (xc_kn C h (d + 1) now) j = kw_last (xc_kn C h (d + 1) now) k → ax_G l D aC b RX3 cX3_latestRecordOf 5 (some .int) false (kw_rm 1) 191 (ax_F D aC b 191 0 0 (kw_R (some (.inl (xc_io (kw_last (xc_kn C h (d + 1) now) k)))) kw_K kw_L (kw_gl C M) P)) (fun _ => True) 7 [(3, .inl (kw_m j)), (0, .inr (.inl (80 + 48 * h))), (1, .inr (.inl (d + 1))), (2, .inl now)] [] 0 0 kw_K kw_L (kw_gl C M) P := by
    intro j
    induction j with
    | zero =>
      intro hj hf
      refine qa_iload_n (pc1 := 8) dX3_latestRecordOf_7 rfl rfl rfl ?_
      refine qt_if_lt (tgt := 72) dX3_latestRecordOf_8 rfl (by decide) ?_
      refine qa_iconst (pc1 := 73) dX3_latestRecordOf_72 (v := (-1)) kc_im1 rfl ?_
      exact qa_iret dX3_latestRecordOf_73 rfl (vp_nar_int _) (by rw [← hf]; rfl) rfl rfl rfl
    | succ j ih =>
      intro hj hf
      have hr : j < 40 := by omega
      rw [kw_m_s]
      refine qa_iload_n (pc1 := 8) dX3_latestRecordOf_7 rfl rfl rfl ?_
      refine qn_if_lt (tgt := 72) (pc1 := 11) dX3_latestRecordOf_8 rfl rfl (by omega) ?_
      refine qa_aload_n (pc1 := 12) dX3_latestRecordOf_11 rfl rfl rfl ?_
      refine qa_getP (pc1 := 15) dX3_latestRecordOf_12 rfl wf_X3_27 rfl (ko_hm _ (by assumption)) (by omega) (kp_rcs hps (by assumption)) ?_
      refine qa_iload_n (pc1 := 16) dX3_latestRecordOf_15 rfl rfl rfl ?_
      refine qa_aald (pc1 := 17) dX3_latestRecordOf_16 rfl (ka_rcs _ (by assumption)) rfl (by omega) (by omega) (kp_rc hps (by assumption) (by assumption)) ?_
      refine qa_astore (pc1 := 19) dX3_latestRecordOf_17 (by decide) rfl ?_
      refine qa_aload (pc1 := 21) dX3_latestRecordOf_19 rfl rfl ?_
      refine qc_getI (pc1 := 24) dX3_latestRecordOf_21 rfl wf_X3_69 rfl (ko_rc _ (by assumption) _ (by assumption)) (by omega) (by omega) ?_
      refine qa_aload_n (pc1 := 25) dX3_latestRecordOf_24 rfl rfl rfl ?_
      refine qa_iconst (pc1 := 26) dX3_latestRecordOf_25 (v := (nI 0)) kc_i0N rfl ?_
      refine qc_iald (pc1 := 27) dX3_latestRecordOf_26 rfl (ka_pa _ (by assumption)) rfl (by omega) (by omega) (by decide) ?_
      refine qa_ic_ne (tgt := 66) (pc1 := 30) dX3_latestRecordOf_27 rfl rfl (fun h27 => ?_) (fun h27 => ?_)
      · refine qa_iinc (pc1 := 69) dX3_latestRecordOf_66 rfl (kw_m_dec j) (by decide) rfl ?_
        refine qa_goto (tgt := 7) dX3_latestRecordOf_69 rfl ?_
        exact qa_ls (by exact (kw_lsc rfl (kw_lsc rfl (kw_lsc rfl (kw_lsc rfl kw_lsn))))) (ih (by omega) (by rw [← hf]; simp only [kw_last]; rw [if_neg (by simp only [xc_kn, decide_eq_true_eq]; grind)]))
      · refine qa_aload (pc1 := 32) dX3_latestRecordOf_30 rfl rfl ?_
        refine qc_getI (pc1 := 35) dX3_latestRecordOf_32 rfl wf_X3_83 rfl (ko_rc _ (by assumption) _ (by assumption)) (by omega) (by omega) ?_
        refine qa_aload_n (pc1 := 36) dX3_latestRecordOf_35 rfl rfl rfl ?_
        refine qa_iconst (pc1 := 37) dX3_latestRecordOf_36 (v := (nI 1)) kc_i1N rfl ?_
        refine qc_iald (pc1 := 38) dX3_latestRecordOf_37 rfl (ka_pa _ (by assumption)) rfl (by omega) (by omega) (by decide) ?_
        refine qa_ic_ne (tgt := 66) (pc1 := 41) dX3_latestRecordOf_38 rfl rfl (fun h38 => ?_) (fun h38 => ?_)
        · refine qa_iinc (pc1 := 69) dX3_latestRecordOf_66 rfl (kw_m_dec j) (by decide) rfl ?_
          refine qa_goto (tgt := 7) dX3_latestRecordOf_69 rfl ?_
          exact qa_ls (by exact (kw_lsc rfl (kw_lsc rfl (kw_lsc rfl (kw_lsc rfl kw_lsn))))) (ih (by omega) (by rw [← hf]; simp only [kw_last]; rw [if_neg (by simp only [xc_kn, decide_eq_true_eq]; grind)]))
        · refine qa_aload (pc1 := 43) dX3_latestRecordOf_41 rfl rfl ?_
          refine qc_getI (pc1 := 46) dX3_latestRecordOf_43 rfl wf_X3_86 rfl (ko_rc _ (by assumption) _ (by assumption)) (by omega) (by omega) ?_
          refine qa_aload_n (pc1 := 47) dX3_latestRecordOf_46 rfl rfl rfl ?_
          refine qa_iconst (pc1 := 48) dX3_latestRecordOf_47 (v := (nI 2)) kc_i2N rfl ?_
          refine qc_iald (pc1 := 49) dX3_latestRecordOf_48 rfl (ka_pa _ (by assumption)) rfl (by omega) (by omega) (by decide) ?_
          refine qa_ic_ne (tgt := 66) (pc1 := 52) dX3_latestRecordOf_49 rfl rfl (fun h49 => ?_) (fun h49 => ?_)
          · refine qa_iinc (pc1 := 69) dX3_latestRecordOf_66 rfl (kw_m_dec j) (by decide) rfl ?_
            refine qa_goto (tgt := 7) dX3_latestRecordOf_69 rfl ?_
            exact qa_ls (by exact (kw_lsc rfl (kw_lsc rfl (kw_lsc rfl (kw_lsc rfl kw_lsn))))) (ih (by omega) (by rw [← hf]; simp only [kw_last]; rw [if_neg (by simp only [xc_kn, decide_eq_true_eq]; grind)]))
          · refine qa_iload_n (pc1 := 53) dX3_latestRecordOf_52 rfl rfl rfl ?_
            refine qa_aload (pc1 := 55) dX3_latestRecordOf_53 rfl rfl ?_
            refine qc_getI (pc1 := 58) dX3_latestRecordOf_55 rfl wf_X3_89 rfl (ko_rc _ (by assumption) _ (by assumption)) (by omega) (by omega) ?_
            refine qa_isub (pc1 := 59) dX3_latestRecordOf_58 rfl ?_
            refine qa_bipush (pc1 := 61) dX3_latestRecordOf_59 (v := 20) kc_b20 rfl ?_
            refine qa_ic_gt (tgt := 66) (pc1 := 64) dX3_latestRecordOf_61 rfl rfl (fun h61 => ?_) (fun h61 => ?_)
            · refine qa_iinc (pc1 := 69) dX3_latestRecordOf_66 rfl (kw_m_dec j) (by decide) rfl ?_
              refine qa_goto (tgt := 7) dX3_latestRecordOf_69 rfl ?_
              exact qa_ls (by exact (kw_lsc rfl (kw_lsc rfl (kw_lsc rfl (kw_lsc rfl kw_lsn))))) (ih (by omega) (by rw [← hf]; simp only [kw_last]; rw [if_neg (by simp only [xc_kn, decide_eq_true_eq]; grind)]))
            · refine qa_iload_n (pc1 := 65) dX3_latestRecordOf_64 rfl rfl rfl ?_
              exact qa_iret dX3_latestRecordOf_65 rfl (vp_nar_int _) (by rw [← hf, kw_last, if_pos (by simp only [xc_kn, decide_eq_true_eq]; grind)]; rfl) rfl rfl rfl
  refine qa_aload_n (pc1 := 1) dX3_latestRecordOf_0 rfl rfl rfl ?_
  refine qc_getI (pc1 := 4) dX3_latestRecordOf_1 rfl wf_X3_62 rfl (ko_hm _ (by assumption)) (by omega) (by omega) ?_
  refine qa_top hc ?_
  refine qa_iconst (pc1 := 5) dX3_latestRecordOf_4 (v := 1) kc_i1 rfl ?_
  refine qa_isub (pc1 := 6) dX3_latestRecordOf_5 rfl ?_
  refine qa_top (show nI k - 1 = kw_m k from rfl) ?_
  refine qa_istore_n (pc1 := 7) dX3_latestRecordOf_6 rfl (by decide) rfl ?_
  exact qa_ls (by exact (kw_lsc rfl (kw_lsc rfl (kw_lsc rfl (kw_lsc rfl kw_lsn))))) (loop k hk40 rfl)
set_option maxRecDepth 20000 in
set_option maxHeartbeats 4000000 in
theorem ct_hh0 (hps : kw_ps P) {h d : Nat} (hh : h < 2) (hdg : kw_dg d) (hq : ¬ (xc_rq (C (d + 1) 0) ∧ xc_right C d (C (d + 1) 2))) : kw_C l D aC b yX3_hear cX3_hear 6 (some .int) 7 [.inr (.inl (80 + 48 * h)), .inr (.inl d), .inr (.inl 2)] C M P (some (.inl 0)) C M P := by
  refine ax_body (own := RX3) (ini := false) (by decide) rfl (fun h => by cases h) (Nat.le_of_ble_eq_true rfl) ?_
  have hq1 := hdg.2.2
  have hq0 := hdg.2.1
  refine qa_aload_n (pc1 := 1) dX3_hear_0 rfl rfl rfl ?_
  refine qa_getP (pc1 := 4) dX3_hear_1 rfl wf_X3_36 rfl (ko_dg _ (by assumption)) (by omega) (kp_pa hps (by assumption)) ?_
  refine qa_astore_n (pc1 := 5) dX3_hear_4 rfl (by decide) rfl ?_
  refine qa_aload_n (pc1 := 6) dX3_hear_5 rfl rfl rfl ?_
  refine qa_iconst (pc1 := 7) dX3_hear_6 (v := (nI 0)) kc_i0N rfl ?_
  refine qc_iald (pc1 := 8) dX3_hear_7 rfl (ka_pa _ (by assumption)) rfl (by omega) (by omega) (by decide) ?_
  refine qa_callTi (pc1 := 11) dX3_hear_8 rfl (ct_isRequest _) wc_X3_41 wy_X0_isRequest rfl rfl rfl ?_
  refine qb_if_eq (tgt := 25) (pc1 := 14) dX3_hear_11 rfl rfl (fun h11 => ?_) (fun h11 => ?_)
  · refine qa_iconst (pc1 := 26) dX3_hear_25 (v := 0) kc_i0 rfl ?_
    exact qa_iret dX3_hear_26 rfl (vp_nar_int _) rfl rfl rfl rfl
  · refine qa_aload_n (pc1 := 15) dX3_hear_14 rfl rfl rfl ?_
    refine qa_aload_n (pc1 := 16) dX3_hear_15 rfl rfl rfl ?_
    refine qa_aload_n (pc1 := 17) dX3_hear_16 rfl rfl rfl ?_
    refine qa_iconst (pc1 := 18) dX3_hear_17 (v := (nI 2)) kc_i2N rfl ?_
    refine qc_iald (pc1 := 19) dX3_hear_18 rfl (ka_pa _ (by assumption)) rfl (by omega) (by omega) (by decide) ?_
    refine qa_callVi (pc1 := 22) dX3_hear_19 rfl (ct_isRight hps (by assumption) _) wc_X3_45 wy_X6_isRight rfl rfl (ci := k_net) rfl ko_net (by omega) rfl ?_
    refine qb_if_ne (tgt := 27) (pc1 := 25) dX3_hear_22 rfl rfl (fun h22 => ?_) (fun h22 => ?_)
    · exact absurd ⟨h11, h22⟩ hq
    · refine qa_iconst (pc1 := 26) dX3_hear_25 (v := 0) kc_i0 rfl ?_
      exact qa_iret dX3_hear_26 rfl (vp_nar_int _) rfl rfl rfl rfl
set_option maxRecDepth 20000 in
set_option maxHeartbeats 4000000 in
theorem ct_hh1 (hps : kw_ps P) (hk : xc_nok C) {h d k : Nat} (hh : h < 2) (hdg : kw_dg d) (hk40 : k ≤ 40) (hc : C (80 + 48 * h) 5 = nI k) (hq : (xc_rq (C (d + 1) 0) ∧ xc_right C d (C (d + 1) 2))) {j : Nat} (hkn : kw_last (xc_kn C h (d + 1) (C 2 4)) k = some j) : kw_C l D aC b yX3_hear cX3_hear 6 (some .int) 7 [.inr (.inl (80 + 48 * h)), .inr (.inl d), .inr (.inl 2)] C M P (some (.inl (if nI j < C (80 + 48 * h) 6 then 2 else 3))) (if nI j < C (80 + 48 * h) 6 then xc_sao C P h (88 + 48 * h + j) else C) M P := by
  refine ax_body (own := RX3) (ini := false) (by decide) rfl (fun h => by cases h) (Nat.le_of_ble_eq_true rfl) ?_
  have hq1 := hdg.2.2
  have hq0 := hdg.2.1
  have hj : j < 40 := by have := (kw_last_some hkn).1; omega
  refine qa_aload_n (pc1 := 1) dX3_hear_0 rfl rfl rfl ?_
  refine qa_getP (pc1 := 4) dX3_hear_1 rfl wf_X3_36 rfl (ko_dg _ (by assumption)) (by omega) (kp_pa hps (by assumption)) ?_
  refine qa_astore_n (pc1 := 5) dX3_hear_4 rfl (by decide) rfl ?_
  refine qa_aload_n (pc1 := 6) dX3_hear_5 rfl rfl rfl ?_
  refine qa_iconst (pc1 := 7) dX3_hear_6 (v := (nI 0)) kc_i0N rfl ?_
  refine qc_iald (pc1 := 8) dX3_hear_7 rfl (ka_pa _ (by assumption)) rfl (by omega) (by omega) (by decide) ?_
  refine qa_callTi (pc1 := 11) dX3_hear_8 rfl (ct_isRequest _) wc_X3_41 wy_X0_isRequest rfl rfl rfl ?_
  refine qf_if_eq (tgt := 25) (pc1 := 14) dX3_hear_11 rfl rfl (kw_b1.mpr hq.1) ?_
  refine qa_aload_n (pc1 := 15) dX3_hear_14 rfl rfl rfl ?_
  refine qa_aload_n (pc1 := 16) dX3_hear_15 rfl rfl rfl ?_
  refine qa_aload_n (pc1 := 17) dX3_hear_16 rfl rfl rfl ?_
  refine qa_iconst (pc1 := 18) dX3_hear_17 (v := (nI 2)) kc_i2N rfl ?_
  refine qc_iald (pc1 := 19) dX3_hear_18 rfl (ka_pa _ (by assumption)) rfl (by omega) (by omega) (by decide) ?_
  refine qa_callVi (pc1 := 22) dX3_hear_19 rfl (ct_isRight hps (by assumption) _) wc_X3_45 wy_X6_isRight rfl rfl (ci := k_net) rfl ko_net (by omega) rfl ?_
  refine qt_if_ne (tgt := 27) dX3_hear_22 rfl (kw_b1.mpr hq.2) ?_
  refine qa_aload_n (pc1 := 28) dX3_hear_27 rfl rfl rfl ?_
  refine qa_aload_n (pc1 := 29) dX3_hear_28 rfl rfl rfl ?_
  refine qa_aload_n (pc1 := 30) dX3_hear_29 rfl rfl rfl ?_
  refine qc_getI (pc1 := 33) dX3_hear_30 rfl wf_X3_51 rfl ko_net (by omega) (by omega) ?_
  refine qa_callVi (pc1 := 36) dX3_hear_33 rfl (ct_latest hps (by assumption) (by assumption) hk40 hc _) wc_X3_54 wy_X3_latestRecordOf rfl rfl (ci := k_hm) rfl (ko_hm _ (by assumption)) (by omega) rfl ?_
  refine qa_top (show _ = nI j from by rw [hkn]; rfl) ?_
  refine qa_istore (pc1 := 38) dX3_hear_36 (by decide) rfl ?_
  refine qa_iload (pc1 := 40) dX3_hear_38 rfl rfl ?_
  refine qa_iconst (pc1 := 41) dX3_hear_40 (v := (-1)) kc_im1 rfl ?_
  refine qf_ic_eq (tgt := 52) (pc1 := 44) dX3_hear_41 rfl rfl (kw_nm1 j (by omega)) ?_
  refine qa_aload_n (pc1 := 45) dX3_hear_44 rfl rfl rfl ?_
  refine qa_iload (pc1 := 47) dX3_hear_45 rfl rfl ?_
  refine qa_aload_n (pc1 := 48) dX3_hear_47 rfl rfl rfl ?_
  refine qa_callVi (pc1 := 51) dX3_hear_48 rfl (ct_again hps (by assumption) (by assumption) (by assumption)) wc_X3_58 wy_X3_hearAgain rfl rfl (ci := k_hm) rfl (ko_hm _ (by assumption)) (by omega) rfl ?_
  exact qa_iret dX3_hear_51 rfl (vp_nar_int _) rfl rfl rfl rfl
set_option maxRecDepth 20000 in
set_option maxHeartbeats 4000000 in
theorem ct_hh2 (hps : kw_ps P) (hk : xc_nok C) {h d k : Nat} (hh : h < 2) (hdg : kw_dg d) (hk40 : k ≤ 40) (hc : C (80 + 48 * h) 5 = nI k) (hq : (xc_rq (C (d + 1) 0) ∧ xc_right C d (C (d + 1) 2))) (hkn : kw_last (xc_kn C h (d + 1) (C 2 4)) k = none) (h40 : k = 40) : kw_C l D aC b yX3_hear cX3_hear 6 (some .int) 7 [.inr (.inl (80 + 48 * h)), .inr (.inl d), .inr (.inl 2)] C M P (some (.inl 0)) C M P := by
  refine ax_body (own := RX3) (ini := false) (by decide) rfl (fun h => by cases h) (Nat.le_of_ble_eq_true rfl) ?_
  have hq1 := hdg.2.2
  have hq0 := hdg.2.1
  refine qa_aload_n (pc1 := 1) dX3_hear_0 rfl rfl rfl ?_
  refine qa_getP (pc1 := 4) dX3_hear_1 rfl wf_X3_36 rfl (ko_dg _ (by assumption)) (by omega) (kp_pa hps (by assumption)) ?_
  refine qa_astore_n (pc1 := 5) dX3_hear_4 rfl (by decide) rfl ?_
  refine qa_aload_n (pc1 := 6) dX3_hear_5 rfl rfl rfl ?_
  refine qa_iconst (pc1 := 7) dX3_hear_6 (v := (nI 0)) kc_i0N rfl ?_
  refine qc_iald (pc1 := 8) dX3_hear_7 rfl (ka_pa _ (by assumption)) rfl (by omega) (by omega) (by decide) ?_
  refine qa_callTi (pc1 := 11) dX3_hear_8 rfl (ct_isRequest _) wc_X3_41 wy_X0_isRequest rfl rfl rfl ?_
  refine qf_if_eq (tgt := 25) (pc1 := 14) dX3_hear_11 rfl rfl (kw_b1.mpr hq.1) ?_
  refine qa_aload_n (pc1 := 15) dX3_hear_14 rfl rfl rfl ?_
  refine qa_aload_n (pc1 := 16) dX3_hear_15 rfl rfl rfl ?_
  refine qa_aload_n (pc1 := 17) dX3_hear_16 rfl rfl rfl ?_
  refine qa_iconst (pc1 := 18) dX3_hear_17 (v := (nI 2)) kc_i2N rfl ?_
  refine qc_iald (pc1 := 19) dX3_hear_18 rfl (ka_pa _ (by assumption)) rfl (by omega) (by omega) (by decide) ?_
  refine qa_callVi (pc1 := 22) dX3_hear_19 rfl (ct_isRight hps (by assumption) _) wc_X3_45 wy_X6_isRight rfl rfl (ci := k_net) rfl ko_net (by omega) rfl ?_
  refine qt_if_ne (tgt := 27) dX3_hear_22 rfl (kw_b1.mpr hq.2) ?_
  refine qa_aload_n (pc1 := 28) dX3_hear_27 rfl rfl rfl ?_
  refine qa_aload_n (pc1 := 29) dX3_hear_28 rfl rfl rfl ?_
  refine qa_aload_n (pc1 := 30) dX3_hear_29 rfl rfl rfl ?_
  refine qc_getI (pc1 := 33) dX3_hear_30 rfl wf_X3_51 rfl ko_net (by omega) (by omega) ?_
  refine qa_callVi (pc1 := 36) dX3_hear_33 rfl (ct_latest hps (by assumption) (by assumption) hk40 hc _) wc_X3_54 wy_X3_latestRecordOf rfl rfl (ci := k_hm) rfl (ko_hm _ (by assumption)) (by omega) rfl ?_
  refine qa_top (show _ = (-1 : Int32) from by rw [hkn]; rfl) ?_
  refine qa_istore (pc1 := 38) dX3_hear_36 (by decide) rfl ?_
  refine qa_iload (pc1 := 40) dX3_hear_38 rfl rfl ?_
  refine qa_iconst (pc1 := 41) dX3_hear_40 (v := (-1)) kc_im1 rfl ?_
  refine qt_ic_eq (tgt := 52) dX3_hear_41 rfl rfl ?_
  refine qa_aload_n (pc1 := 53) dX3_hear_52 rfl rfl rfl ?_
  refine qc_getI (pc1 := 56) dX3_hear_53 rfl wf_X3_62 rfl (ko_hm _ (by assumption)) (by omega) (by omega) ?_
  refine qa_bipush (pc1 := 58) dX3_hear_56 (v := 40) kc_b40 rfl ?_
  refine qf_ic_lt (tgt := 63) (pc1 := 61) dX3_hear_58 rfl rfl (by rw [hc, h40]; decide) ?_
  refine qa_iconst (pc1 := 62) dX3_hear_61 (v := 0) kc_i0 rfl ?_
  exact qa_iret dX3_hear_62 rfl (vp_nar_int _) rfl rfl rfl rfl
theorem xc_new_c {C : ax_I} {h k d : Nat} : xc_new C h k d (80 + 48 * h) 5 = C (80 + 48 * h) 5 := by
  unfold xc_new xc_ask xc_sa xc_tr
  (repeat' split) <;> simp [ax_u, show ¬ 80 + 48 * h = 88 + 48 * h + k from by omega]
theorem xc_sa_5 {C : ax_I} {r : Nat} {x a b : Int32} : xc_sa C r x a b r 5 = x := by simp [xc_sa, ax_u]
theorem xc_sa_7 {C : ax_I} {r : Nat} {x a b : Int32} : xc_sa C r x a b r 7 = b := by simp [xc_sa, ax_u]
theorem xc_sa_0 {C : ax_I} {r : Nat} {x a b : Int32} : xc_sa C r x a b r 0 = C r 0 := by simp [xc_sa, ax_u]
theorem xc_tr_0 {C : ax_I} {r q : Nat} {now : Int32} : xc_tr C r q now r 0 = C q 0 := by simp [xc_tr, ax_u]
theorem xc_ask_ok {C : ax_I} {h r : Nat} {hid : Int32} (h5 : ¬ C r 0 = 5) : xc_rok (xc_ask C h r hid) r := by
  unfold xc_ask
  split
  · split
    · split
      · intro h1; rw [xc_sa_0, xc_sa_5] at h1
        rcases h1 with h1 | h1
        · exact absurd h1 h5
        · exact absurd h1 (by decide)
      · rename_i hne
        intro _
        rw [xc_sa_7]
        cases e : xc_least C h with
        | none => rw [e] at hne; exact absurd rfl hne
        | some j =>
          have := (kw_first_some e).2.1
          show (nI j).toNatClampNeg < 6 ∧ nI j = nI (nI j).toNatClampNeg
          rw [nI_clamp (by omega)]
          exact ⟨by omega, rfl⟩
    · intro h1; rw [xc_sa_0, xc_sa_5] at h1
      rcases h1 with h1 | h1
      · exact absurd h1 h5
      · exact absurd h1 (by decide)
  · intro h1; rw [xc_sa_0, xc_sa_5] at h1
    rcases h1 with h1 | h1
    · exact absurd h1 h5
    · exact absurd h1 (by decide)
theorem xc_new_ok {C : ax_I} {h k d : Nat} (hq : C (d + 1) 0 = 0 ∨ C (d + 1) 0 = 3) : xc_rok (xc_new C h k d) (88 + 48 * h + k) := by
  have h5 : ¬ C (d + 1) 0 = 5 := by
    rcases hq with e | e <;> (rw [e]; decide)
  unfold xc_new
  split
  · exact xc_ask_ok (by rw [xc_tr_0]; exact h5)
  · intro h1; rw [xc_sa_0, xc_sa_5, xc_tr_0] at h1
    rcases h1 with h1 | h1
    · exact absurd h1 h5
    · exact absurd h1 (by decide)
set_option maxRecDepth 20000 in
set_option maxHeartbeats 4000000 in
theorem ct_hh3 (hps : kw_ps P) (hk : xc_nok C) {h d k : Nat} (hh : h < 2) (hdg : kw_dg d) (hk40 : k < 40) (hc : C (80 + 48 * h) 5 = nI k) (hq : (xc_rq (C (d + 1) 0) ∧ xc_right C d (C (d + 1) 2))) (hkn : kw_last (xc_kn C h (d + 1) (C 2 4)) k = none) : kw_C l D aC b yX3_hear cX3_hear 6 (some .int) 7 [.inr (.inl (80 + 48 * h)), .inr (.inl d), .inr (.inl 2)] C M P (some (.inl 1)) (xc_add (xc_new C h k d) h k) M P := by
  refine ax_body (own := RX3) (ini := false) (by decide) rfl (fun h => by cases h) (Nat.le_of_ble_eq_true rfl) ?_
  have J : ax_G l D aC b RX3 cX3_hear 6 (some .int) false (kw_rm 7) 191 (ax_F D aC b 191 0 0 (kw_R (some (.inl 1)) kw_K kw_L (kw_gl (xc_add (xc_new C h k d) h k) M) P)) (fun _ => True) 117 [(0, .inr (.inl (80 + 48 * h)))] [] 0 0 kw_K kw_L (kw_gl (xc_new C h k d) M) P := by
    refine qa_aload_n (pc1 := 118) dX3_hear_117 rfl rfl rfl ?_
    refine qa_callVv (pc1 := 121) dX3_hear_118 rfl (ct_addRecord hps hh hk40 (xc_new_c.trans hc) (xc_new_ok hq.1)) wc_X3_80 wy_X3_addRecord rfl rfl (ci := k_hm) rfl (ko_hm _ (by assumption)) (by omega) rfl ?_
    refine qa_iconst (pc1 := 122) dX3_hear_121 (v := 1) kc_i1 rfl ?_
    exact qa_iret dX3_hear_122 rfl (vp_nar_int _) rfl rfl rfl rfl
  have hq1 := hdg.2.2
  have hq0 := hdg.2.1
  have e1 : ¬ d + 1 = 88 + 48 * h + k := by omega
  refine qa_aload_n (pc1 := 1) dX3_hear_0 rfl rfl rfl ?_
  refine qa_getP (pc1 := 4) dX3_hear_1 rfl wf_X3_36 rfl (ko_dg _ (by assumption)) (by omega) (kp_pa hps (by assumption)) ?_
  refine qa_astore_n (pc1 := 5) dX3_hear_4 rfl (by decide) rfl ?_
  refine qa_aload_n (pc1 := 6) dX3_hear_5 rfl rfl rfl ?_
  refine qa_iconst (pc1 := 7) dX3_hear_6 (v := (nI 0)) kc_i0N rfl ?_
  refine qc_iald (pc1 := 8) dX3_hear_7 rfl (ka_pa _ (by assumption)) rfl (by omega) (by omega) (by decide) ?_
  refine qa_callTi (pc1 := 11) dX3_hear_8 rfl (ct_isRequest _) wc_X3_41 wy_X0_isRequest rfl rfl rfl ?_
  refine qf_if_eq (tgt := 25) (pc1 := 14) dX3_hear_11 rfl rfl (kw_b1.mpr hq.1) ?_
  refine qa_aload_n (pc1 := 15) dX3_hear_14 rfl rfl rfl ?_
  refine qa_aload_n (pc1 := 16) dX3_hear_15 rfl rfl rfl ?_
  refine qa_aload_n (pc1 := 17) dX3_hear_16 rfl rfl rfl ?_
  refine qa_iconst (pc1 := 18) dX3_hear_17 (v := (nI 2)) kc_i2N rfl ?_
  refine qc_iald (pc1 := 19) dX3_hear_18 rfl (ka_pa _ (by assumption)) rfl (by omega) (by omega) (by decide) ?_
  refine qa_callVi (pc1 := 22) dX3_hear_19 rfl (ct_isRight hps (by assumption) _) wc_X3_45 wy_X6_isRight rfl rfl (ci := k_net) rfl ko_net (by omega) rfl ?_
  refine qt_if_ne (tgt := 27) dX3_hear_22 rfl (kw_b1.mpr hq.2) ?_
  refine qa_aload_n (pc1 := 28) dX3_hear_27 rfl rfl rfl ?_
  refine qa_aload_n (pc1 := 29) dX3_hear_28 rfl rfl rfl ?_
  refine qa_aload_n (pc1 := 30) dX3_hear_29 rfl rfl rfl ?_
  refine qc_getI (pc1 := 33) dX3_hear_30 rfl wf_X3_51 rfl ko_net (by omega) (by omega) ?_
  refine qa_callVi (pc1 := 36) dX3_hear_33 rfl (ct_latest hps (by assumption) (by assumption) (Nat.le_of_lt hk40) hc _) wc_X3_54 wy_X3_latestRecordOf rfl rfl (ci := k_hm) rfl (ko_hm _ (by assumption)) (by omega) rfl ?_
  refine qa_top (show _ = (-1 : Int32) from by rw [hkn]; rfl) ?_
  refine qa_istore (pc1 := 38) dX3_hear_36 (by decide) rfl ?_
  refine qa_iload (pc1 := 40) dX3_hear_38 rfl rfl ?_
  refine qa_iconst (pc1 := 41) dX3_hear_40 (v := (-1)) kc_im1 rfl ?_
  refine qt_ic_eq (tgt := 52) dX3_hear_41 rfl rfl ?_
  refine qa_aload_n (pc1 := 53) dX3_hear_52 rfl rfl rfl ?_
  refine qc_getI (pc1 := 56) dX3_hear_53 rfl wf_X3_62 rfl (ko_hm _ (by assumption)) (by omega) (by omega) ?_
  refine qa_bipush (pc1 := 58) dX3_hear_56 (v := 40) kc_b40 rfl ?_
  refine qt_ic_lt (tgt := 63) dX3_hear_58 rfl (by rw [hc]; exact kw_40 hk40) ?_
  refine qa_aload_n (pc1 := 64) dX3_hear_63 rfl rfl rfl ?_
  refine qa_getP (pc1 := 67) dX3_hear_64 rfl wf_X3_27 rfl (ko_hm _ (by assumption)) (by omega) (kp_rcs hps (by assumption)) ?_
  refine qa_aload_n (pc1 := 68) dX3_hear_67 rfl rfl rfl ?_
  refine qc_getI (pc1 := 71) dX3_hear_68 rfl wf_X3_62 rfl (ko_hm _ (by assumption)) (by omega) (by omega) ?_
  refine qa_top hc ?_
  refine qa_aald (pc1 := 72) dX3_hear_71 rfl (ka_rcs _ (by assumption)) rfl (by omega) (by omega) (kp_rc hps (by assumption) (by assumption)) ?_
  refine qa_astore (pc1 := 74) dX3_hear_72 (by decide) rfl ?_
  refine qa_aload (pc1 := 76) dX3_hear_74 rfl rfl ?_
  refine qa_aload_n (pc1 := 77) dX3_hear_76 rfl rfl rfl ?_
  refine qa_aload_n (pc1 := 78) dX3_hear_77 rfl rfl rfl ?_
  refine qc_getI (pc1 := 81) dX3_hear_78 rfl wf_X3_51 rfl ko_net (by omega) (by omega) ?_
  refine qa_callVv (pc1 := 84) dX3_hear_81 rfl (ct_takeRequest (by assumption) (by assumption) (by assumption) _) wc_X3_65 wy_X4_takeRequest rfl rfl (ci := k_rc) rfl (ko_rc _ (by assumption) _ (by assumption)) (by omega) rfl ?_
  refine qa_aload (pc1 := 86) dX3_hear_84 rfl rfl ?_
  refine qc_getI (pc1 := 89) dX3_hear_86 rfl wf_X3_69 rfl (ko_rc _ (by assumption) _ (by assumption)) (by omega) (by omega) ?_
  refine qa_top (show _ = C (d + 1) 0 from by simp [xc_tr, ax_u, e1]) ?_
  refine qa_if_ne (tgt := 105) (pc1 := 92) dX3_hear_89 rfl rfl (fun h89 => ?_) (fun h89 => ?_)
  · refine qa_aload (pc1 := 107) dX3_hear_105 rfl rfl ?_
    refine qa_iconst (pc1 := 108) dX3_hear_107 (v := 4) kc_i4 rfl ?_
    refine qa_aload_n (pc1 := 109) dX3_hear_108 rfl rfl rfl ?_
    refine qa_iconst (pc1 := 110) dX3_hear_109 (v := (nI 3)) kc_i3N rfl ?_
    refine qc_iald (pc1 := 111) dX3_hear_110 rfl (ka_pa _ (by assumption)) rfl (by omega) (by omega) (by decide) ?_
    refine qa_top (show _ = C (d + 1) 3 from by simp [xc_tr, ax_u, e1]) ?_
    refine qa_aload_n (pc1 := 112) dX3_hear_111 rfl rfl rfl ?_
    refine qa_iconst (pc1 := 113) dX3_hear_112 (v := (nI 4)) kc_i4N rfl ?_
    refine qc_iald (pc1 := 114) dX3_hear_113 rfl (ka_pa _ (by assumption)) rfl (by omega) (by omega) (by decide) ?_
    refine qa_top (show _ = C (d + 1) 4 from by simp [xc_tr, ax_u, e1]) ?_
    refine qa_callVv (pc1 := 117) dX3_hear_114 rfl (ct_setAnswer (by assumption) (by assumption) _ _ _) wc_X3_76 wy_X4_setAnswer rfl rfl (ci := k_rc) rfl (ko_rc _ (by assumption) _ (by assumption)) (by omega) rfl ?_
    exact qa_memC (by simp only [xc_new]; grind) (qa_ls (by exact (kw_lsc rfl kw_lsn)) J)
  · refine qa_aload_n (pc1 := 93) dX3_hear_92 rfl rfl rfl ?_
    refine qa_aload (pc1 := 95) dX3_hear_93 rfl rfl ?_
    refine qa_aload_n (pc1 := 96) dX3_hear_95 rfl rfl rfl ?_
    refine qa_iconst (pc1 := 97) dX3_hear_96 (v := (nI 4)) kc_i4N rfl ?_
    refine qc_iald (pc1 := 98) dX3_hear_97 rfl (ka_pa _ (by assumption)) rfl (by omega) (by omega) (by decide) ?_
    refine qa_top (show _ = C (d + 1) 4 from by simp [xc_tr, ax_u, e1]) ?_
    refine qa_aload_n (pc1 := 99) dX3_hear_98 rfl rfl rfl ?_
    refine qa_callVv (pc1 := 102) dX3_hear_99 rfl (ct_ask hps (by assumption) (by assumption) _) wc_X3_72 wy_X3_answerAsk rfl rfl (ci := k_hm) rfl (ko_hm _ (by assumption)) (by omega) rfl ?_
    refine qa_goto (tgt := 117) dX3_hear_102 rfl ?_
    exact qa_memC (by simp only [xc_new]; grind) (qa_ls (by exact (kw_lsc rfl kw_lsn)) J)
set_option maxRecDepth 20000 in
set_option maxHeartbeats 4000000 in
theorem ct_ev0 (hps : kw_ps P) {h : Nat} (hh : h < 2) (a : Int32) (hq : ¬ (xc_oa C h a ∧ C (80 + 48 * h) 5 < 40)) : kw_C l D aC b yX3_makeEviction cX3_makeEviction 3 (some .boolean) 5 [.inr (.inl (80 + 48 * h)), .inl a] C M P (some (.inl 0)) C M P := by
  refine ax_body (own := RX3) (ini := false) (by decide) rfl (fun h => by cases h) (Nat.le_of_ble_eq_true rfl) ?_
  refine qa_aload_n (pc1 := 1) dX3_makeEviction_0 rfl rfl rfl ?_
  refine qa_getP (pc1 := 4) dX3_makeEviction_1 rfl wf_X3_21 rfl (ko_hm _ (by assumption)) (by omega) (kp_se hps (by assumption)) ?_
  refine qa_iload_n (pc1 := 5) dX3_makeEviction_4 rfl rfl rfl ?_
  refine qa_callVi (pc1 := 8) dX3_makeEviction_5 rfl (ct_isOpenAt hps (by assumption) _) wc_X3_150 wy_X9_isOpenAt rfl rfl (ci := k_se) rfl (ko_se _ (by assumption)) (by omega) rfl ?_
  refine qb_if_eq (tgt := 20) (pc1 := 11) dX3_makeEviction_8 rfl rfl (fun h8 => ?_) (fun h8 => ?_)
  · refine qa_iconst (pc1 := 21) dX3_makeEviction_20 (v := 0) kc_i0 rfl ?_
    exact qa_iret dX3_makeEviction_21 rfl (by first | rfl | exact kw_bn) rfl rfl rfl rfl
  · refine qa_aload_n (pc1 := 12) dX3_makeEviction_11 rfl rfl rfl ?_
    refine qc_getI (pc1 := 15) dX3_makeEviction_12 rfl wf_X3_62 rfl (ko_hm _ (by assumption)) (by omega) (by omega) ?_
    refine qa_bipush (pc1 := 17) dX3_makeEviction_15 (v := 40) kc_b40 rfl ?_
    refine qa_ic_lt (tgt := 22) (pc1 := 20) dX3_makeEviction_17 rfl rfl (fun h17 => ?_) (fun h17 => ?_)
    · exact absurd ⟨h8, h17⟩ hq
    · refine qa_iconst (pc1 := 21) dX3_makeEviction_20 (v := 0) kc_i0 rfl ?_
      exact qa_iret dX3_makeEviction_21 rfl (by first | rfl | exact kw_bn) rfl rfl rfl rfl
theorem xc_ev_c {C : ax_I} {h k : Nat} {a : Int32} : xc_ev C h k a (80 + 48 * h) 5 = C (80 + 48 * h) 5 := by
  simp [xc_ev, xc_sa, ax_u, show ¬ 80 + 48 * h = 88 + 48 * h + k from by omega]
theorem xc_ev_ok {C : ax_I} {h k j : Nat} (hj : j < 6) : xc_rok (xc_ev C h k (nI j)) (88 + 48 * h + k) := by
  intro _
  rw [xc_ev, xc_sa_7, nI_clamp (by omega)]
  exact ⟨hj, rfl⟩
set_option maxRecDepth 20000 in
set_option maxHeartbeats 4000000 in
theorem ct_ev1 (hps : kw_ps P) {h k j : Nat} (hh : h < 2) (hk40 : k < 40) (hc : C (80 + 48 * h) 5 = nI k) (hj : j < 6) (hop : xc_oa C h (nI j)) : kw_C l D aC b yX3_makeEviction cX3_makeEviction 3 (some .boolean) 5 [.inr (.inl (80 + 48 * h)), .inl (nI j)] C M P (some (.inl 1)) (xc_add (xc_ev C h k (nI j)) h k) M P := by
  refine ax_body (own := RX3) (ini := false) (by decide) rfl (fun h => by cases h) (Nat.le_of_ble_eq_true rfl) ?_
  refine qa_aload_n (pc1 := 1) dX3_makeEviction_0 rfl rfl rfl ?_
  refine qa_getP (pc1 := 4) dX3_makeEviction_1 rfl wf_X3_21 rfl (ko_hm _ (by assumption)) (by omega) (kp_se hps (by assumption)) ?_
  refine qa_iload_n (pc1 := 5) dX3_makeEviction_4 rfl rfl rfl ?_
  refine qa_callVi (pc1 := 8) dX3_makeEviction_5 rfl (ct_isOpenAt hps (by assumption) _) wc_X3_150 wy_X9_isOpenAt rfl rfl (ci := k_se) rfl (ko_se _ (by assumption)) (by omega) rfl ?_
  refine qf_if_eq (tgt := 20) (pc1 := 11) dX3_makeEviction_8 rfl rfl (kw_b1.mpr hop) ?_
  refine qa_aload_n (pc1 := 12) dX3_makeEviction_11 rfl rfl rfl ?_
  refine qc_getI (pc1 := 15) dX3_makeEviction_12 rfl wf_X3_62 rfl (ko_hm _ (by assumption)) (by omega) (by omega) ?_
  refine qa_bipush (pc1 := 17) dX3_makeEviction_15 (v := 40) kc_b40 rfl ?_
  refine qt_ic_lt (tgt := 22) dX3_makeEviction_17 rfl (by rw [hc]; exact kw_40 hk40) ?_
  refine qa_aload_n (pc1 := 23) dX3_makeEviction_22 rfl rfl rfl ?_
  refine qa_getP (pc1 := 26) dX3_makeEviction_23 rfl wf_X3_27 rfl (ko_hm _ (by assumption)) (by omega) (kp_rcs hps (by assumption)) ?_
  refine qa_aload_n (pc1 := 27) dX3_makeEviction_26 rfl rfl rfl ?_
  refine qc_getI (pc1 := 30) dX3_makeEviction_27 rfl wf_X3_62 rfl (ko_hm _ (by assumption)) (by omega) (by omega) ?_
  refine qa_top hc ?_
  refine qa_aald (pc1 := 31) dX3_makeEviction_30 rfl (ka_rcs _ (by assumption)) rfl (by omega) (by omega) (kp_rc hps (by assumption) (by assumption)) ?_
  refine qa_astore_n (pc1 := 32) dX3_makeEviction_31 rfl (by decide) rfl ?_
  refine qa_aload_n (pc1 := 33) dX3_makeEviction_32 rfl rfl rfl ?_
  refine qa_iconst (pc1 := 34) dX3_makeEviction_33 (v := 5) kc_i5 rfl ?_
  refine qc_putI (pc1 := 37) dX3_makeEviction_34 rfl wp_X3_69 rfl rfl rfl (ko_rc _ (by assumption) _ (by assumption)) (by omega) (by omega) ?_
  refine qa_aload_n (pc1 := 38) dX3_makeEviction_37 rfl rfl rfl ?_
  refine qa_iconst (pc1 := 39) dX3_makeEviction_38 (v := (-1)) kc_im1 rfl ?_
  refine qa_iconst (pc1 := 40) dX3_makeEviction_39 (v := 0) kc_i0 rfl ?_
  refine qa_iload_n (pc1 := 41) dX3_makeEviction_40 rfl rfl rfl ?_
  refine qa_callVv (pc1 := 44) dX3_makeEviction_41 rfl (ct_setAnswer (by assumption) (by assumption) _ _ _) wc_X3_76 wy_X4_setAnswer rfl rfl (ci := k_rc) rfl (ko_rc _ (by assumption) _ (by assumption)) (by omega) rfl ?_
  refine qa_aload_n (pc1 := 45) dX3_makeEviction_44 rfl rfl rfl ?_
  refine qa_callVv (pc1 := 48) dX3_makeEviction_45 rfl (ct_addRecord hps hh hk40 (xc_ev_c.trans hc) (xc_ev_ok hj)) wc_X3_80 wy_X3_addRecord rfl rfl (ci := k_hm) rfl (ko_hm _ (by assumption)) (by omega) rfl ?_
  refine qa_iconst (pc1 := 49) dX3_makeEviction_48 (v := 1) kc_i1 rfl ?_
  exact qa_iret dX3_makeEviction_49 rfl (by first | rfl | exact kw_bn) rfl rfl rfl rfl
theorem xc_sao_ok {C : ax_I} {P : ax_P} (hps : kw_ps P) (hk : xc_nok C) {h r : Nat} : xc_nok (xc_sao C P h r) := xc_snd_ok hps hk
theorem xc_sao_o {C : ax_I} {P : ax_P} (hps : kw_ps P) {h r n : Nat} (h2 : ¬ n = 2) (h1 : n < 6 ∨ 56 ≤ n) : xc_sao C P h r n = C n := xc_snd_o hps h2 h1
set_option maxRecDepth 20000 in
set_option maxHeartbeats 4000000 in
theorem ct_mdur (hps : kw_ps P) (hk0 : xc_nok C) {h k u : Nat} (hh : h < 2) (hk40 : k ≤ 40) (huk : u ≤ k) (hc : C (80 + 48 * h) 5 = nI k) (hu : C (80 + 48 * h) 6 = nI u) : kw_C l D aC b yX3_makeAllDurable cX3_makeAllDurable 4 (some .int) 6 [.inr (.inl (80 + 48 * h)), .inr (.inl 2)] C M P (some (.inl (nI (k - u)))) (ax_u (xc_md P h u (k - u) C) (80 + 48 * h) 6 (nI k)) M P := by
  refine ax_body (own := RX3) (ini := false) (by decide) rfl (fun h => by cases h) (Nat.le_of_ble_eq_true rfl) ?_
  have loop : ∀ i, u ≤ i → i ≤ k → ∀ C1 : ax_I, xc_nok C1 → C1 (80 + 48 * h) 5 = nI k → xc_md P h i (k - i) C1 = xc_md P h u (k - u) C → ax_G l D aC b RX3 cX3_makeAllDurable 4 (some .int) false (kw_rm 6) 191 (ax_F D aC b 191 0 0 (kw_R (some (.inl (nI (k - u)))) kw_K kw_L (kw_gl (ax_u (xc_md P h u (k - u) C) (80 + 48 * h) 6 (nI k)) M) P)) (fun _ => True) 15 [(3, .inl (nI i)), (2, .inl (nI (k - u))), (0, .inr (.inl (80 + 48 * h))), (1, .inr (.inl 2))] [] 0 0 kw_K kw_L (kw_gl C1 M) P := by
    refine kw_loop k (fun i ih hui hik C1 hk hc1 hf => ?_)
    refine qa_iload_n (pc1 := 16) dX3_makeAllDurable_15 rfl rfl rfl ?_
    refine qa_aload_n (pc1 := 17) dX3_makeAllDurable_16 rfl rfl rfl ?_
    refine qc_getI (pc1 := 20) dX3_makeAllDurable_17 rfl wf_X3_62 rfl (ko_hm _ (by assumption)) (by omega) (by omega) ?_
    refine qa_top hc1 ?_
    refine qn_ic_ge (tgt := 53) (pc1 := 23) dX3_makeAllDurable_20 rfl rfl (by omega) (by omega) (fun h20 => ?_) (fun h20 => ?_)
    · refine qa_aload_n (pc1 := 54) dX3_makeAllDurable_53 rfl rfl rfl ?_
      refine qa_aload_n (pc1 := 55) dX3_makeAllDurable_54 rfl rfl rfl ?_
      refine qc_getI (pc1 := 58) dX3_makeAllDurable_55 rfl wf_X3_62 rfl (ko_hm _ (by assumption)) (by omega) (by omega) ?_
      refine qa_top hc1 ?_
      refine qc_putI (pc1 := 61) dX3_makeAllDurable_58 rfl wp_X3_90 rfl rfl rfl (ko_hm _ (by assumption)) (by omega) (by omega) ?_
      refine qa_iload_n (pc1 := 62) dX3_makeAllDurable_61 rfl rfl rfl ?_
      exact qa_iret dX3_makeAllDurable_62 rfl (vp_nar_int _) rfl (by rw [← hf, show k - i = 0 from by omega]; rfl) rfl rfl
    · have hi : i < 40 := by omega
      refine qa_aload_n (pc1 := 24) dX3_makeAllDurable_23 rfl rfl rfl ?_
      refine qa_getP (pc1 := 27) dX3_makeAllDurable_24 rfl wf_X3_27 rfl (ko_hm _ (by assumption)) (by omega) (kp_rcs hps (by assumption)) ?_
      refine qa_iload_n (pc1 := 28) dX3_makeAllDurable_27 rfl rfl rfl ?_
      refine qa_aald (pc1 := 29) dX3_makeAllDurable_28 rfl (ka_rcs _ (by assumption)) rfl (by omega) (by omega) (kp_rc hps (by assumption) (by assumption)) ?_
      refine qc_getI (pc1 := 32) dX3_makeAllDurable_29 rfl wf_X3_133 rfl (ko_rc _ (by assumption) _ (by assumption)) (by omega) (by omega) ?_
      refine qa_iconst (pc1 := 33) dX3_makeAllDurable_32 (v := (-1)) kc_im1 rfl ?_
      refine qa_ic_eq (tgt := 47) (pc1 := 36) dX3_makeAllDurable_33 rfl rfl (fun h33 => ?_) (fun h33 => ?_)
      · refine qa_iincN (pc1 := 50) dX3_makeAllDurable_47 rfl (by decide) rfl ?_
        refine qa_goto (tgt := 15) dX3_makeAllDurable_50 rfl ?_
        first
        | exact qa_ls (by exact (kw_lsc rfl (kw_lsc rfl (kw_lsc rfl (kw_lsc rfl kw_lsn))))) (ih (by omega) (by omega) (by omega) _ (xc_sao_ok hps hk) (by rw [xc_sao_o hps (by omega) (by omega)]; exact hc1) (by rw [← hf, show k - i = (k - (i + 1)) + 1 from by omega, xc_md, if_neg h33]))
        | exact qa_ls (by exact (kw_lsc rfl (kw_lsc rfl (kw_lsc rfl (kw_lsc rfl kw_lsn))))) (ih (by omega) (by omega) (by omega) _ hk hc1 (by rw [← hf, show k - i = (k - (i + 1)) + 1 from by omega, xc_md, if_pos h33]))
      · refine qa_aload_n (pc1 := 37) dX3_makeAllDurable_36 rfl rfl rfl ?_
        refine qa_aload_n (pc1 := 38) dX3_makeAllDurable_37 rfl rfl rfl ?_
        refine qa_getP (pc1 := 41) dX3_makeAllDurable_38 rfl wf_X3_27 rfl (ko_hm _ (by assumption)) (by omega) (kp_rcs hps (by assumption)) ?_
        refine qa_iload_n (pc1 := 42) dX3_makeAllDurable_41 rfl rfl rfl ?_
        refine qa_aald (pc1 := 43) dX3_makeAllDurable_42 rfl (ka_rcs _ (by assumption)) rfl (by omega) (by omega) (kp_rc hps (by assumption) (by assumption)) ?_
        refine qa_aload_n (pc1 := 44) dX3_makeAllDurable_43 rfl rfl rfl ?_
        refine qa_callVv (pc1 := 47) dX3_makeAllDurable_44 rfl (ct_sao hps (by assumption) (by assumption) (by assumption)) wc_X3_93 wy_X3_sendAnswerOf rfl rfl (ci := k_hm) rfl (ko_hm _ (by assumption)) (by omega) rfl ?_
        refine qa_iincN (pc1 := 50) dX3_makeAllDurable_47 rfl (by decide) rfl ?_
        refine qa_goto (tgt := 15) dX3_makeAllDurable_50 rfl ?_
        first
        | exact qa_ls (by exact (kw_lsc rfl (kw_lsc rfl (kw_lsc rfl (kw_lsc rfl kw_lsn))))) (ih (by omega) (by omega) (by omega) _ (xc_sao_ok hps hk) (by rw [xc_sao_o hps (by omega) (by omega)]; exact hc1) (by rw [← hf, show k - i = (k - (i + 1)) + 1 from by omega, xc_md, if_neg h33]))
        | exact qa_ls (by exact (kw_lsc rfl (kw_lsc rfl (kw_lsc rfl (kw_lsc rfl kw_lsn))))) (ih (by omega) (by omega) (by omega) _ hk hc1 (by rw [← hf, show k - i = (k - (i + 1)) + 1 from by omega, xc_md, if_pos h33]))
  refine qa_aload_n (pc1 := 1) dX3_makeAllDurable_0 rfl rfl rfl ?_
  refine qc_getI (pc1 := 4) dX3_makeAllDurable_1 rfl wf_X3_62 rfl (ko_hm _ (by assumption)) (by omega) (by omega) ?_
  refine qa_top hc ?_
  refine qa_aload_n (pc1 := 5) dX3_makeAllDurable_4 rfl rfl rfl ?_
  refine qc_getI (pc1 := 8) dX3_makeAllDurable_5 rfl wf_X3_90 rfl (ko_hm _ (by assumption)) (by omega) (by omega) ?_
  refine qa_top hu ?_
  refine qn_isub (pc1 := 9) dX3_makeAllDurable_8 rfl (by omega) ?_
  refine qa_istore_n (pc1 := 10) dX3_makeAllDurable_9 rfl (by decide) rfl ?_
  refine qa_aload_n (pc1 := 11) dX3_makeAllDurable_10 rfl rfl rfl ?_
  refine qc_getI (pc1 := 14) dX3_makeAllDurable_11 rfl wf_X3_90 rfl (ko_hm _ (by assumption)) (by omega) (by omega) ?_
  refine qa_top hu ?_
  refine qa_istore_n (pc1 := 15) dX3_makeAllDurable_14 rfl (by decide) rfl ?_
  exact qa_ls (by exact (kw_lsc rfl (kw_lsc rfl (kw_lsc rfl (kw_lsc rfl kw_lsn))))) (loop u (Nat.le_refl _) huk _ hk0 hc rfl)
theorem xc_sfg_o {h f i n : Nat} {C : ax_I} (h2 : ¬ n = 84 + 48 * h) : xc_sfg h i f C n = C n := by
  induction f generalizing i C with
  | zero => rfl
  | succ f ih =>
    unfold xc_sfg
    rw [ih]
    funext j
    simp [ax_u, h2]
theorem xc_sf_o {C : ax_I} {h n : Nat} (h1 : ¬ n = 83 + 48 * h) (h2 : ¬ n = 84 + 48 * h) : xc_sf C h n = C n := by
  funext j
  simp [xc_sf, ax_u, h1, xc_sfg_o h2]
set_option maxRecDepth 20000 in
set_option maxHeartbeats 4000000 in
theorem ct_hforget (hps : kw_ps P) {h u : Nat} (hh : h < 2) (hu40 : u ≤ 40) (hu : C (80 + 48 * h) 6 = nI u) (hok : ∀ i, i < u → xc_rok C (88 + 48 * h + i)) : kw_C l D aC b yX3_forgetWhatIsNotDurable cX3_forgetWhatIsNotDurable 2 none 4 [.inr (.inl (80 + 48 * h))] C M P none (xc_rp h 0 u (xc_sf (ax_u C (80 + 48 * h) 5 (nI u)) h)) M P := by
  refine ax_body (own := RX3) (ini := false) (by decide) rfl (fun h => by cases h) (Nat.le_of_ble_eq_true rfl) ?_
  have loop : ∀ i, i ≤ u → ∀ C1 : ax_I, C1 (80 + 48 * h) 5 = nI u → (∀ r, r < 40 → C1 (88 + 48 * h + r) = C (88 + 48 * h + r)) → xc_rp h i (u - i) C1 = xc_rp h 0 u (xc_sf (ax_u C (80 + 48 * h) 5 (nI u)) h) → ax_G l D aC b RX3 cX3_forgetWhatIsNotDurable 2 none false (kw_rm 4) 191 (ax_F D aC b 191 0 0 (kw_R none kw_K kw_L (kw_gl (xc_rp h 0 u (xc_sf (ax_u C (80 + 48 * h) 5 (nI u)) h)) M) P)) (fun _ => True) 17 [(1, .inl (nI i)), (0, .inr (.inl (80 + 48 * h)))] [] 0 0 kw_K kw_L (kw_gl C1 M) P := by
    refine kw_loop u (fun i ih hiu C1 hc1 hrow hf => ?_)
    refine qa_iload_n (pc1 := 18) dX3_forgetWhatIsNotDurable_17 rfl rfl rfl ?_
    refine qa_aload_n (pc1 := 19) dX3_forgetWhatIsNotDurable_18 rfl rfl rfl ?_
    refine qc_getI (pc1 := 22) dX3_forgetWhatIsNotDurable_19 rfl wf_X3_62 rfl (ko_hm _ (by assumption)) (by omega) (by omega) ?_
    refine qa_top hc1 ?_
    refine qn_ic_ge (tgt := 41) (pc1 := 25) dX3_forgetWhatIsNotDurable_22 rfl rfl (by omega) (by omega) (fun h22 => ?_) (fun h22 => ?_)
    · exact qa_vret dX3_forgetWhatIsNotDurable_41 rfl rfl (by rw [← hf, show u - i = 0 from by omega]; rfl) rfl rfl
    · have hi : i < 40 := by omega
      have hok1 : xc_rok C1 (88 + 48 * h + i) := by have := hok i (by omega); unfold xc_rok at this ⊢; rw [hrow i hi]; exact this
      refine qa_aload_n (pc1 := 26) dX3_forgetWhatIsNotDurable_25 rfl rfl rfl ?_
      refine qa_aload_n (pc1 := 27) dX3_forgetWhatIsNotDurable_26 rfl rfl rfl ?_
      refine qa_getP (pc1 := 30) dX3_forgetWhatIsNotDurable_27 rfl wf_X3_27 rfl (ko_hm _ (by assumption)) (by omega) (kp_rcs hps (by assumption)) ?_
      refine qa_iload_n (pc1 := 31) dX3_forgetWhatIsNotDurable_30 rfl rfl rfl ?_
      refine qa_aald (pc1 := 32) dX3_forgetWhatIsNotDurable_31 rfl (ka_rcs _ (by assumption)) rfl (by omega) (by omega) (kp_rc hps (by assumption) (by assumption)) ?_
      refine qa_callVv (pc1 := 35) dX3_forgetWhatIsNotDurable_32 rfl (ct_carry hps (by assumption) (by assumption) (by assumption)) wc_X3_122 wy_X3_carryOut rfl rfl (ci := k_hm) rfl (ko_hm _ (by assumption)) (by omega) rfl ?_
      refine qa_iincN (pc1 := 38) dX3_forgetWhatIsNotDurable_35 rfl (by decide) rfl ?_
      refine qa_goto (tgt := 17) dX3_forgetWhatIsNotDurable_38 rfl ?_
      exact qa_ls (by exact (kw_lsc rfl (kw_lsc rfl kw_lsn))) (ih (by omega) (by omega) _ (by rw [xc_carry_o (by omega) (by omega) (by omega) (by omega)]; exact hc1) (fun r hr => by rw [xc_carry_o (by omega) (by omega) (by omega) (by omega)]; exact hrow r hr) (by rw [← hf, show u - i = (u - (i + 1)) + 1 from by omega]; rfl))
  refine qa_aload_n (pc1 := 1) dX3_forgetWhatIsNotDurable_0 rfl rfl rfl ?_
  refine qa_aload_n (pc1 := 2) dX3_forgetWhatIsNotDurable_1 rfl rfl rfl ?_
  refine qc_getI (pc1 := 5) dX3_forgetWhatIsNotDurable_2 rfl wf_X3_90 rfl (ko_hm _ (by assumption)) (by omega) (by omega) ?_
  refine qa_top hu ?_
  refine qc_putI (pc1 := 8) dX3_forgetWhatIsNotDurable_5 rfl wp_X3_62 rfl rfl rfl (ko_hm _ (by assumption)) (by omega) (by omega) ?_
  refine qa_aload_n (pc1 := 9) dX3_forgetWhatIsNotDurable_8 rfl rfl rfl ?_
  refine qa_getP (pc1 := 12) dX3_forgetWhatIsNotDurable_9 rfl wf_X3_21 rfl (ko_hm _ (by assumption)) (by omega) (kp_se hps (by assumption)) ?_
  refine qa_callVv (pc1 := 15) dX3_forgetWhatIsNotDurable_12 rfl (ct_sforget hps (by assumption)) wc_X3_153 wy_X9_forgetAll rfl rfl (ci := k_se) rfl (ko_se _ (by assumption)) (by omega) rfl ?_
  refine qa_iconst (pc1 := 16) dX3_forgetWhatIsNotDurable_15 (v := (nI 0)) kc_i0N rfl ?_
  refine qa_istore_n (pc1 := 17) dX3_forgetWhatIsNotDurable_16 rfl (by decide) rfl ?_
  exact qa_ls (by exact (kw_lsc rfl (kw_lsc rfl kw_lsn))) (loop 0 (Nat.zero_le _) _ (by rw [xc_sf_o (by omega) (by omega)]; exact ax_u_at) (fun r hr => by rw [xc_sf_o (by omega) (by omega)]; funext j; simp [ax_u, show ¬ 88 + 48 * h + r = 80 + 48 * h from by omega]) rfl)
set_option maxRecDepth 20000 in
set_option maxHeartbeats 4000000 in
theorem ct_htell (hps : kw_ps P) {h : Nat} (hh : h < 2) (w : Int32) : kw_C l D aC b yX3_tell cX3_tell 2 (some .int) 1 [.inr (.inl (80 + 48 * h)), .inl w] C M P (some (.inl (xc_htell C h w))) C M P := by
  refine ax_body (own := RX3) (ini := false) (by decide) rfl (fun h => by cases h) (Nat.le_of_ble_eq_true rfl) ?_
  refine qa_iload_n (pc1 := 1) dX3_tell_0 rfl rfl rfl ?_
  rcases kw_case3 w with rfl | rfl | rfl | hw
  · refine qa_tableIn (tgt := 28) dX3_tell_1 (by decide) (by decide) rfl rfl ?_
    refine qa_aload_n (pc1 := 29) dX3_tell_28 rfl rfl rfl ?_
    refine qc_getI (pc1 := 32) dX3_tell_29 rfl wf_X3_62 rfl (ko_hm _ (by assumption)) (by omega) (by omega) ?_
    exact qa_iret dX3_tell_32 rfl (vp_nar_int _) (by simp only [xc_htell]; grind) rfl rfl rfl
  · refine qa_tableIn (tgt := 33) dX3_tell_1 (by decide) (by decide) rfl rfl ?_
    refine qa_aload_n (pc1 := 34) dX3_tell_33 rfl rfl rfl ?_
    refine qc_getI (pc1 := 37) dX3_tell_34 rfl wf_X3_90 rfl (ko_hm _ (by assumption)) (by omega) (by omega) ?_
    exact qa_iret dX3_tell_37 rfl (vp_nar_int _) (by simp only [xc_htell]; grind) rfl rfl rfl
  · refine qa_tableIn (tgt := 38) dX3_tell_1 (by decide) (by decide) rfl rfl ?_
    refine qa_aload_n (pc1 := 39) dX3_tell_38 rfl rfl rfl ?_
    refine qa_getP (pc1 := 42) dX3_tell_39 rfl wf_X3_21 rfl (ko_hm _ (by assumption)) (by omega) (kp_se hps (by assumption)) ?_
    refine qc_getI (pc1 := 45) dX3_tell_42 rfl wf_X3_156 rfl (ko_se _ (by assumption)) (by omega) (by omega) ?_
    exact qa_iret dX3_tell_45 rfl (vp_nar_int _) (by simp only [xc_htell]; grind) rfl rfl rfl
  · refine qa_tableOut (tgt := 46) dX3_tell_1 rfl hw.2.2.2 ?_
    refine qa_iconst (pc1 := 47) dX3_tell_46 (v := (-1)) kc_im1 rfl ?_
    exact qa_iret dX3_tell_47 rfl (vp_nar_int _) (by simp only [xc_htell]; grind) rfl rfl rfl
end HO
