
/-- promise 'mix' -/
def xa_mix (x y : Int32) : Int32 := ((31 * x + y + 5) ^^^ ((31 * x + y + 5).toUInt32 >>> ((13 : Int32).toUInt32 &&& Int32.toUInt32 31)).toInt32) * 40503
def xa_seal (k kind id x a b : Int32) : Int32 := xa_mix (xa_mix (xa_mix (xa_mix (xa_mix k kind) id) x) a) b
def xc_lo (s o : Int32) : Int32 := if o < s then o else s
def xc_link (s o : Int32) : Int32 := if xc_lo s o = 2 then (if s < o then o else s) - 1 else xc_lo s o
def xc_key (C : ax_I) (s o : Int32) : Int32 := if xc_link s o < 0 then 0 else if xc_link s o < 4 then (if s = xc_lo s o then C 3 (xc_link s o).toNatClampNeg else C 4 (xc_link s o).toNatClampNeg) else 0
abbrev xc_right (C : ax_I) (d : Nat) (x : Int32) : Prop := C (d + 1) 5 = xa_seal (xc_key C (C (d + 1) 7) (C (d + 1) 6)) (C (d + 1) 0) (C (d + 1) 1) x (C (d + 1) 3) (C (d + 1) 4)
/-- a datagram is put behind the n that are there -/
def xc_send (C : ax_I) (P : ax_P) (n : Nat) (s r kind id x a b : Int32) : ax_I :=
  ax_u (ax_u (ax_u (ax_u (ax_u (ax_u (ax_u (ax_u (ax_u C 2 3 (nI (n + 1))) (P 5 n + 1) 0 kind) (P 5 n + 1) 1 id) (P 5 n + 1) 2 (if kind = 0 ∨ kind = 3 then x else 0)) (P 5 n + 1) 3 a) (P 5 n + 1) 4 b) (P 5 n + 1) 5 (xa_seal (xc_key C s r) kind id x a b)) (P 5 n + 1) 6 s) (P 5 n + 1) 7 r
abbrev xc_n (C : ax_I) : Nat := (C 2 3).toNatClampNeg
abbrev xc_nok (C : ax_I) : Prop := C 2 3 = nI (xc_n C) ∧ xc_n C ≤ 24
/-- a datagram is sent: nothing happens where the flight is full -/
def xc_snd (C : ax_I) (P : ax_P) (s r kind id x a b : Int32) : ax_I := if xc_n C < 24 then xc_send C P (xc_n C) s r kind id x a b else C
/-- the first i from i on, among f, with c -/
def kw_first (c : Nat → Bool) (i : Nat) (f : Nat) : Option Nat := match f with
  | 0 => none
  | g + 1 => if c i = true then some i else kw_first c (i + 1) g
/-- the last below j with c -/
def kw_last (c : Nat → Bool) (j : Nat) : Option Nat := match j with
  | 0 => none
  | i + 1 => if c i = true then some i else kw_last c i
def xc_nm (base : Nat) (o : Option Nat) : Nat := match o with
  | none => 0
  | some i => base + i
def xc_io (o : Option Nat) : Int32 := match o with
  | none => -1
  | some i => nI i
theorem kw_first_t {c : Nat → Bool} {i N : Nat} (hi : i < N) (hc : c i = true) : kw_first c i (N - i) = some i := by
  obtain ⟨g, hg⟩ : ∃ g, N - i = g + 1 := ⟨N - i - 1, by omega⟩
  rw [hg]; simp [kw_first, hc]
theorem kw_first_f {c : Nat → Bool} {i N : Nat} (hi : i < N) (hc : ¬ c i = true) : kw_first c i (N - i) = kw_first c (i + 1) (N - (i + 1)) := by
  obtain ⟨g, hg⟩ : ∃ g, N - i = g + 1 := ⟨N - i - 1, by omega⟩
  rw [hg, show N - (i + 1) = g from by omega]; simp [kw_first, hc]
theorem kw_first_e {c : Nat → Bool} {i N : Nat} (hi : N ≤ i) : kw_first c i (N - i) = none := by
  rw [show N - i = 0 from by omega]; rfl
theorem kw_first_some {c : Nat → Bool} {f i j : Nat} (h : kw_first c i f = some j) : i ≤ j ∧ j < i + f ∧ c j = true ∧ ∀ k, i ≤ k → k < j → ¬ c k = true := by
  induction f generalizing i with
  | zero => cases h
  | succ f ih =>
    unfold kw_first at h
    by_cases hc : c i = true
    · rw [if_pos hc] at h
      cases h
      exact ⟨Nat.le_refl _, by omega, hc, fun k h1 h2 => by omega⟩
    · rw [if_neg hc] at h
      obtain ⟨h1, h2, h3, h4⟩ := ih h
      refine ⟨by omega, by omega, h3, fun k h5 h6 => ?_⟩
      by_cases e : k = i
      · rw [e]; exact hc
      · exact h4 k (by omega) h6
theorem kw_first_none {c : Nat → Bool} {f i : Nat} (h : kw_first c i f = none) : ∀ k, i ≤ k → k < i + f → ¬ c k = true := by
  induction f generalizing i with
  | zero => intro k h1 h2; omega
  | succ f ih =>
    unfold kw_first at h
    by_cases hc : c i = true
    · rw [if_pos hc] at h; cases h
    · rw [if_neg hc] at h
      intro k h1 h2
      by_cases e : k = i
      · rw [e]; exact hc
      · exact ih h k (by omega) (by omega)
/-- the flight while one is taken out: the places kk .. i - 1 have moved up -/
def xc_ti (P : ax_P) (kk i : Nat) : ax_P := fun a j => if a = 2 ∧ j = 5 then P 5 kk else if a = 5 ∧ kk ≤ j ∧ j < i then P 5 (j + 1) else P a j
def xc_take (P : ax_P) (kk n : Nat) : ax_P := fun a j => if a = 5 ∧ j = n - 1 then P 2 5 else xc_ti P kk (n - 1) a j
/-- place kk is put once more behind the n that are there -/
def xc_copy (C : ax_I) (P : ax_P) (kk n : Nat) : ax_I := ax_u (fun a j => if a = P 5 n + 1 ∧ j < 8 then C (P 5 kk + 1) j else C a j) 2 3 (nI (n + 1))
theorem kw_loop {Q : Nat → Prop} (N : Nat) (h : ∀ i, (i < N → Q (i + 1)) → Q i) : ∀ i, Q i := by
  have h2 : ∀ d i, N ≤ i + d → Q i := by
    intro d
    induction d with
    | zero => intro i hi; exact h i (fun h3 => absurd h3 (by omega))
    | succ d ih => intro i hi; exact h i (fun _ => ih (i + 1) (by omega))
  exact fun i => h2 N i (by omega)
theorem kw_loopB {Q : Nat → Prop} (N : Nat) (h : ∀ i, i ≤ N → (i < N → Q (i + 1)) → Q i) : ∀ i, i ≤ N → Q i := by
  have h2 := kw_loop (Q := fun i => i ≤ N → Q i) N (fun i ih hi => h i hi (fun h3 => ih h3 (by omega)))
  exact h2
theorem kw_inx {i B : Int32} {L : Nat} (hB : B.toInt = L) (h1 : ¬ i < 0) (h2 : i < B) : vp_in i L := by
  rw [vp_in_iff]
  rw [Int32.lt_iff_toInt_lt] at h1 h2
  rw [hB] at h2
  have h3 : (0 : Int32).toInt = 0 := rfl
  omega
theorem kw_iny {i B : Int32} {L : Nat} (hB : B.toInt = L) (h1 : ¬ i < 0) (h2 : ¬ B ≤ i) : vp_in i L := by
  rw [vp_in_iff]
  rw [Int32.lt_iff_toInt_lt] at h1
  rw [Int32.le_iff_toInt_le] at h2
  rw [hB] at h2
  have h3 : (0 : Int32).toInt = 0 := rfl
  omega
theorem kw_inz {i B : Int32} {L : Nat} (hB : B.toInt + 1 = L) (h1 : ¬ i < 0) (h2 : i ≤ B) : vp_in i L := by
  rw [vp_in_iff]
  rw [Int32.lt_iff_toInt_lt] at h1
  rw [Int32.le_iff_toInt_le] at h2
  have h3 : (0 : Int32).toInt = 0 := rfl
  omega
theorem kw_24 {n : Nat} (h : n < 24) : nI n < 24 := nI_lt (b := 24) h (by decide)
theorem kw_40 {n : Nat} (h : n < 40) : nI n < 40 := nI_lt (b := 40) h (by decide)

section NET
variable {l : Launch} {D : va_G} {aC : Nat → ClassId} {b : Nat} {C M : ax_I} {P : ax_P}
set_option maxRecDepth 20000 in
set_option maxHeartbeats 4000000 in
theorem ct_mix (x y : Int32) : kw_C l D aC b yX0_mix cX0_mix 4 (some .int) 1 [.inl x, .inl y] C M P (some (.inl (xa_mix x y))) C M P := by
  refine ax_body (own := RX0) (ini := false) (by decide) rfl (fun h => by cases h) (Nat.le_of_ble_eq_true rfl) ?_
  refine qa_bipush (pc1 := 2) dX0_mix_0 (v := 31) kc_b31 rfl ?_
  refine qa_iload_n (pc1 := 3) dX0_mix_2 rfl rfl rfl ?_
  refine qa_imul (pc1 := 4) dX0_mix_3 rfl ?_
  refine qa_iload_n (pc1 := 5) dX0_mix_4 rfl rfl rfl ?_
  refine qa_iadd (pc1 := 6) dX0_mix_5 rfl ?_
  refine qa_iconst (pc1 := 7) dX0_mix_6 (v := 5) kc_i5 rfl ?_
  refine qa_iadd (pc1 := 8) dX0_mix_7 rfl ?_
  refine qa_istore_n (pc1 := 9) dX0_mix_8 rfl (by decide) rfl ?_
  refine qa_iload_n (pc1 := 10) dX0_mix_9 rfl rfl rfl ?_
  refine qa_iload_n (pc1 := 11) dX0_mix_10 rfl rfl rfl ?_
  refine qa_bipush (pc1 := 13) dX0_mix_11 (v := 13) kc_b13 rfl ?_
  refine qa_iushr (pc1 := 14) dX0_mix_13 rfl ?_
  refine qa_ixor (pc1 := 15) dX0_mix_14 rfl ?_
  refine qa_istore_n (pc1 := 16) dX0_mix_15 rfl (by decide) rfl ?_
  refine qa_iload_n (pc1 := 17) dX0_mix_16 rfl rfl rfl ?_
  refine qa_ldc (pc1 := 19) dX0_mix_17 (v := 40503) wl_X0_162 rfl ?_
  refine qa_imul (pc1 := 20) dX0_mix_19 rfl ?_
  exact qa_iret dX0_mix_20 rfl (vp_nar_int _) rfl rfl rfl rfl
set_option maxRecDepth 20000 in
set_option maxHeartbeats 4000000 in
theorem ct_isUser (x : Int32) : kw_C l D aC b yX0_isUser cX0_isUser 1 (some .boolean) 1 [.inl x] C M P (some (.inl (kw_b (¬ x < 0 ∧ ¬ 12 ≤ x)))) C M P := by
  refine ax_body (own := RX0) (ini := false) (by decide) rfl (fun h => by cases h) (Nat.le_of_ble_eq_true rfl) ?_
  refine qa_iload_n (pc1 := 1) dX0_isUser_0 rfl rfl rfl ?_
  refine qa_if_lt (tgt := 14) (pc1 := 4) dX0_isUser_1 rfl rfl (fun h1 => ?_) (fun h1 => ?_)
  · refine qa_iconst (pc1 := 15) dX0_isUser_14 (v := 0) kc_i0 rfl ?_
    exact qa_iret dX0_isUser_15 rfl (by first | rfl | exact kw_bn) (by simp only [kw_b]; grind) rfl rfl rfl
  · refine qa_iload_n (pc1 := 5) dX0_isUser_4 rfl rfl rfl ?_
    refine qa_bipush (pc1 := 7) dX0_isUser_5 (v := 12) kc_b12 rfl ?_
    refine qa_ic_ge (tgt := 14) (pc1 := 10) dX0_isUser_7 rfl rfl (fun h7 => ?_) (fun h7 => ?_)
    · refine qa_iconst (pc1 := 15) dX0_isUser_14 (v := 0) kc_i0 rfl ?_
      exact qa_iret dX0_isUser_15 rfl (by first | rfl | exact kw_bn) (by simp only [kw_b]; grind) rfl rfl rfl
    · refine qa_iconst (pc1 := 11) dX0_isUser_10 (v := 1) kc_i1 rfl ?_
      refine qa_goto (tgt := 15) dX0_isUser_11 rfl ?_
      exact qa_iret dX0_isUser_15 rfl (by first | rfl | exact kw_bn) (by simp only [kw_b]; grind) rfl rfl rfl
set_option maxRecDepth 20000 in
set_option maxHeartbeats 4000000 in
theorem ct_homeOf (x : Int32) : kw_C l D aC b yX0_homeOf cX0_homeOf 1 (some .int) 1 [.inl x] C M P (some (.inl (3 + (x &&& 1)))) C M P := by
  refine ax_body (own := RX0) (ini := false) (by decide) rfl (fun h => by cases h) (Nat.le_of_ble_eq_true rfl) ?_
  refine qa_iconst (pc1 := 1) dX0_homeOf_0 (v := 3) kc_i3 rfl ?_
  refine qa_iload_n (pc1 := 2) dX0_homeOf_1 rfl rfl rfl ?_
  refine qa_iconst (pc1 := 3) dX0_homeOf_2 (v := 1) kc_i1 rfl ?_
  refine qa_iand (pc1 := 4) dX0_homeOf_3 rfl ?_
  refine qa_iadd (pc1 := 5) dX0_homeOf_4 rfl ?_
  exact qa_iret dX0_homeOf_5 rfl (vp_nar_int _) rfl rfl rfl rfl
set_option maxRecDepth 20000 in
set_option maxHeartbeats 4000000 in
theorem ct_isRequest (x : Int32) : kw_C l D aC b yX0_isRequest cX0_isRequest 1 (some .boolean) 1 [.inl x] C M P (some (.inl (kw_b (x = 0 ∨ x = 3)))) C M P := by
  refine ax_body (own := RX0) (ini := false) (by decide) rfl (fun h => by cases h) (Nat.le_of_ble_eq_true rfl) ?_
  refine qa_iload_n (pc1 := 1) dX0_isRequest_0 rfl rfl rfl ?_
  refine qa_if_eq (tgt := 9) (pc1 := 4) dX0_isRequest_1 rfl rfl (fun h1 => ?_) (fun h1 => ?_)
  · refine qa_iconst (pc1 := 10) dX0_isRequest_9 (v := 1) kc_i1 rfl ?_
    refine qa_goto (tgt := 14) dX0_isRequest_10 rfl ?_
    exact qa_iret dX0_isRequest_14 rfl (by first | rfl | exact kw_bn) (by simp only [kw_b]; grind) rfl rfl rfl
  · refine qa_iload_n (pc1 := 5) dX0_isRequest_4 rfl rfl rfl ?_
    refine qa_iconst (pc1 := 6) dX0_isRequest_5 (v := 3) kc_i3 rfl ?_
    refine qa_ic_ne (tgt := 13) (pc1 := 9) dX0_isRequest_6 rfl rfl (fun h6 => ?_) (fun h6 => ?_)
    · refine qa_iconst (pc1 := 14) dX0_isRequest_13 (v := 0) kc_i0 rfl ?_
      exact qa_iret dX0_isRequest_14 rfl (by first | rfl | exact kw_bn) (by simp only [kw_b]; grind) rfl rfl rfl
    · refine qa_iconst (pc1 := 10) dX0_isRequest_9 (v := 1) kc_i1 rfl ?_
      refine qa_goto (tgt := 14) dX0_isRequest_10 rfl ?_
      exact qa_iret dX0_isRequest_14 rfl (by first | rfl | exact kw_bn) (by simp only [kw_b]; grind) rfl rfl rfl
set_option maxRecDepth 20000 in
set_option maxHeartbeats 4000000 in
theorem ct_isAnswer (x : Int32) : kw_C l D aC b yX0_isAnswer cX0_isAnswer 1 (some .boolean) 1 [.inl x] C M P (some (.inl (kw_b (x = 1 ∨ x = 2 ∨ x = 4)))) C M P := by
  refine ax_body (own := RX0) (ini := false) (by decide) rfl (fun h => by cases h) (Nat.le_of_ble_eq_true rfl) ?_
  refine qa_iload_n (pc1 := 1) dX0_isAnswer_0 rfl rfl rfl ?_
  refine qa_iconst (pc1 := 2) dX0_isAnswer_1 (v := 1) kc_i1 rfl ?_
  refine qa_ic_eq (tgt := 15) (pc1 := 5) dX0_isAnswer_2 rfl rfl (fun h2 => ?_) (fun h2 => ?_)
  · refine qa_iconst (pc1 := 16) dX0_isAnswer_15 (v := 1) kc_i1 rfl ?_
    refine qa_goto (tgt := 20) dX0_isAnswer_16 rfl ?_
    exact qa_iret dX0_isAnswer_20 rfl (by first | rfl | exact kw_bn) (by simp only [kw_b]; grind) rfl rfl rfl
  · refine qa_iload_n (pc1 := 6) dX0_isAnswer_5 rfl rfl rfl ?_
    refine qa_iconst (pc1 := 7) dX0_isAnswer_6 (v := 2) kc_i2 rfl ?_
    refine qa_ic_eq (tgt := 15) (pc1 := 10) dX0_isAnswer_7 rfl rfl (fun h7 => ?_) (fun h7 => ?_)
    · refine qa_iconst (pc1 := 16) dX0_isAnswer_15 (v := 1) kc_i1 rfl ?_
      refine qa_goto (tgt := 20) dX0_isAnswer_16 rfl ?_
      exact qa_iret dX0_isAnswer_20 rfl (by first | rfl | exact kw_bn) (by simp only [kw_b]; grind) rfl rfl rfl
    · refine qa_iload_n (pc1 := 11) dX0_isAnswer_10 rfl rfl rfl ?_
      refine qa_iconst (pc1 := 12) dX0_isAnswer_11 (v := 4) kc_i4 rfl ?_
      refine qa_ic_ne (tgt := 19) (pc1 := 15) dX0_isAnswer_12 rfl rfl (fun h12 => ?_) (fun h12 => ?_)
      · refine qa_iconst (pc1 := 20) dX0_isAnswer_19 (v := 0) kc_i0 rfl ?_
        exact qa_iret dX0_isAnswer_20 rfl (by first | rfl | exact kw_bn) (by simp only [kw_b]; grind) rfl rfl rfl
      · refine qa_iconst (pc1 := 16) dX0_isAnswer_15 (v := 1) kc_i1 rfl ?_
        refine qa_goto (tgt := 20) dX0_isAnswer_16 rfl ?_
        exact qa_iret dX0_isAnswer_20 rfl (by first | rfl | exact kw_bn) (by simp only [kw_b]; grind) rfl rfl rfl
set_option maxRecDepth 20000 in
set_option maxHeartbeats 4000000 in
theorem ct_sealFor (hps : kw_ps P) {d : Nat} (hdg : kw_dg d) (k x : Int32) : kw_C l D aC b yX1_sealFor cX1_sealFor 4 (some .int) 2 [.inr (.inl d), .inl k, .inl x] C M P (some (.inl (xa_seal k (C (d + 1) 0) (C (d + 1) 1) x (C (d + 1) 3) (C (d + 1) 4)))) C M P := by
  refine ax_body (own := RX1) (ini := false) (by decide) rfl (fun h => by cases h) (Nat.le_of_ble_eq_true rfl) ?_
  have hq1 := hdg.2.2
  have hq0 := hdg.2.1
  refine qa_iload_n (pc1 := 1) dX1_sealFor_0 rfl rfl rfl ?_
  refine qa_aload_n (pc1 := 2) dX1_sealFor_1 rfl rfl rfl ?_
  refine qa_getP (pc1 := 5) dX1_sealFor_2 rfl wf_X1_9 rfl (ko_dg _ (by assumption)) (by omega) (kp_pa hps (by assumption)) ?_
  refine qa_iconst (pc1 := 6) dX1_sealFor_5 (v := (nI 0)) kc_i0N rfl ?_
  refine qc_iald (pc1 := 7) dX1_sealFor_6 rfl (ka_pa _ (by assumption)) rfl (by omega) (by omega) (by decide) ?_
  refine qa_callTi (pc1 := 10) dX1_sealFor_7 rfl (ct_mix _ _) wc_X1_13 wy_X0_mix rfl rfl rfl ?_
  refine qa_istore_n (pc1 := 11) dX1_sealFor_10 rfl (by decide) rfl ?_
  refine qa_iload_n (pc1 := 12) dX1_sealFor_11 rfl rfl rfl ?_
  refine qa_aload_n (pc1 := 13) dX1_sealFor_12 rfl rfl rfl ?_
  refine qa_getP (pc1 := 16) dX1_sealFor_13 rfl wf_X1_9 rfl (ko_dg _ (by assumption)) (by omega) (kp_pa hps (by assumption)) ?_
  refine qa_iconst (pc1 := 17) dX1_sealFor_16 (v := (nI 1)) kc_i1N rfl ?_
  refine qc_iald (pc1 := 18) dX1_sealFor_17 rfl (ka_pa _ (by assumption)) rfl (by omega) (by omega) (by decide) ?_
  refine qa_callTi (pc1 := 21) dX1_sealFor_18 rfl (ct_mix _ _) wc_X1_13 wy_X0_mix rfl rfl rfl ?_
  refine qa_istore_n (pc1 := 22) dX1_sealFor_21 rfl (by decide) rfl ?_
  refine qa_iload_n (pc1 := 23) dX1_sealFor_22 rfl rfl rfl ?_
  refine qa_iload_n (pc1 := 24) dX1_sealFor_23 rfl rfl rfl ?_
  refine qa_callTi (pc1 := 27) dX1_sealFor_24 rfl (ct_mix _ _) wc_X1_13 wy_X0_mix rfl rfl rfl ?_
  refine qa_istore_n (pc1 := 28) dX1_sealFor_27 rfl (by decide) rfl ?_
  refine qa_iload_n (pc1 := 29) dX1_sealFor_28 rfl rfl rfl ?_
  refine qa_aload_n (pc1 := 30) dX1_sealFor_29 rfl rfl rfl ?_
  refine qa_getP (pc1 := 33) dX1_sealFor_30 rfl wf_X1_9 rfl (ko_dg _ (by assumption)) (by omega) (kp_pa hps (by assumption)) ?_
  refine qa_iconst (pc1 := 34) dX1_sealFor_33 (v := (nI 3)) kc_i3N rfl ?_
  refine qc_iald (pc1 := 35) dX1_sealFor_34 rfl (ka_pa _ (by assumption)) rfl (by omega) (by omega) (by decide) ?_
  refine qa_callTi (pc1 := 38) dX1_sealFor_35 rfl (ct_mix _ _) wc_X1_13 wy_X0_mix rfl rfl rfl ?_
  refine qa_istore_n (pc1 := 39) dX1_sealFor_38 rfl (by decide) rfl ?_
  refine qa_iload_n (pc1 := 40) dX1_sealFor_39 rfl rfl rfl ?_
  refine qa_aload_n (pc1 := 41) dX1_sealFor_40 rfl rfl rfl ?_
  refine qa_getP (pc1 := 44) dX1_sealFor_41 rfl wf_X1_9 rfl (ko_dg _ (by assumption)) (by omega) (kp_pa hps (by assumption)) ?_
  refine qa_iconst (pc1 := 45) dX1_sealFor_44 (v := (nI 4)) kc_i4N rfl ?_
  refine qc_iald (pc1 := 46) dX1_sealFor_45 rfl (ka_pa _ (by assumption)) rfl (by omega) (by omega) (by decide) ?_
  refine qa_callTi (pc1 := 49) dX1_sealFor_46 rfl (ct_mix _ _) wc_X1_13 wy_X0_mix rfl rfl rfl ?_
  exact qa_iret dX1_sealFor_49 rfl (vp_nar_int _) rfl rfl rfl rfl
set_option maxRecDepth 20000 in
set_option maxHeartbeats 4000000 in
theorem ct_keyAt (hps : kw_ps P) (s o : Int32) : kw_C l D aC b yX6_keyAt cX6_keyAt 5 (some .int) 2 [.inr (.inl 2), .inl s, .inl o] C M P (some (.inl (xc_key C s o))) C M P := by
  refine ax_body (own := RX6) (ini := false) (by decide) rfl (fun h => by cases h) (Nat.le_of_ble_eq_true rfl) ?_
  refine qa_iload_n (pc1 := 1) dX6_keyAt_0 rfl rfl rfl ?_
  refine qa_iload_n (pc1 := 2) dX6_keyAt_1 rfl rfl rfl ?_
  refine qa_mmin (pc1 := 5) dX6_keyAt_2 rfl wm_X6_29.1 wm_X6_29.2.1 wm_X6_29.2.2.1 wm_X6_29.2.2.2 (by decide) (by decide) (by decide) (by decide) ?_
  refine qa_istore_n (pc1 := 6) dX6_keyAt_5 rfl (by decide) rfl ?_
  refine qa_iload_n (pc1 := 7) dX6_keyAt_6 rfl rfl rfl ?_
  refine qa_iconst (pc1 := 8) dX6_keyAt_7 (v := 2) kc_i2 rfl ?_
  refine qa_ic_ne (tgt := 21) (pc1 := 11) dX6_keyAt_8 rfl rfl (fun h8 => ?_) (fun h8 => ?_)
  · refine qa_iload_n (pc1 := 22) dX6_keyAt_21 rfl rfl rfl ?_
    refine qa_istore (pc1 := 24) dX6_keyAt_22 (by decide) rfl ?_
    refine qa_iload (pc1 := 26) dX6_keyAt_24 rfl rfl ?_
    refine qa_if_lt (tgt := 35) (pc1 := 29) dX6_keyAt_26 rfl rfl (fun h26 => ?_) (fun h26 => ?_)
    · refine qa_iconst (pc1 := 36) dX6_keyAt_35 (v := 0) kc_i0 rfl ?_
      exact qa_iret dX6_keyAt_36 rfl (vp_nar_int _) (by simp only [xc_key, xc_link, xc_lo]; grind) rfl rfl rfl
    · refine qa_iload (pc1 := 31) dX6_keyAt_29 rfl rfl ?_
      refine qa_iconst (pc1 := 32) dX6_keyAt_31 (v := 4) kc_i4 rfl ?_
      refine qa_ic_lt (tgt := 37) (pc1 := 35) dX6_keyAt_32 rfl rfl (fun h32 => ?_) (fun h32 => ?_)
      · refine qa_iload_n (pc1 := 38) dX6_keyAt_37 rfl rfl rfl ?_
        refine qa_iload_n (pc1 := 39) dX6_keyAt_38 rfl rfl rfl ?_
        refine qa_ic_ne (tgt := 52) (pc1 := 42) dX6_keyAt_39 rfl rfl (fun h39 => ?_) (fun h39 => ?_)
        · refine qa_aload_n (pc1 := 53) dX6_keyAt_52 rfl rfl rfl ?_
          refine qa_getP (pc1 := 56) dX6_keyAt_53 rfl wf_X6_15 rfl ko_net (by omega) (kp_far hps) ?_
          refine qa_iload (pc1 := 58) dX6_keyAt_56 rfl rfl ?_
          refine qc_ialdx (pc1 := 59) dX6_keyAt_58 rfl ka_far rfl (by omega) (by omega) (kw_inx rfl h26 h32) ?_
          exact qa_iret dX6_keyAt_59 rfl (vp_nar_int _) (by simp only [xc_key, xc_link, xc_lo]; grind) rfl rfl rfl
        · refine qa_aload_n (pc1 := 43) dX6_keyAt_42 rfl rfl rfl ?_
          refine qa_getP (pc1 := 46) dX6_keyAt_43 rfl wf_X6_9 rfl ko_net (by omega) (kp_near hps) ?_
          refine qa_iload (pc1 := 48) dX6_keyAt_46 rfl rfl ?_
          refine qc_ialdx (pc1 := 49) dX6_keyAt_48 rfl ka_near rfl (by omega) (by omega) (kw_inx rfl h26 h32) ?_
          refine qa_goto (tgt := 59) dX6_keyAt_49 rfl ?_
          exact qa_iret dX6_keyAt_59 rfl (vp_nar_int _) (by simp only [xc_key, xc_link, xc_lo]; grind) rfl rfl rfl
      · refine qa_iconst (pc1 := 36) dX6_keyAt_35 (v := 0) kc_i0 rfl ?_
        exact qa_iret dX6_keyAt_36 rfl (vp_nar_int _) (by simp only [xc_key, xc_link, xc_lo]; grind) rfl rfl rfl
  · refine qa_iload_n (pc1 := 12) dX6_keyAt_11 rfl rfl rfl ?_
    refine qa_iload_n (pc1 := 13) dX6_keyAt_12 rfl rfl rfl ?_
    refine qa_mmax (pc1 := 16) dX6_keyAt_13 rfl wm_X6_35.1 wm_X6_35.2.1 wm_X6_35.2.2.1 wm_X6_35.2.2.2 (by decide) (by decide) (by decide) (by decide) ?_
    refine qa_iconst (pc1 := 17) dX6_keyAt_16 (v := 1) kc_i1 rfl ?_
    refine qa_isub (pc1 := 18) dX6_keyAt_17 rfl ?_
    refine qa_goto (tgt := 22) dX6_keyAt_18 rfl ?_
    refine qa_istore (pc1 := 24) dX6_keyAt_22 (by decide) rfl ?_
    refine qa_iload (pc1 := 26) dX6_keyAt_24 rfl rfl ?_
    refine qa_if_lt (tgt := 35) (pc1 := 29) dX6_keyAt_26 rfl rfl (fun h26 => ?_) (fun h26 => ?_)
    · refine qa_iconst (pc1 := 36) dX6_keyAt_35 (v := 0) kc_i0 rfl ?_
      exact qa_iret dX6_keyAt_36 rfl (vp_nar_int _) (by simp only [xc_key, xc_link, xc_lo]; grind) rfl rfl rfl
    · refine qa_iload (pc1 := 31) dX6_keyAt_29 rfl rfl ?_
      refine qa_iconst (pc1 := 32) dX6_keyAt_31 (v := 4) kc_i4 rfl ?_
      refine qa_ic_lt (tgt := 37) (pc1 := 35) dX6_keyAt_32 rfl rfl (fun h32 => ?_) (fun h32 => ?_)
      · refine qa_iload_n (pc1 := 38) dX6_keyAt_37 rfl rfl rfl ?_
        refine qa_iload_n (pc1 := 39) dX6_keyAt_38 rfl rfl rfl ?_
        refine qa_ic_ne (tgt := 52) (pc1 := 42) dX6_keyAt_39 rfl rfl (fun h39 => ?_) (fun h39 => ?_)
        · refine qa_aload_n (pc1 := 53) dX6_keyAt_52 rfl rfl rfl ?_
          refine qa_getP (pc1 := 56) dX6_keyAt_53 rfl wf_X6_15 rfl ko_net (by omega) (kp_far hps) ?_
          refine qa_iload (pc1 := 58) dX6_keyAt_56 rfl rfl ?_
          refine qc_ialdx (pc1 := 59) dX6_keyAt_58 rfl ka_far rfl (by omega) (by omega) (kw_inx rfl h26 h32) ?_
          exact qa_iret dX6_keyAt_59 rfl (vp_nar_int _) (by simp only [xc_key, xc_link, xc_lo]; grind) rfl rfl rfl
        · refine qa_aload_n (pc1 := 43) dX6_keyAt_42 rfl rfl rfl ?_
          refine qa_getP (pc1 := 46) dX6_keyAt_43 rfl wf_X6_9 rfl ko_net (by omega) (kp_near hps) ?_
          refine qa_iload (pc1 := 48) dX6_keyAt_46 rfl rfl ?_
          refine qc_ialdx (pc1 := 49) dX6_keyAt_48 rfl ka_near rfl (by omega) (by omega) (kw_inx rfl h26 h32) ?_
          refine qa_goto (tgt := 59) dX6_keyAt_49 rfl ?_
          exact qa_iret dX6_keyAt_59 rfl (vp_nar_int _) (by simp only [xc_key, xc_link, xc_lo]; grind) rfl rfl rfl
      · refine qa_iconst (pc1 := 36) dX6_keyAt_35 (v := 0) kc_i0 rfl ?_
        exact qa_iret dX6_keyAt_36 rfl (vp_nar_int _) (by simp only [xc_key, xc_link, xc_lo]; grind) rfl rfl rfl
set_option maxRecDepth 20000 in
set_option maxHeartbeats 4000000 in
theorem ct_isRight (hps : kw_ps P) {d : Nat} (hdg : kw_dg d) (x : Int32) : kw_C l D aC b yX6_isRight cX6_isRight 5 (some .boolean) 3 [.inr (.inl 2), .inr (.inl d), .inl x] C M P (some (.inl (kw_b (xc_right C d x)))) C M P := by
  refine ax_body (own := RX6) (ini := false) (by decide) rfl (fun h => by cases h) (Nat.le_of_ble_eq_true rfl) ?_
  have hq1 := hdg.2.2
  have hq0 := hdg.2.1
  refine qa_aload_n (pc1 := 1) dX6_isRight_0 rfl rfl rfl ?_
  refine qa_getP (pc1 := 4) dX6_isRight_1 rfl wf_X6_38 rfl (ko_dg _ (by assumption)) (by omega) (kp_pa hps (by assumption)) ?_
  refine qa_astore_n (pc1 := 5) dX6_isRight_4 rfl (by decide) rfl ?_
  refine qa_aload_n (pc1 := 6) dX6_isRight_5 rfl rfl rfl ?_
  refine qa_aload_n (pc1 := 7) dX6_isRight_6 rfl rfl rfl ?_
  refine qa_bipush (pc1 := 9) dX6_isRight_7 (v := (nI 7)) kc_b7N rfl ?_
  refine qc_iald (pc1 := 10) dX6_isRight_9 rfl (ka_pa _ (by assumption)) rfl (by omega) (by omega) (by decide) ?_
  refine qa_aload_n (pc1 := 11) dX6_isRight_10 rfl rfl rfl ?_
  refine qa_bipush (pc1 := 13) dX6_isRight_11 (v := (nI 6)) kc_b6N rfl ?_
  refine qc_iald (pc1 := 14) dX6_isRight_13 rfl (ka_pa _ (by assumption)) rfl (by omega) (by omega) (by decide) ?_
  refine qa_callVi (pc1 := 17) dX6_isRight_14 rfl (ct_keyAt hps _ _) wc_X6_41 wy_X6_keyAt rfl rfl (ci := k_net) rfl ko_net (by omega) rfl ?_
  refine qa_istore (pc1 := 19) dX6_isRight_17 (by decide) rfl ?_
  refine qa_aload_n (pc1 := 20) dX6_isRight_19 rfl rfl rfl ?_
  refine qa_iconst (pc1 := 21) dX6_isRight_20 (v := (nI 5)) kc_i5N rfl ?_
  refine qc_iald (pc1 := 22) dX6_isRight_21 rfl (ka_pa _ (by assumption)) rfl (by omega) (by omega) (by decide) ?_
  refine qa_aload_n (pc1 := 23) dX6_isRight_22 rfl rfl rfl ?_
  refine qa_iload (pc1 := 25) dX6_isRight_23 rfl rfl ?_
  refine qa_iload_n (pc1 := 26) dX6_isRight_25 rfl rfl rfl ?_
  refine qa_callVi (pc1 := 29) dX6_isRight_26 rfl (ct_sealFor hps (by assumption) _ _) wc_X6_44 wy_X1_sealFor rfl rfl (ci := k_dg) rfl (ko_dg _ (by assumption)) (by omega) rfl ?_
  refine qa_ic_ne (tgt := 36) (pc1 := 32) dX6_isRight_29 rfl rfl (fun h29 => ?_) (fun h29 => ?_)
  · refine qa_iconst (pc1 := 37) dX6_isRight_36 (v := 0) kc_i0 rfl ?_
    exact qa_iret dX6_isRight_37 rfl (by first | rfl | exact kw_bn) (by first | rw [kw_bt (by assumption)] | rw [kw_bf (by assumption)]) rfl rfl rfl
  · refine qa_iconst (pc1 := 33) dX6_isRight_32 (v := 1) kc_i1 rfl ?_
    refine qa_goto (tgt := 37) dX6_isRight_33 rfl ?_
    exact qa_iret dX6_isRight_37 rfl (by first | rfl | exact kw_bn) (by first | rw [kw_bt (by assumption)] | rw [kw_bf (by assumption)]) rfl rfl rfl
set_option maxRecDepth 20000 in
set_option maxHeartbeats 4000000 in
theorem ct_isFull  : kw_C l D aC b yX6_isFull cX6_isFull 1 (some .boolean) 1 [.inr (.inl 2)] C M P (some (.inl (kw_b (¬ C 2 3 < 24)))) C M P := by
  refine ax_body (own := RX6) (ini := false) (by decide) rfl (fun h => by cases h) (Nat.le_of_ble_eq_true rfl) ?_
  refine qa_aload_n (pc1 := 1) dX6_isFull_0 rfl rfl rfl ?_
  refine qc_getI (pc1 := 4) dX6_isFull_1 rfl wf_X6_51 rfl ko_net (by omega) (by omega) ?_
  refine qa_bipush (pc1 := 6) dX6_isFull_4 (v := 24) kc_b24 rfl ?_
  refine qa_ic_lt (tgt := 13) (pc1 := 9) dX6_isFull_6 rfl rfl (fun h6 => ?_) (fun h6 => ?_)
  · refine qa_iconst (pc1 := 14) dX6_isFull_13 (v := 0) kc_i0 rfl ?_
    exact qa_iret dX6_isFull_14 rfl (by first | rfl | exact kw_bn) (by simp only [kw_b]; grind) rfl rfl rfl
  · refine qa_iconst (pc1 := 10) dX6_isFull_9 (v := 1) kc_i1 rfl ?_
    refine qa_goto (tgt := 14) dX6_isFull_10 rfl ?_
    exact qa_iret dX6_isFull_14 rfl (by first | rfl | exact kw_bn) (by simp only [kw_b]; grind) rfl rfl rfl
set_option maxRecDepth 20000 in
set_option maxHeartbeats 4000000 in
theorem ct_isPlace (k : Int32) : kw_C l D aC b yX6_isPlace cX6_isPlace 2 (some .boolean) 1 [.inr (.inl 2), .inl k] C M P (some (.inl (kw_b (¬ k < 0 ∧ ¬ C 2 3 ≤ k)))) C M P := by
  refine ax_body (own := RX6) (ini := false) (by decide) rfl (fun h => by cases h) (Nat.le_of_ble_eq_true rfl) ?_
  refine qa_iload_n (pc1 := 1) dX6_isPlace_0 rfl rfl rfl ?_
  refine qa_if_lt (tgt := 16) (pc1 := 4) dX6_isPlace_1 rfl rfl (fun h1 => ?_) (fun h1 => ?_)
  · refine qa_iconst (pc1 := 17) dX6_isPlace_16 (v := 0) kc_i0 rfl ?_
    exact qa_iret dX6_isPlace_17 rfl (by first | rfl | exact kw_bn) (by simp only [kw_b]; grind) rfl rfl rfl
  · refine qa_iload_n (pc1 := 5) dX6_isPlace_4 rfl rfl rfl ?_
    refine qa_aload_n (pc1 := 6) dX6_isPlace_5 rfl rfl rfl ?_
    refine qc_getI (pc1 := 9) dX6_isPlace_6 rfl wf_X6_51 rfl ko_net (by omega) (by omega) ?_
    refine qa_ic_ge (tgt := 16) (pc1 := 12) dX6_isPlace_9 rfl rfl (fun h9 => ?_) (fun h9 => ?_)
    · refine qa_iconst (pc1 := 17) dX6_isPlace_16 (v := 0) kc_i0 rfl ?_
      exact qa_iret dX6_isPlace_17 rfl (by first | rfl | exact kw_bn) (by simp only [kw_b]; grind) rfl rfl rfl
    · refine qa_iconst (pc1 := 13) dX6_isPlace_12 (v := 1) kc_i1 rfl ?_
      refine qa_goto (tgt := 17) dX6_isPlace_13 rfl ?_
      exact qa_iret dX6_isPlace_17 rfl (by first | rfl | exact kw_bn) (by simp only [kw_b]; grind) rfl rfl rfl
set_option maxRecDepth 20000 in
set_option maxHeartbeats 4000000 in
theorem ct_sendF (hf : ¬ C 2 3 < 24) (s r kind id x a b1 : Int32) : kw_C l D aC b yX6_send cX6_send 10 none 4 [.inr (.inl 2), .inl s, .inl r, .inl kind, .inl id, .inl x, .inl a, .inl b1] C M P none C M P := by
  refine ax_body (own := RX6) (ini := false) (by decide) rfl (fun h => by cases h) (Nat.le_of_ble_eq_true rfl) ?_
  refine qa_aload_n (pc1 := 1) dX6_send_0 rfl rfl rfl ?_
  refine qa_callVi (pc1 := 4) dX6_send_1 rfl ct_isFull wc_X6_47 wy_X6_isFull rfl rfl (ci := k_net) rfl ko_net (by omega) rfl ?_
  refine qf_if_eq (tgt := 8) (pc1 := 7) dX6_send_4 rfl rfl (by rw [kw_bt hf]; decide) ?_
  exact qa_vret dX6_send_7 rfl rfl rfl rfl rfl
set_option maxRecDepth 20000 in
set_option maxHeartbeats 4000000 in
theorem ct_send (hps : kw_ps P) {n : Nat} (hn : n < 24) (hc : C 2 3 = nI n) (s r kind id x a b1 : Int32) : kw_C l D aC b yX6_send cX6_send 10 none 4 [.inr (.inl 2), .inl s, .inl r, .inl kind, .inl id, .inl x, .inl a, .inl b1] C M P none (xc_send C P n s r kind id x a b1) M P := by
  refine ax_body (own := RX6) (ini := false) (by decide) rfl (fun h => by cases h) (Nat.le_of_ble_eq_true rfl) ?_
  have hdg : kw_dg (P 5 n) := kp_fd hps hn
  have hq1 := hdg.2.2
  have hq0 := hdg.2.1
  have e2 : ¬ 2 = P 5 n + 1 := by omega
  have e3 : ¬ 3 = P 5 n + 1 := by omega
  have e4 : ¬ 4 = P 5 n + 1 := by omega
  refine qa_aload_n (pc1 := 1) dX6_send_0 rfl rfl rfl ?_
  refine qa_callVi (pc1 := 4) dX6_send_1 rfl ct_isFull wc_X6_47 wy_X6_isFull rfl rfl (ci := k_net) rfl ko_net (by omega) rfl ?_
  refine qt_if_eq (tgt := 8) dX6_send_4 rfl (kw_bf (fun h => h (by rw [hc]; exact kw_24 hn))) ?_
  refine qa_aload_n (pc1 := 9) dX6_send_8 rfl rfl rfl ?_
  refine qa_getP (pc1 := 12) dX6_send_9 rfl wf_X6_20 rfl ko_net (by omega) (kp_fl hps) ?_
  refine qa_aload_n (pc1 := 13) dX6_send_12 rfl rfl rfl ?_
  refine qc_getI (pc1 := 16) dX6_send_13 rfl wf_X6_51 rfl ko_net (by omega) (by omega) ?_
  refine qa_top hc ?_
  refine qa_aald (pc1 := 17) dX6_send_16 rfl ka_fl rfl (by omega) (by omega) rfl ?_
  refine qa_astore (pc1 := 19) dX6_send_17 (by decide) rfl ?_
  refine qa_aload_n (pc1 := 20) dX6_send_19 rfl rfl rfl ?_
  refine qa_dup (pc1 := 21) dX6_send_20 rfl ?_
  refine qc_getI (pc1 := 24) dX6_send_21 rfl wf_X6_51 rfl ko_net (by omega) (by omega) ?_
  refine qa_top hc ?_
  refine qa_iconst (pc1 := 25) dX6_send_24 (v := (nI 1)) kc_i1N rfl ?_
  refine qn_iadd (pc1 := 26) dX6_send_25 rfl ?_
  refine qc_putI (pc1 := 29) dX6_send_26 rfl wp_X6_51 rfl rfl rfl ko_net (by omega) (by omega) ?_
  refine qa_aload (pc1 := 31) dX6_send_29 rfl rfl ?_
  refine qa_getP (pc1 := 34) dX6_send_31 rfl wf_X6_38 rfl (ko_dg _ (by assumption)) (by omega) (kp_pa hps (by assumption)) ?_
  refine qa_astore (pc1 := 36) dX6_send_34 (by decide) rfl ?_
  refine qa_aload (pc1 := 38) dX6_send_36 rfl rfl ?_
  refine qa_iconst (pc1 := 39) dX6_send_38 (v := (nI 0)) kc_i0N rfl ?_
  refine qa_iload_n (pc1 := 40) dX6_send_39 rfl rfl rfl ?_
  refine qc_iast (pc1 := 41) dX6_send_40 rfl (ka_pa _ (by assumption)) rfl (by omega) (by omega) (by decide) ?_
  refine qa_aload (pc1 := 43) dX6_send_41 rfl rfl ?_
  refine qa_iconst (pc1 := 44) dX6_send_43 (v := (nI 1)) kc_i1N rfl ?_
  refine qa_iload (pc1 := 46) dX6_send_44 rfl rfl ?_
  refine qc_iast (pc1 := 47) dX6_send_46 rfl (ka_pa _ (by assumption)) rfl (by omega) (by omega) (by decide) ?_
  refine qa_aload (pc1 := 49) dX6_send_47 rfl rfl ?_
  refine qa_iconst (pc1 := 50) dX6_send_49 (v := (nI 2)) kc_i2N rfl ?_
  refine qa_iload_n (pc1 := 51) dX6_send_50 rfl rfl rfl ?_
  refine qa_callTi (pc1 := 54) dX6_send_51 rfl (ct_isRequest _) wc_X6_55 wy_X0_isRequest rfl rfl rfl ?_
  refine qb_if_eq (tgt := 62) (pc1 := 57) dX6_send_54 rfl rfl (fun h54 => ?_) (fun h54 => ?_)
  · refine qa_iconst (pc1 := 63) dX6_send_62 (v := 0) kc_i0 rfl ?_
    refine qc_iast (pc1 := 64) dX6_send_63 rfl (ka_pa _ (by assumption)) rfl (by omega) (by omega) (by decide) ?_
    refine qa_aload (pc1 := 66) dX6_send_64 rfl rfl ?_
    refine qa_iconst (pc1 := 67) dX6_send_66 (v := (nI 3)) kc_i3N rfl ?_
    refine qa_iload (pc1 := 69) dX6_send_67 rfl rfl ?_
    refine qc_iast (pc1 := 70) dX6_send_69 rfl (ka_pa _ (by assumption)) rfl (by omega) (by omega) (by decide) ?_
    refine qa_aload (pc1 := 72) dX6_send_70 rfl rfl ?_
    refine qa_iconst (pc1 := 73) dX6_send_72 (v := (nI 4)) kc_i4N rfl ?_
    refine qa_iload (pc1 := 75) dX6_send_73 rfl rfl ?_
    refine qc_iast (pc1 := 76) dX6_send_75 rfl (ka_pa _ (by assumption)) rfl (by omega) (by omega) (by decide) ?_
    refine qa_aload (pc1 := 78) dX6_send_76 rfl rfl ?_
    refine qa_iconst (pc1 := 79) dX6_send_78 (v := (nI 5)) kc_i5N rfl ?_
    refine qa_aload (pc1 := 81) dX6_send_79 rfl rfl ?_
    refine qa_aload_n (pc1 := 82) dX6_send_81 rfl rfl rfl ?_
    refine qa_iload_n (pc1 := 83) dX6_send_82 rfl rfl rfl ?_
    refine qa_iload_n (pc1 := 84) dX6_send_83 rfl rfl rfl ?_
    refine qa_callVi (pc1 := 87) dX6_send_84 rfl (ct_keyAt hps _ _) wc_X6_41 wy_X6_keyAt rfl rfl (ci := k_net) rfl ko_net (by omega) rfl ?_
    refine qa_iload (pc1 := 89) dX6_send_87 rfl rfl ?_
    refine qa_callVi (pc1 := 92) dX6_send_89 rfl (ct_sealFor hps (by assumption) _ _) wc_X6_44 wy_X1_sealFor rfl rfl (ci := k_dg) rfl (ko_dg _ (by assumption)) (by omega) rfl ?_
    refine qa_top (show _ = xa_seal (xc_key C s r) kind id x a b1 from by simp [ax_u, xc_key, e3, e4]) ?_
    refine qc_iast (pc1 := 93) dX6_send_92 rfl (ka_pa _ (by assumption)) rfl (by omega) (by omega) (by decide) ?_
    refine qa_aload (pc1 := 95) dX6_send_93 rfl rfl ?_
    refine qa_bipush (pc1 := 97) dX6_send_95 (v := (nI 6)) kc_b6N rfl ?_
    refine qa_iload_n (pc1 := 98) dX6_send_97 rfl rfl rfl ?_
    refine qc_iast (pc1 := 99) dX6_send_98 rfl (ka_pa _ (by assumption)) rfl (by omega) (by omega) (by decide) ?_
    refine qa_aload (pc1 := 101) dX6_send_99 rfl rfl ?_
    refine qa_bipush (pc1 := 103) dX6_send_101 (v := (nI 7)) kc_b7N rfl ?_
    refine qa_iload_n (pc1 := 104) dX6_send_103 rfl rfl rfl ?_
    refine qc_iast (pc1 := 105) dX6_send_104 rfl (ka_pa _ (by assumption)) rfl (by omega) (by omega) (by decide) ?_
    exact qa_vret dX6_send_105 rfl rfl (by simp only [xc_send]; grind) rfl rfl
  · refine qa_iload (pc1 := 59) dX6_send_57 rfl rfl ?_
    refine qa_goto (tgt := 63) dX6_send_59 rfl ?_
    refine qc_iast (pc1 := 64) dX6_send_63 rfl (ka_pa _ (by assumption)) rfl (by omega) (by omega) (by decide) ?_
    refine qa_aload (pc1 := 66) dX6_send_64 rfl rfl ?_
    refine qa_iconst (pc1 := 67) dX6_send_66 (v := (nI 3)) kc_i3N rfl ?_
    refine qa_iload (pc1 := 69) dX6_send_67 rfl rfl ?_
    refine qc_iast (pc1 := 70) dX6_send_69 rfl (ka_pa _ (by assumption)) rfl (by omega) (by omega) (by decide) ?_
    refine qa_aload (pc1 := 72) dX6_send_70 rfl rfl ?_
    refine qa_iconst (pc1 := 73) dX6_send_72 (v := (nI 4)) kc_i4N rfl ?_
    refine qa_iload (pc1 := 75) dX6_send_73 rfl rfl ?_
    refine qc_iast (pc1 := 76) dX6_send_75 rfl (ka_pa _ (by assumption)) rfl (by omega) (by omega) (by decide) ?_
    refine qa_aload (pc1 := 78) dX6_send_76 rfl rfl ?_
    refine qa_iconst (pc1 := 79) dX6_send_78 (v := (nI 5)) kc_i5N rfl ?_
    refine qa_aload (pc1 := 81) dX6_send_79 rfl rfl ?_
    refine qa_aload_n (pc1 := 82) dX6_send_81 rfl rfl rfl ?_
    refine qa_iload_n (pc1 := 83) dX6_send_82 rfl rfl rfl ?_
    refine qa_iload_n (pc1 := 84) dX6_send_83 rfl rfl rfl ?_
    refine qa_callVi (pc1 := 87) dX6_send_84 rfl (ct_keyAt hps _ _) wc_X6_41 wy_X6_keyAt rfl rfl (ci := k_net) rfl ko_net (by omega) rfl ?_
    refine qa_iload (pc1 := 89) dX6_send_87 rfl rfl ?_
    refine qa_callVi (pc1 := 92) dX6_send_89 rfl (ct_sealFor hps (by assumption) _ _) wc_X6_44 wy_X1_sealFor rfl rfl (ci := k_dg) rfl (ko_dg _ (by assumption)) (by omega) rfl ?_
    refine qa_top (show _ = xa_seal (xc_key C s r) kind id x a b1 from by simp [ax_u, xc_key, e3, e4]) ?_
    refine qc_iast (pc1 := 93) dX6_send_92 rfl (ka_pa _ (by assumption)) rfl (by omega) (by omega) (by decide) ?_
    refine qa_aload (pc1 := 95) dX6_send_93 rfl rfl ?_
    refine qa_bipush (pc1 := 97) dX6_send_95 (v := (nI 6)) kc_b6N rfl ?_
    refine qa_iload_n (pc1 := 98) dX6_send_97 rfl rfl rfl ?_
    refine qc_iast (pc1 := 99) dX6_send_98 rfl (ka_pa _ (by assumption)) rfl (by omega) (by omega) (by decide) ?_
    refine qa_aload (pc1 := 101) dX6_send_99 rfl rfl ?_
    refine qa_bipush (pc1 := 103) dX6_send_101 (v := (nI 7)) kc_b7N rfl ?_
    refine qa_iload_n (pc1 := 104) dX6_send_103 rfl rfl rfl ?_
    refine qc_iast (pc1 := 105) dX6_send_104 rfl (ka_pa _ (by assumption)) rfl (by omega) (by omega) (by decide) ?_
    exact qa_vret dX6_send_105 rfl rfl (by simp only [xc_send]; grind) rfl rfl
theorem ct_snd (hps : kw_ps P) (hk : xc_nok C) (s r kind id x a b1 : Int32) : kw_C l D aC b yX6_send cX6_send 10 none 4 [.inr (.inl 2), .inl s, .inl r, .inl kind, .inl id, .inl x, .inl a, .inl b1] C M P none (xc_snd C P s r kind id x a b1) M P := by
  by_cases h : xc_n C < 24
  · rw [show xc_snd C P s r kind id x a b1 = xc_send C P (xc_n C) s r kind id x a b1 from by rw [xc_snd, if_pos h]]
    exact ct_send hps h hk.1 s r kind id x a b1
  · rw [show xc_snd C P s r kind id x a b1 = C from by rw [xc_snd, if_neg h]]
    refine ct_sendF ?_ s r kind id x a b1
    rw [hk.1, show xc_n C = 24 from by have := hk.2; omega]; decide
theorem xc_ti_step {P : ax_P} {kk i : Nat} (h : kk ≤ i) : ax_u (xc_ti P kk i) 5 i (P 5 (i + 1)) = xc_ti P kk (i + 1) := by
  funext a j
  by_cases e1 : a = 5
  · subst e1
    by_cases e2 : j = i
    · subst e2
      have h1 : kk ≤ j ∧ j < j + 1 := ⟨h, by omega⟩
      simp [ax_u, xc_ti, h1]
    · by_cases e3 : kk ≤ j ∧ j < i
      · have h1 : kk ≤ j ∧ j < i + 1 := ⟨e3.1, by omega⟩
        simp [ax_u, xc_ti, e2, e3, h1]
      · have h1 : ¬ (kk ≤ j ∧ j < i + 1) := by omega
        simp [ax_u, xc_ti, e2, e3, h1]
  · simp [ax_u, xc_ti, e1]
theorem xc_take_end {P : ax_P} {kk i n : Nat} (h : kk ≤ i) (hn : kk < n) (h2 : n - 1 ≤ i) (h3 : i ≤ n - 1) : xc_take P kk n = ax_u (xc_ti P kk i) 5 (n - 1) (P 2 5) := by
  have e : i = n - 1 := by omega
  subst e
  funext a j
  by_cases e1 : a = 5 <;> by_cases e2 : j = n - 1 <;> simp [ax_u, xc_take, e1, e2]
theorem xc_ti_0 {P : ax_P} {kk : Nat} : ax_u P 2 5 (P 5 kk) = xc_ti P kk kk := by
  funext a j
  have h : ∀ j, ¬ (kk ≤ j ∧ j < kk) := fun j => by omega
  by_cases e1 : a = 2 <;> by_cases e2 : j = 5 <;> simp [ax_u, xc_ti, e1, e2, h]
  all_goals (intro e3; omega)
set_option maxRecDepth 20000 in
set_option maxHeartbeats 4000000 in
theorem ct_takeOut (hps : kw_ps P) {kk n : Nat} (hkn : kk < n) (hn : n ≤ 24) (hc : C 2 3 = nI n) : kw_C l D aC b yX6_takeOut cX6_takeOut 4 (some (.object "RealmLogins$Datagram")) 1 [.inr (.inl 2), .inl (nI kk)] C M P (some (.inr (.inl (P 5 kk)))) (ax_u C 2 3 (nI (n - 1))) M (xc_take P kk n) := by
  refine ax_body (own := RX6) (ini := false) (by decide) rfl (fun h => by cases h) (Nat.le_of_ble_eq_true rfl) ?_
  have hcN : (ax_u C 2 3 (nI (n - 1))) 2 3 = nI (n - 1) := ax_u_at
  have h22 : ∀ i, xc_ti P kk i 2 2 = 5 := fun i => by simp [xc_ti, kp_fl hps]
  have hd5 : ∀ j, j < 24 → kw_dg (P 5 j) := fun j hj => kp_fd hps hj
  have hto : kw_dg (P 2 5) := kp_to hps
  have loop : ∀ i, kk ≤ i → i ≤ n - 1 → ax_G l D aC b RX6 cX6_takeOut 4 (some (.object "RealmLogins$Datagram")) false (kw_rm 1) 191 (ax_F D aC b 191 0 0 (kw_R (some (.inr (.inl (P 5 kk)))) kw_K kw_L (kw_gl (ax_u C 2 3 (nI (n - 1))) M) (xc_take P kk n))) (fun _ => True) 27 [(3, .inl (nI i)), (0, .inr (.inl 2)), (2, .inr (.inl (P 2 5)))] [] 0 0 kw_K kw_L (kw_gl (ax_u C 2 3 (nI (n - 1))) M) (xc_ti P kk i) := by
    refine kw_loop (n - 1) (fun i ih hki hin => ?_)
    refine qa_iload_n (pc1 := 28) dX6_takeOut_27 rfl rfl rfl ?_
    refine qa_aload_n (pc1 := 29) dX6_takeOut_28 rfl rfl rfl ?_
    refine qc_getI (pc1 := 32) dX6_takeOut_29 rfl wf_X6_51 rfl ko_net (by omega) (by omega) ?_
    refine qa_top hcN ?_
    refine qn_ic_ge (tgt := 55) (pc1 := 35) dX6_takeOut_32 rfl rfl (by omega) (by omega) (fun h32 => ?_) (fun h32 => ?_)
    · refine qa_aload_n (pc1 := 56) dX6_takeOut_55 rfl rfl rfl ?_
      refine qa_getP (pc1 := 59) dX6_takeOut_56 rfl wf_X6_20 rfl ko_net (by omega) (h22 i) ?_
      refine qa_aload_n (pc1 := 60) dX6_takeOut_59 rfl rfl rfl ?_
      refine qc_getI (pc1 := 63) dX6_takeOut_60 rfl wf_X6_51 rfl ko_net (by omega) (by omega) ?_
      refine qa_top hcN ?_
      refine qa_aload_n (pc1 := 64) dX6_takeOut_63 rfl rfl rfl ?_
      refine qa_aast (pc1 := 65) dX6_takeOut_64 rfl ka_fl (ci := k_dg) rfl rfl (by omega) (by omega) (ko_dg _ hto) (by have := hto.2.2; omega) ?_
      refine qa_aload_n (pc1 := 66) dX6_takeOut_65 rfl rfl rfl ?_
      refine qa_getP (pc1 := 69) dX6_takeOut_66 rfl wf_X6_25 rfl ko_net (by omega) (show _ = P 5 kk from by simp [ax_u, xc_ti]) ?_
      exact qa_aret dX6_takeOut_69 rfl (Or.inl ⟨_, rfl⟩) rfl rfl rfl (xc_take_end hki hkn h32 hin)
    · refine qa_aload_n (pc1 := 36) dX6_takeOut_35 rfl rfl rfl ?_
      refine qa_getP (pc1 := 39) dX6_takeOut_36 rfl wf_X6_20 rfl ko_net (by omega) (h22 i) ?_
      refine qa_iload_n (pc1 := 40) dX6_takeOut_39 rfl rfl rfl ?_
      refine qa_aload_n (pc1 := 41) dX6_takeOut_40 rfl rfl rfl ?_
      refine qa_getP (pc1 := 44) dX6_takeOut_41 rfl wf_X6_20 rfl ko_net (by omega) (h22 i) ?_
      refine qa_iload_n (pc1 := 45) dX6_takeOut_44 rfl rfl rfl ?_
      refine qa_iconst (pc1 := 46) dX6_takeOut_45 (v := (nI 1)) kc_i1N rfl ?_
      refine qn_iadd (pc1 := 47) dX6_takeOut_46 rfl ?_
      refine qa_aald (pc1 := 48) dX6_takeOut_47 rfl ka_fl rfl (by omega) (by omega) (show _ = P 5 (i + 1) from by simp [xc_ti]; intros; omega) ?_
      refine qa_aast (pc1 := 49) dX6_takeOut_48 rfl ka_fl (ci := k_dg) rfl rfl (by omega) (by omega) (ko_dg _ (hd5 _ (by omega))) (by have := (hd5 (i + 1) (by omega)).2.2; omega) ?_
      refine qa_iincN (pc1 := 52) dX6_takeOut_49 rfl (by decide) rfl ?_
      refine qa_goto (tgt := 27) dX6_takeOut_52 rfl ?_
      refine qa_memP (xc_ti_step hki) (qa_ls (by exact (kw_lsc rfl (kw_lsc rfl (kw_lsc rfl kw_lsn)))) (ih h32 (by omega) (by omega)))
  refine qa_aload_n (pc1 := 1) dX6_takeOut_0 rfl rfl rfl ?_
  refine qa_getP (pc1 := 4) dX6_takeOut_1 rfl wf_X6_25 rfl ko_net (by omega) rfl ?_
  refine qa_astore_n (pc1 := 5) dX6_takeOut_4 rfl (by decide) rfl ?_
  refine qa_aload_n (pc1 := 6) dX6_takeOut_5 rfl rfl rfl ?_
  refine qa_aload_n (pc1 := 7) dX6_takeOut_6 rfl rfl rfl ?_
  refine qa_getP (pc1 := 10) dX6_takeOut_7 rfl wf_X6_20 rfl ko_net (by omega) (kp_fl hps) ?_
  refine qa_iload_n (pc1 := 11) dX6_takeOut_10 rfl rfl rfl ?_
  refine qa_aald (pc1 := 12) dX6_takeOut_11 rfl ka_fl rfl (by omega) (by omega) (rfl : P 5 kk = _) ?_
  refine qa_putP (pc1 := 15) dX6_takeOut_12 rfl wp_X6_25 rfl ko_net (by omega) ?_
  refine qa_aload_n (pc1 := 16) dX6_takeOut_15 rfl rfl rfl ?_
  refine qa_dup (pc1 := 17) dX6_takeOut_16 rfl ?_
  refine qc_getI (pc1 := 20) dX6_takeOut_17 rfl wf_X6_51 rfl ko_net (by omega) (by omega) ?_
  refine qa_top hc ?_
  refine qa_iconst (pc1 := 21) dX6_takeOut_20 (v := (nI 1)) kc_i1N rfl ?_
  refine qn_isub (pc1 := 22) dX6_takeOut_21 rfl (by omega) ?_
  refine qc_putI (pc1 := 25) dX6_takeOut_22 rfl wp_X6_51 rfl rfl rfl ko_net (by omega) (by omega) ?_
  refine qa_iload_n (pc1 := 26) dX6_takeOut_25 rfl rfl rfl ?_
  refine qa_istore_n (pc1 := 27) dX6_takeOut_26 rfl (by decide) rfl ?_
  refine qa_memP (xc_ti_0) (qa_ls (by exact (kw_lsc rfl (kw_lsc rfl (kw_lsc rfl kw_lsn)))) (loop kk (Nat.le_refl _) (by omega)))
end NET
