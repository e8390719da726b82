
def xc_lg1 (C : ax_I) (L : Nat) (u pw : Int32) : ax_I := ax_u (ax_u (ax_u C L 4 u) L 5 pw) L 1 0
theorem xc_lg1_ok {C : ax_I} {p i : Nat} {u pw : Int32} (hk : xc_nok C) : xc_nok (xc_lg1 C (59 + 6 * p + i) u pw) := by
  have e : xc_lg1 C (59 + 6 * p + i) u pw 2 3 = C 2 3 := by simp [xc_lg1, ax_u, show ¬ 2 = 59 + 6 * p + i from by omega]
  unfold xc_nok xc_n; rw [e]; exact hk
theorem xc_take_ps {P : ax_P} {kk n : Nat} (hps : kw_ps P) (hkn : kk < n) (hn : n ≤ 24) : kw_ps (xc_take P kk n) := by
  have o : ∀ a j, ¬ a = 5 → ¬ (a = 2 ∧ j = 5) → xc_take P kk n a j = P a j := fun a j h1 h2 => by simp [xc_take, xc_ti, h1, h2]
  obtain ⟨⟨a1, a2, a3, a4⟩, ⟨b1, b2, b3⟩, c1, c2, c3, c4, c5, c6, c7, c8, c9, c10, c11, c12⟩ := hps
  refine ⟨⟨?_, ?_, ?_, ?_⟩, ⟨?_, ?_, ?_⟩, fun d hd => ?_, fun p hp => ?_, fun p hp => ?_, fun p i hp hi => ?_, ?_, fun i hi => ?_, fun h hh => ?_, fun h hh => ⟨?_, ?_, ?_, ?_, ?_, ?_, ?_⟩, fun h r hh hr => ?_, fun k hk => ?_, fun i hi => ?_, ?_⟩
  · rw [o _ _ (by omega) (by omega)]; exact a1
  · rw [o _ _ (by omega) (by omega)]; exact a2
  · rw [o _ _ (by omega) (by omega)]; exact a3
  · rw [o _ _ (by omega) (by omega)]; exact a4
  · rw [o _ _ (by omega) (by omega)]; exact b1
  · rw [o _ _ (by omega) (by omega)]; exact b2
  · rw [o _ _ (by omega) (by omega)]; exact b3
  · have := hd.2.1
    rw [o _ _ (by omega) (by omega)]; exact c1 d hd
  · rw [o _ _ (by omega) (by omega)]; exact c2 p hp
  · rw [o _ _ (by omega) (by omega)]; exact c3 p hp
  · rw [o _ _ (by omega) (by omega)]; exact c4 p i hp hi
  · rw [o _ _ (by omega) (by omega)]; exact c5
  · rw [o _ _ (by omega) (by omega)]; exact c6 i hi
  · rw [o _ _ (by omega) (by omega)]; exact c7 h hh
  · rw [o _ _ (by omega) (by omega)]; exact (c8 h hh).1
  · rw [o _ _ (by omega) (by omega)]; exact (c8 h hh).2.1
  · rw [o _ _ (by omega) (by omega)]; exact (c8 h hh).2.2.1
  · rw [o _ _ (by omega) (by omega)]; exact (c8 h hh).2.2.2.1
  · rw [o _ _ (by omega) (by omega)]; exact (c8 h hh).2.2.2.2.1
  · rw [o _ _ (by omega) (by omega)]; exact (c8 h hh).2.2.2.2.2.1
  · rw [o _ _ (by omega) (by omega)]; exact (c8 h hh).2.2.2.2.2.2
  · rw [o _ _ (by omega) (by omega)]; exact c9 h r hh hr
  · rw [o _ _ (by omega) (by omega)]; exact c10 k hk
  · by_cases e1 : i = n - 1
    · have : xc_take P kk n 5 i = P 2 5 := by simp [xc_take, e1]
      rw [this]; exact c12
    · by_cases e2 : kk ≤ i ∧ i < n - 1
      · have : xc_take P kk n 5 i = P 5 (i + 1) := by simp [xc_take, xc_ti, e1, e2]
        rw [this]; exact c11 (i + 1) (by omega)
      · have : xc_take P kk n 5 i = P 5 i := by simp [xc_take, xc_ti, e1, e2]
        rw [this]; exact c11 i hi
  · have : xc_take P kk n 2 5 = P 5 kk := by simp [xc_take, xc_ti]
    rw [this]; exact c11 kk (by omega)
def xc_tp (P : ax_P) (p f : Nat) (C : ax_I) : ax_I := match f with
  | 0 => C
  | g + 1 => xc_tp P (p + 1) g (xc_ags P p 0 4 C)
def xc_tpn (P : ax_P) (p f : Nat) (C : ax_I) (n : Int32) : Int32 := match f with
  | 0 => n
  | g + 1 => xc_tpn P (p + 1) g (xc_ags P p 0 4 C) (n + xc_agsn P p 0 4 C 0)
def xc_tk (C : ax_I) : ax_I := ax_u C 2 4 (C 2 4 + 1)
def xc_tt (P : ax_P) (f : Nat) (C : ax_I) : ax_I := match f with
  | 0 => C
  | g + 1 => xc_tt P g (xc_tp P 0 2 (xc_tk C))
def xc_ttn (P : ax_P) (f : Nat) (C : ax_I) (n : Int32) : Int32 := match f with
  | 0 => n
  | g + 1 => xc_ttn P g (xc_tp P 0 2 (xc_tk C)) (xc_tpn P 0 2 (xc_tk C) n)
theorem xc_tk_ok {C : ax_I} (hk : xc_nok C) : xc_nok (xc_tk C) := by
  have e : xc_tk C 2 3 = C 2 3 := by simp [xc_tk, ax_u]
  unfold xc_nok xc_n; rw [e]; exact hk
theorem xc_tp_ok {P : ax_P} (hps : kw_ps P) {f : Nat} : ∀ {p : Nat} {C : ax_I}, xc_nok C → xc_nok (xc_tp P p f C) := by
  induction f with
  | zero => intro p C hk; exact hk
  | succ f ih => intro p C hk; exact ih (xc_ags_ok hps hk)
theorem kw_and1 {u : Nat} (hu : u < 2 ^ 31) : nI u &&& 1 = nI (u % 2) := pk_andN (by omega) 1 (by decide)

section TOP
variable {l : Launch} {D : va_G} {aC : Nat → ClassId} {b : Nat} {C M : ax_I} {P : ax_P}
set_option maxRecDepth 20000 in
set_option maxHeartbeats 4000000 in
theorem ct_ptI (hps : kw_ps P) {p : Nat} (hp : p < 2) : kw_C l D aC b yX0_pointAt cX0_pointAt 2 (some (.object "RealmLogins$Point")) 1 [.inr (.inl 1), .inl (nI p)] C M P (some (.inr (.inl (57 + 6 * p)))) C M P := by
  refine ax_body (own := RX0) (ini := false) (by decide) rfl (fun h => by cases h) (Nat.le_of_ble_eq_true rfl) ?_
  refine qa_iload_n (pc1 := 1) dX0_pointAt_0 rfl rfl rfl ?_
  refine qn_if_lt (tgt := 18) (pc1 := 4) dX0_pointAt_1 rfl rfl (by omega) ?_
  refine qa_iload_n (pc1 := 5) dX0_pointAt_4 rfl rfl rfl ?_
  refine qa_iconst (pc1 := 6) dX0_pointAt_5 (v := 2) kc_i2 rfl ?_
  refine qf_ic_ge (tgt := 18) (pc1 := 9) dX0_pointAt_6 rfl rfl (nI_ge (a := p) (b := 2) hp (by decide)) ?_
  refine qa_aload_n (pc1 := 10) dX0_pointAt_9 rfl rfl rfl ?_
  refine qa_getP (pc1 := 13) dX0_pointAt_10 rfl wf_X0_18 rfl ko_rl (by omega) (kp_pts hps) ?_
  refine qa_iload_n (pc1 := 14) dX0_pointAt_13 rfl rfl rfl ?_
  refine qa_aald (pc1 := 15) dX0_pointAt_14 rfl ka_pts rfl (by omega) (by omega) (kp_pt hps (by assumption)) ?_
  refine qa_goto (tgt := 19) dX0_pointAt_15 rfl ?_
  exact qa_aret dX0_pointAt_19 rfl (Or.inl ⟨_, rfl⟩) rfl rfl rfl rfl
set_option maxRecDepth 20000 in
set_option maxHeartbeats 4000000 in
theorem ct_ptO (hps : kw_ps P) (s : Int32) (hs : ¬ vp_in s 2) : kw_C l D aC b yX0_pointAt cX0_pointAt 2 (some (.object "RealmLogins$Point")) 1 [.inr (.inl 1), .inl s] C M P (some (.inr (.inl 0))) C M P := by
  refine ax_body (own := RX0) (ini := false) (by decide) rfl (fun h => by cases h) (Nat.le_of_ble_eq_true rfl) ?_
  refine qa_iload_n (pc1 := 1) dX0_pointAt_0 rfl rfl rfl ?_
  refine qa_if_lt (tgt := 18) (pc1 := 4) dX0_pointAt_1 rfl rfl (fun h1 => ?_) (fun h1 => ?_)
  · refine qa_null (pc1 := 19) dX0_pointAt_18 rfl ?_
    exact qa_aret dX0_pointAt_19 rfl (Or.inl ⟨_, rfl⟩) rfl rfl rfl rfl
  · refine qa_iload_n (pc1 := 5) dX0_pointAt_4 rfl rfl rfl ?_
    refine qa_iconst (pc1 := 6) dX0_pointAt_5 (v := 2) kc_i2 rfl ?_
    refine qa_ic_ge (tgt := 18) (pc1 := 9) dX0_pointAt_6 rfl rfl (fun h6 => ?_) (fun h6 => ?_)
    · refine qa_null (pc1 := 19) dX0_pointAt_18 rfl ?_
      exact qa_aret dX0_pointAt_19 rfl (Or.inl ⟨_, rfl⟩) rfl rfl rfl rfl
    · exact absurd (kw_iny rfl h1 h6) hs
set_option maxRecDepth 20000 in
set_option maxHeartbeats 4000000 in
theorem ct_hmI (hps : kw_ps P) {h : Nat} (hh : h < 2) : kw_C l D aC b yX0_homeAt cX0_homeAt 3 (some (.object "RealmLogins$Home")) 1 [.inr (.inl 1), .inl (nI (3 + h))] C M P (some (.inr (.inl (80 + 48 * h)))) C M P := by
  refine ax_body (own := RX0) (ini := false) (by decide) rfl (fun h => by cases h) (Nat.le_of_ble_eq_true rfl) ?_
  refine qa_iload_n (pc1 := 1) dX0_homeAt_0 rfl rfl rfl ?_
  refine qa_iconst (pc1 := 2) dX0_homeAt_1 (v := 3) kc_i3 rfl ?_
  refine qf_ic_lt (tgt := 14) (pc1 := 5) dX0_homeAt_2 rfl rfl (nI_nlt (a := 3 + h) (b := 3) (by omega) (by omega)) ?_
  refine qa_iload_n (pc1 := 6) dX0_homeAt_5 rfl rfl rfl ?_
  refine qa_iconst (pc1 := 7) dX0_homeAt_6 (v := 5) kc_i5 rfl ?_
  refine qf_ic_ge (tgt := 14) (pc1 := 10) dX0_homeAt_7 rfl rfl (nI_ge (a := 3 + h) (b := 5) (by omega) (by decide)) ?_
  refine qa_iconst (pc1 := 11) dX0_homeAt_10 (v := 1) kc_i1 rfl ?_
  refine qa_goto (tgt := 15) dX0_homeAt_11 rfl ?_
  refine qa_istore_n (pc1 := 16) dX0_homeAt_15 rfl (by decide) rfl ?_
  refine qa_iload_n (pc1 := 17) dX0_homeAt_16 rfl rfl rfl ?_
  refine qf_if_eq (tgt := 31) (pc1 := 20) dX0_homeAt_17 rfl rfl (by decide) ?_
  refine qa_aload_n (pc1 := 21) dX0_homeAt_20 rfl rfl rfl ?_
  refine qa_getP (pc1 := 24) dX0_homeAt_21 rfl wf_X0_34 rfl ko_rl (by omega) (kp_hms hps) ?_
  refine qa_iload_n (pc1 := 25) dX0_homeAt_24 rfl rfl rfl ?_
  refine qa_iconst (pc1 := 26) dX0_homeAt_25 (v := (nI 3)) kc_i3N rfl ?_
  refine qn_isub (pc1 := 27) dX0_homeAt_26 rfl (by omega) ?_
  refine qa_top (show nI (3 + h - 3) = nI h from congrArg nI (by omega)) ?_
  refine qa_aald (pc1 := 28) dX0_homeAt_27 rfl ka_hms rfl (by omega) (by omega) (kp_hm hps (by assumption)) ?_
  refine qa_goto (tgt := 32) dX0_homeAt_28 rfl ?_
  exact qa_aret dX0_homeAt_32 rfl (Or.inl ⟨_, rfl⟩) rfl rfl rfl rfl
set_option maxRecDepth 20000 in
set_option maxHeartbeats 4000000 in
theorem ct_hmO (hps : kw_ps P) (s : Int32) (hs : s < 3 ∨ 5 ≤ s) : kw_C l D aC b yX0_homeAt cX0_homeAt 3 (some (.object "RealmLogins$Home")) 1 [.inr (.inl 1), .inl s] C M P (some (.inr (.inl 0))) C M P := by
  refine ax_body (own := RX0) (ini := false) (by decide) rfl (fun h => by cases h) (Nat.le_of_ble_eq_true rfl) ?_
  refine qa_iload_n (pc1 := 1) dX0_homeAt_0 rfl rfl rfl ?_
  refine qa_iconst (pc1 := 2) dX0_homeAt_1 (v := 3) kc_i3 rfl ?_
  refine qa_ic_lt (tgt := 14) (pc1 := 5) dX0_homeAt_2 rfl rfl (fun h2 => ?_) (fun h2 => ?_)
  · refine qa_iconst (pc1 := 15) dX0_homeAt_14 (v := 0) kc_i0 rfl ?_
    refine qa_istore_n (pc1 := 16) dX0_homeAt_15 rfl (by decide) rfl ?_
    refine qa_iload_n (pc1 := 17) dX0_homeAt_16 rfl rfl rfl ?_
    refine qt_if_eq (tgt := 31) dX0_homeAt_17 rfl rfl ?_
    refine qa_null (pc1 := 32) dX0_homeAt_31 rfl ?_
    exact qa_aret dX0_homeAt_32 rfl (Or.inl ⟨_, rfl⟩) rfl rfl rfl rfl
  · refine qa_iload_n (pc1 := 6) dX0_homeAt_5 rfl rfl rfl ?_
    refine qa_iconst (pc1 := 7) dX0_homeAt_6 (v := 5) kc_i5 rfl ?_
    refine qa_ic_ge (tgt := 14) (pc1 := 10) dX0_homeAt_7 rfl rfl (fun h7 => ?_) (fun h7 => ?_)
    · refine qa_iconst (pc1 := 15) dX0_homeAt_14 (v := 0) kc_i0 rfl ?_
      refine qa_istore_n (pc1 := 16) dX0_homeAt_15 rfl (by decide) rfl ?_
      refine qa_iload_n (pc1 := 17) dX0_homeAt_16 rfl rfl rfl ?_
      refine qt_if_eq (tgt := 31) dX0_homeAt_17 rfl rfl ?_
      refine qa_null (pc1 := 32) dX0_homeAt_31 rfl ?_
      exact qa_aret dX0_homeAt_32 rfl (Or.inl ⟨_, rfl⟩) rfl rfl rfl rfl
    · rcases hs with h | h
      · exact absurd h h2
      · exact absurd h h7
set_option maxRecDepth 20000 in
set_option maxHeartbeats 4000000 in
theorem ct_lnI (hps : kw_ps P) {p i : Nat} (hp : p < 2) (hi : i < 4) : kw_C l D aC b yX0_lineAt cX0_lineAt 4 (some (.object "RealmLogins$Line")) 2 [.inr (.inl 1), .inl (nI p), .inl (nI i)] C M P (some (.inr (.inl (59 + 6 * p + i)))) C M P := by
  refine ax_body (own := RX0) (ini := false) (by decide) rfl (fun h => by cases h) (Nat.le_of_ble_eq_true rfl) ?_
  refine qa_aload_n (pc1 := 1) dX0_lineAt_0 rfl rfl rfl ?_
  refine qa_iload_n (pc1 := 2) dX0_lineAt_1 rfl rfl rfl ?_
  refine qa_callVr (pc1 := 5) dX0_lineAt_2 rfl (ct_ptI hps (by assumption)) wc_X0_64 wy_X0_pointAt rfl rfl (ci := k_rl) rfl ko_rl (by omega) rfl ?_
  refine qa_astore_n (pc1 := 6) dX0_lineAt_5 rfl (by decide) rfl ?_
  refine qa_aload_n (pc1 := 7) dX0_lineAt_6 rfl rfl rfl ?_
  refine qf_ifnull (tgt := 19) (pc1 := 10) dX0_lineAt_7 rfl rfl (by omega) ?_
  refine qa_iload_n (pc1 := 11) dX0_lineAt_10 rfl rfl rfl ?_
  refine qn_if_lt (tgt := 19) (pc1 := 14) dX0_lineAt_11 rfl rfl (by omega) ?_
  refine qa_iload_n (pc1 := 15) dX0_lineAt_14 rfl rfl rfl ?_
  refine qa_iconst (pc1 := 16) dX0_lineAt_15 (v := 4) kc_i4 rfl ?_
  refine qt_ic_lt (tgt := 23) dX0_lineAt_16 rfl (nI_lt (b := 4) hi (by decide)) ?_
  refine qa_aload_n (pc1 := 24) dX0_lineAt_23 rfl rfl rfl ?_
  refine qa_getP (pc1 := 27) dX0_lineAt_24 rfl wf_X0_158 rfl (ko_pt _ (by assumption)) (by omega) (kp_lns hps (by assumption)) ?_
  refine qa_iload_n (pc1 := 28) dX0_lineAt_27 rfl rfl rfl ?_
  refine qa_aald (pc1 := 29) dX0_lineAt_28 rfl (ka_lns _ (by assumption)) rfl (by omega) (by omega) (kp_ln hps (by assumption) (by assumption)) ?_
  exact qa_aret dX0_lineAt_29 rfl (Or.inl ⟨_, rfl⟩) rfl rfl rfl rfl
set_option maxRecDepth 20000 in
set_option maxHeartbeats 4000000 in
theorem ct_lnO1 (hps : kw_ps P) (s y : Int32) (hs : ¬ vp_in s 2) : kw_C l D aC b yX0_lineAt cX0_lineAt 4 (some (.object "RealmLogins$Line")) 2 [.inr (.inl 1), .inl s, .inl y] C M P (some (.inr (.inl 0))) C M P := by
  refine ax_body (own := RX0) (ini := false) (by decide) rfl (fun h => by cases h) (Nat.le_of_ble_eq_true rfl) ?_
  refine qa_aload_n (pc1 := 1) dX0_lineAt_0 rfl rfl rfl ?_
  refine qa_iload_n (pc1 := 2) dX0_lineAt_1 rfl rfl rfl ?_
  refine qa_callVr (pc1 := 5) dX0_lineAt_2 rfl (ct_ptO hps _ hs) wc_X0_64 wy_X0_pointAt rfl rfl (ci := k_rl) rfl ko_rl (by omega) rfl ?_
  refine qa_astore_n (pc1 := 6) dX0_lineAt_5 rfl (by decide) rfl ?_
  refine qa_aload_n (pc1 := 7) dX0_lineAt_6 rfl rfl rfl ?_
  refine qt_ifnull (tgt := 19) dX0_lineAt_7 rfl rfl ?_
  refine qa_null (pc1 := 20) dX0_lineAt_19 rfl ?_
  refine qa_goto (tgt := 29) dX0_lineAt_20 rfl ?_
  exact qa_aret dX0_lineAt_29 rfl (Or.inl ⟨_, rfl⟩) rfl rfl rfl rfl
set_option maxRecDepth 20000 in
set_option maxHeartbeats 4000000 in
theorem ct_lnO2 (hps : kw_ps P) {p : Nat} (hp : p < 2) (y : Int32) (hs : ¬ vp_in y 4) : kw_C l D aC b yX0_lineAt cX0_lineAt 4 (some (.object "RealmLogins$Line")) 2 [.inr (.inl 1), .inl (nI p), .inl y] C M P (some (.inr (.inl 0))) C M P := by
  refine ax_body (own := RX0) (ini := false) (by decide) rfl (fun h => by cases h) (Nat.le_of_ble_eq_true rfl) ?_
  refine qa_aload_n (pc1 := 1) dX0_lineAt_0 rfl rfl rfl ?_
  refine qa_iload_n (pc1 := 2) dX0_lineAt_1 rfl rfl rfl ?_
  refine qa_callVr (pc1 := 5) dX0_lineAt_2 rfl (ct_ptI hps (by assumption)) wc_X0_64 wy_X0_pointAt rfl rfl (ci := k_rl) rfl ko_rl (by omega) rfl ?_
  refine qa_astore_n (pc1 := 6) dX0_lineAt_5 rfl (by decide) rfl ?_
  refine qa_aload_n (pc1 := 7) dX0_lineAt_6 rfl rfl rfl ?_
  refine qf_ifnull (tgt := 19) (pc1 := 10) dX0_lineAt_7 rfl rfl (by omega) ?_
  refine qa_iload_n (pc1 := 11) dX0_lineAt_10 rfl rfl rfl ?_
  refine qa_if_lt (tgt := 19) (pc1 := 14) dX0_lineAt_11 rfl rfl (fun h11 => ?_) (fun h11 => ?_)
  · refine qa_null (pc1 := 20) dX0_lineAt_19 rfl ?_
    refine qa_goto (tgt := 29) dX0_lineAt_20 rfl ?_
    exact qa_aret dX0_lineAt_29 rfl (Or.inl ⟨_, rfl⟩) rfl rfl rfl rfl
  · refine qa_iload_n (pc1 := 15) dX0_lineAt_14 rfl rfl rfl ?_
    refine qa_iconst (pc1 := 16) dX0_lineAt_15 (v := 4) kc_i4 rfl ?_
    refine qa_ic_lt (tgt := 23) (pc1 := 19) dX0_lineAt_16 rfl rfl (fun h16 => ?_) (fun h16 => ?_)
    · exact absurd (kw_inx rfl h11 h16) hs
    · refine qa_null (pc1 := 20) dX0_lineAt_19 rfl ?_
      refine qa_goto (tgt := 29) dX0_lineAt_20 rfl ?_
      exact qa_aret dX0_lineAt_29 rfl (Or.inl ⟨_, rfl⟩) rfl rfl rfl rfl
set_option maxRecDepth 20000 in
set_option maxHeartbeats 4000000 in
theorem ct_keyI (hps : kw_ps P) {k : Nat} (hk4 : k < 4) (x y : Int32) : kw_C l D aC b yX0_key cX0_key 4 (some .boolean) 1 [.inr (.inl 1), .inl (nI k), .inl x, .inl y] C M P (some (.inl 1)) (ax_u (ax_u C 3 k x) 4 k y) M P := by
  refine ax_body (own := RX0) (ini := false) (by decide) rfl (fun h => by cases h) (Nat.le_of_ble_eq_true rfl) ?_
  refine qa_iload_n (pc1 := 1) dX0_key_0 rfl rfl rfl ?_
  refine qn_if_lt (tgt := 9) (pc1 := 4) dX0_key_1 rfl rfl (by omega) ?_
  refine qa_iload_n (pc1 := 5) dX0_key_4 rfl rfl rfl ?_
  refine qa_iconst (pc1 := 6) dX0_key_5 (v := 4) kc_i4 rfl ?_
  refine qt_ic_lt (tgt := 11) dX0_key_6 rfl (nI_lt (b := 4) hk4 (by decide)) ?_
  refine qa_aload_n (pc1 := 12) dX0_key_11 rfl rfl rfl ?_
  refine qa_getP (pc1 := 15) dX0_key_12 rfl wf_X0_10 rfl ko_rl (by omega) (kp_net hps) ?_
  refine qa_getP (pc1 := 18) dX0_key_15 rfl wf_X0_39 rfl ko_net (by omega) (kp_near hps) ?_
  refine qa_iload_n (pc1 := 19) dX0_key_18 rfl rfl rfl ?_
  refine qa_iload_n (pc1 := 20) dX0_key_19 rfl rfl rfl ?_
  refine qc_iast (pc1 := 21) dX0_key_20 rfl ka_near rfl (by omega) (by omega) (by omega) ?_
  refine qa_aload_n (pc1 := 22) dX0_key_21 rfl rfl rfl ?_
  refine qa_getP (pc1 := 25) dX0_key_22 rfl wf_X0_10 rfl ko_rl (by omega) (kp_net hps) ?_
  refine qa_getP (pc1 := 28) dX0_key_25 rfl wf_X0_43 rfl ko_net (by omega) (kp_far hps) ?_
  refine qa_iload_n (pc1 := 29) dX0_key_28 rfl rfl rfl ?_
  refine qa_iload_n (pc1 := 30) dX0_key_29 rfl rfl rfl ?_
  refine qc_iast (pc1 := 31) dX0_key_30 rfl ka_far rfl (by omega) (by omega) (by omega) ?_
  refine qa_iconst (pc1 := 32) dX0_key_31 (v := 1) kc_i1 rfl ?_
  exact qa_iret dX0_key_32 rfl (by first | rfl | exact kw_bn) rfl rfl rfl rfl
set_option maxRecDepth 20000 in
set_option maxHeartbeats 4000000 in
theorem ct_keyO (s x y : Int32) (hs : ¬ vp_in s 4) : kw_C l D aC b yX0_key cX0_key 4 (some .boolean) 1 [.inr (.inl 1), .inl s, .inl x, .inl y] C M P (some (.inl 0)) C M P := by
  refine ax_body (own := RX0) (ini := false) (by decide) rfl (fun h => by cases h) (Nat.le_of_ble_eq_true rfl) ?_
  refine qa_iload_n (pc1 := 1) dX0_key_0 rfl rfl rfl ?_
  refine qa_if_lt (tgt := 9) (pc1 := 4) dX0_key_1 rfl rfl (fun h1 => ?_) (fun h1 => ?_)
  · refine qa_iconst (pc1 := 10) dX0_key_9 (v := 0) kc_i0 rfl ?_
    exact qa_iret dX0_key_10 rfl (by first | rfl | exact kw_bn) rfl rfl rfl rfl
  · refine qa_iload_n (pc1 := 5) dX0_key_4 rfl rfl rfl ?_
    refine qa_iconst (pc1 := 6) dX0_key_5 (v := 4) kc_i4 rfl ?_
    refine qa_ic_lt (tgt := 11) (pc1 := 9) dX0_key_6 rfl rfl (fun h6 => ?_) (fun h6 => ?_)
    · exact absurd (kw_inx rfl h1 h6) hs
    · refine qa_iconst (pc1 := 10) dX0_key_9 (v := 0) kc_i0 rfl ?_
      exact qa_iret dX0_key_10 rfl (by first | rfl | exact kw_bn) rfl rfl rfl rfl
set_option maxRecDepth 20000 in
set_option maxHeartbeats 4000000 in
theorem ct_enrolI (hps : kw_ps P) {u m : Nat} (hu : u < 12) (hm : m ≤ 6) (pw : Int32) : kw_C l D aC b yX0_enrol cX0_enrol 5 (some .boolean) 2 [.inr (.inl 1), .inl (nI u), .inl pw, .inl (nI m)] C M P (some (.inl 1)) (ax_u (ax_u C (81 + 48 * (u % 2)) u pw) (82 + 48 * (u % 2)) u (nI m)) M P := by
  refine ax_body (own := RX0) (ini := false) (by decide) rfl (fun h => by cases h) (Nat.le_of_ble_eq_true rfl) ?_
  have hh : u % 2 < 2 := by omega
  refine qa_iload_n (pc1 := 1) dX0_enrol_0 rfl rfl rfl ?_
  refine qa_callSi (pc1 := 4) dX0_enrol_1 rfl (ct_isUser _) wc_X0_46 wy_X0_isUser rfl rfl rfl ?_
  refine qf_if_eq (tgt := 17) (pc1 := 7) dX0_enrol_4 rfl rfl (kw_b1.mpr ⟨nI_pos (by omega), nI_ge (a := u) (b := 12) hu (by decide)⟩) ?_
  refine qa_iload_n (pc1 := 8) dX0_enrol_7 rfl rfl rfl ?_
  refine qn_if_lt (tgt := 17) (pc1 := 11) dX0_enrol_8 rfl rfl (by omega) ?_
  refine qa_iload_n (pc1 := 12) dX0_enrol_11 rfl rfl rfl ?_
  refine qa_bipush (pc1 := 14) dX0_enrol_12 (v := 6) kc_b6 rfl ?_
  refine qt_ic_le (tgt := 19) dX0_enrol_14 rfl (nI_le (a := m) (b := 6) hm (by decide)) ?_
  refine qa_aload_n (pc1 := 20) dX0_enrol_19 rfl rfl rfl ?_
  refine qa_iload_n (pc1 := 21) dX0_enrol_20 rfl rfl rfl ?_
  refine qa_callSi (pc1 := 24) dX0_enrol_21 rfl (ct_homeOf _) wc_X0_50 wy_X0_homeOf rfl rfl rfl ?_
  refine qa_top (show 3 + (nI u &&& 1) = nI (3 + u % 2) from by rw [kw_and1 (by omega), ← nI_add]; rfl) ?_
  refine qa_callVr (pc1 := 27) dX0_enrol_24 rfl (ct_hmI hps hh) wc_X0_54 wy_X0_homeAt rfl rfl (ci := k_rl) rfl ko_rl (by omega) rfl ?_
  refine qa_astore (pc1 := 29) dX0_enrol_27 (by decide) rfl ?_
  refine qa_aload (pc1 := 31) dX0_enrol_29 rfl rfl ?_
  refine qt_ifnonnull (tgt := 36) dX0_enrol_31 rfl (by omega) ?_
  refine qa_aload (pc1 := 38) dX0_enrol_36 rfl rfl ?_
  refine qa_getP (pc1 := 41) dX0_enrol_38 rfl wf_X0_58 rfl (ko_hm _ (by assumption)) (by omega) (kp_pw hps (by assumption)) ?_
  refine qa_iload_n (pc1 := 42) dX0_enrol_41 rfl rfl rfl ?_
  refine qa_iload_n (pc1 := 43) dX0_enrol_42 rfl rfl rfl ?_
  refine qc_iast (pc1 := 44) dX0_enrol_43 rfl (ka_pw _ (by assumption)) rfl (by omega) (by omega) (by omega) ?_
  refine qa_aload (pc1 := 46) dX0_enrol_44 rfl rfl ?_
  refine qa_getP (pc1 := 49) dX0_enrol_46 rfl wf_X0_61 rfl (ko_hm _ (by assumption)) (by omega) (kp_li hps (by assumption)) ?_
  refine qa_iload_n (pc1 := 50) dX0_enrol_49 rfl rfl rfl ?_
  refine qa_iload_n (pc1 := 51) dX0_enrol_50 rfl rfl rfl ?_
  refine qc_iast (pc1 := 52) dX0_enrol_51 rfl (ka_li _ (by assumption)) rfl (by omega) (by omega) (by omega) ?_
  refine qa_iconst (pc1 := 53) dX0_enrol_52 (v := 1) kc_i1 rfl ?_
  exact qa_iret dX0_enrol_53 rfl (by first | rfl | exact kw_bn) rfl rfl rfl rfl
set_option maxRecDepth 20000 in
set_option maxHeartbeats 4000000 in
theorem ct_enrolO (hps : kw_ps P) (s x y : Int32) (hs : ¬ (xc_us s ∧ ¬ y < 0 ∧ y ≤ 6)) : kw_C l D aC b yX0_enrol cX0_enrol 5 (some .boolean) 2 [.inr (.inl 1), .inl s, .inl x, .inl y] C M P (some (.inl 0)) C M P := by
  refine ax_body (own := RX0) (ini := false) (by decide) rfl (fun h => by cases h) (Nat.le_of_ble_eq_true rfl) ?_
  refine qa_iload_n (pc1 := 1) dX0_enrol_0 rfl rfl rfl ?_
  refine qa_callSi (pc1 := 4) dX0_enrol_1 rfl (ct_isUser _) wc_X0_46 wy_X0_isUser rfl rfl rfl ?_
  refine qb_if_eq (tgt := 17) (pc1 := 7) dX0_enrol_4 rfl rfl (fun h4 => ?_) (fun h4 => ?_)
  · refine qa_iconst (pc1 := 18) dX0_enrol_17 (v := 0) kc_i0 rfl ?_
    exact qa_iret dX0_enrol_18 rfl (by first | rfl | exact kw_bn) rfl rfl rfl rfl
  · refine qa_iload_n (pc1 := 8) dX0_enrol_7 rfl rfl rfl ?_
    refine qa_if_lt (tgt := 17) (pc1 := 11) dX0_enrol_8 rfl rfl (fun h8 => ?_) (fun h8 => ?_)
    · refine qa_iconst (pc1 := 18) dX0_enrol_17 (v := 0) kc_i0 rfl ?_
      exact qa_iret dX0_enrol_18 rfl (by first | rfl | exact kw_bn) rfl rfl rfl rfl
    · refine qa_iload_n (pc1 := 12) dX0_enrol_11 rfl rfl rfl ?_
      refine qa_bipush (pc1 := 14) dX0_enrol_12 (v := 6) kc_b6 rfl ?_
      refine qa_ic_le (tgt := 19) (pc1 := 17) dX0_enrol_14 rfl rfl (fun h14 => ?_) (fun h14 => ?_)
      · exact absurd ⟨h4, h8, h14⟩ hs
      · refine qa_iconst (pc1 := 18) dX0_enrol_17 (v := 0) kc_i0 rfl ?_
        exact qa_iret dX0_enrol_18 rfl (by first | rfl | exact kw_bn) rfl rfl rfl rfl
set_option maxRecDepth 20000 in
set_option maxHeartbeats 4000000 in
theorem ct_loginO1 (hps : kw_ps P) (s y u pw dr : Int32) (hs : ¬ vp_in s 2) : kw_C l D aC b yX0_login cX0_login 8 (some .int) 7 [.inr (.inl 1), .inl s, .inl y, .inl u, .inl pw, .inl dr] C M P (some (.inl (-1))) C M P := by
  refine ax_body (own := RX0) (ini := false) (by decide) rfl (fun h => by cases h) (Nat.le_of_ble_eq_true rfl) ?_
  refine qa_aload_n (pc1 := 1) dX0_login_0 rfl rfl rfl ?_
  refine qa_iload_n (pc1 := 2) dX0_login_1 rfl rfl rfl ?_
  refine qa_callVr (pc1 := 5) dX0_login_2 rfl (ct_ptO hps _ hs) wc_X0_64 wy_X0_pointAt rfl rfl (ci := k_rl) rfl ko_rl (by omega) rfl ?_
  refine qa_astore (pc1 := 7) dX0_login_5 (by decide) rfl ?_
  refine qa_aload_n (pc1 := 8) dX0_login_7 rfl rfl rfl ?_
  refine qa_iload_n (pc1 := 9) dX0_login_8 rfl rfl rfl ?_
  refine qa_iload_n (pc1 := 10) dX0_login_9 rfl rfl rfl ?_
  refine qa_callVr (pc1 := 13) dX0_login_10 rfl (ct_lnO1 hps _ _ hs) wc_X0_68 wy_X0_lineAt rfl rfl (ci := k_rl) rfl ko_rl (by omega) rfl ?_
  refine qa_astore (pc1 := 15) dX0_login_13 (by decide) rfl ?_
  refine qa_aload (pc1 := 17) dX0_login_15 rfl rfl ?_
  refine qt_ifnull (tgt := 40) dX0_login_17 rfl rfl ?_
  refine qa_iconst (pc1 := 41) dX0_login_40 (v := (-1)) kc_im1 rfl ?_
  exact qa_iret dX0_login_41 rfl (vp_nar_int _) rfl rfl rfl rfl
set_option maxRecDepth 20000 in
set_option maxHeartbeats 4000000 in
theorem ct_loginO2 (hps : kw_ps P) {p : Nat} (hp : p < 2) (y u pw dr : Int32) (hs : ¬ vp_in y 4) : kw_C l D aC b yX0_login cX0_login 8 (some .int) 7 [.inr (.inl 1), .inl (nI p), .inl y, .inl u, .inl pw, .inl dr] C M P (some (.inl (-1))) C M P := by
  refine ax_body (own := RX0) (ini := false) (by decide) rfl (fun h => by cases h) (Nat.le_of_ble_eq_true rfl) ?_
  refine qa_aload_n (pc1 := 1) dX0_login_0 rfl rfl rfl ?_
  refine qa_iload_n (pc1 := 2) dX0_login_1 rfl rfl rfl ?_
  refine qa_callVr (pc1 := 5) dX0_login_2 rfl (ct_ptI hps (by assumption)) wc_X0_64 wy_X0_pointAt rfl rfl (ci := k_rl) rfl ko_rl (by omega) rfl ?_
  refine qa_astore (pc1 := 7) dX0_login_5 (by decide) rfl ?_
  refine qa_aload_n (pc1 := 8) dX0_login_7 rfl rfl rfl ?_
  refine qa_iload_n (pc1 := 9) dX0_login_8 rfl rfl rfl ?_
  refine qa_iload_n (pc1 := 10) dX0_login_9 rfl rfl rfl ?_
  refine qa_callVr (pc1 := 13) dX0_login_10 rfl (ct_lnO2 hps (by assumption) _ hs) wc_X0_68 wy_X0_lineAt rfl rfl (ci := k_rl) rfl ko_rl (by omega) rfl ?_
  refine qa_astore (pc1 := 15) dX0_login_13 (by decide) rfl ?_
  refine qa_aload (pc1 := 17) dX0_login_15 rfl rfl ?_
  refine qf_ifnull (tgt := 40) (pc1 := 20) dX0_login_17 rfl rfl (by omega) ?_
  refine qa_aload (pc1 := 22) dX0_login_20 rfl rfl ?_
  refine qt_ifnull (tgt := 40) dX0_login_22 rfl rfl ?_
  refine qa_iconst (pc1 := 41) dX0_login_40 (v := (-1)) kc_im1 rfl ?_
  exact qa_iret dX0_login_41 rfl (vp_nar_int _) rfl rfl rfl rfl
set_option maxRecDepth 20000 in
set_option maxHeartbeats 4000000 in
theorem ct_loginO3 (hps : kw_ps P) {p i : Nat} (hp : p < 2) (hi : i < 4) (u pw dr : Int32) (hs : ¬ (xc_us u ∧ C (59 + 6 * p + i) 0 = 0)) : kw_C l D aC b yX0_login cX0_login 8 (some .int) 7 [.inr (.inl 1), .inl (nI p), .inl (nI i), .inl u, .inl pw, .inl dr] C M P (some (.inl (-1))) C M P := by
  refine ax_body (own := RX0) (ini := false) (by decide) rfl (fun h => by cases h) (Nat.le_of_ble_eq_true rfl) ?_
  refine qa_aload_n (pc1 := 1) dX0_login_0 rfl rfl rfl ?_
  refine qa_iload_n (pc1 := 2) dX0_login_1 rfl rfl rfl ?_
  refine qa_callVr (pc1 := 5) dX0_login_2 rfl (ct_ptI hps (by assumption)) wc_X0_64 wy_X0_pointAt rfl rfl (ci := k_rl) rfl ko_rl (by omega) rfl ?_
  refine qa_astore (pc1 := 7) dX0_login_5 (by decide) rfl ?_
  refine qa_aload_n (pc1 := 8) dX0_login_7 rfl rfl rfl ?_
  refine qa_iload_n (pc1 := 9) dX0_login_8 rfl rfl rfl ?_
  refine qa_iload_n (pc1 := 10) dX0_login_9 rfl rfl rfl ?_
  refine qa_callVr (pc1 := 13) dX0_login_10 rfl (ct_lnI hps (by assumption) (by assumption)) wc_X0_68 wy_X0_lineAt rfl rfl (ci := k_rl) rfl ko_rl (by omega) rfl ?_
  refine qa_astore (pc1 := 15) dX0_login_13 (by decide) rfl ?_
  refine qa_aload (pc1 := 17) dX0_login_15 rfl rfl ?_
  refine qf_ifnull (tgt := 40) (pc1 := 20) dX0_login_17 rfl rfl (by omega) ?_
  refine qa_aload (pc1 := 22) dX0_login_20 rfl rfl ?_
  refine qf_ifnull (tgt := 40) (pc1 := 25) dX0_login_22 rfl rfl (by omega) ?_
  refine qa_iload_n (pc1 := 26) dX0_login_25 rfl rfl rfl ?_
  refine qa_callSi (pc1 := 29) dX0_login_26 rfl (ct_isUser _) wc_X0_46 wy_X0_isUser rfl rfl rfl ?_
  refine qb_if_eq (tgt := 40) (pc1 := 32) dX0_login_29 rfl rfl (fun h29 => ?_) (fun h29 => ?_)
  · refine qa_iconst (pc1 := 41) dX0_login_40 (v := (-1)) kc_im1 rfl ?_
    exact qa_iret dX0_login_41 rfl (vp_nar_int _) rfl rfl rfl rfl
  · refine qa_aload (pc1 := 34) dX0_login_32 rfl rfl ?_
    refine qc_getI (pc1 := 37) dX0_login_34 rfl wf_X0_72 rfl (ko_ln _ (by assumption) _ (by assumption)) (by omega) (by omega) ?_
    refine qa_if_eq (tgt := 42) (pc1 := 40) dX0_login_37 rfl rfl (fun h37 => ?_) (fun h37 => ?_)
    · exact absurd ⟨h29, h37⟩ hs
    · refine qa_iconst (pc1 := 41) dX0_login_40 (v := (-1)) kc_im1 rfl ?_
      exact qa_iret dX0_login_41 rfl (vp_nar_int _) rfl rfl rfl rfl
set_option maxRecDepth 20000 in
set_option maxHeartbeats 4000000 in
theorem ct_loginI (hps : kw_ps P) (hk : xc_nok C) {p i : Nat} (hp : p < 2) (hi : i < 4) (u pw dr : Int32) (hu : xc_us u) (h0 : C (59 + 6 * p + i) 0 = 0) : kw_C l D aC b yX0_login cX0_login 8 (some .int) 7 [.inr (.inl 1), .inl (nI p), .inl (nI i), .inl u, .inl pw, .inl dr] C M P (some (.inl ((xc_mp (xc_lg1 C (59 + 6 * p + i) u pw) P p (59 + 6 * p + i) 1 dr) (59 + 6 * p + i) 2))) (xc_mp (xc_lg1 C (59 + 6 * p + i) u pw) P p (59 + 6 * p + i) 1 dr) M P := by
  refine ax_body (own := RX0) (ini := false) (by decide) rfl (fun h => by cases h) (Nat.le_of_ble_eq_true rfl) ?_
  refine qa_aload_n (pc1 := 1) dX0_login_0 rfl rfl rfl ?_
  refine qa_iload_n (pc1 := 2) dX0_login_1 rfl rfl rfl ?_
  refine qa_callVr (pc1 := 5) dX0_login_2 rfl (ct_ptI hps (by assumption)) wc_X0_64 wy_X0_pointAt rfl rfl (ci := k_rl) rfl ko_rl (by omega) rfl ?_
  refine qa_astore (pc1 := 7) dX0_login_5 (by decide) rfl ?_
  refine qa_aload_n (pc1 := 8) dX0_login_7 rfl rfl rfl ?_
  refine qa_iload_n (pc1 := 9) dX0_login_8 rfl rfl rfl ?_
  refine qa_iload_n (pc1 := 10) dX0_login_9 rfl rfl rfl ?_
  refine qa_callVr (pc1 := 13) dX0_login_10 rfl (ct_lnI hps (by assumption) (by assumption)) wc_X0_68 wy_X0_lineAt rfl rfl (ci := k_rl) rfl ko_rl (by omega) rfl ?_
  refine qa_astore (pc1 := 15) dX0_login_13 (by decide) rfl ?_
  refine qa_aload (pc1 := 17) dX0_login_15 rfl rfl ?_
  refine qf_ifnull (tgt := 40) (pc1 := 20) dX0_login_17 rfl rfl (by omega) ?_
  refine qa_aload (pc1 := 22) dX0_login_20 rfl rfl ?_
  refine qf_ifnull (tgt := 40) (pc1 := 25) dX0_login_22 rfl rfl (by omega) ?_
  refine qa_iload_n (pc1 := 26) dX0_login_25 rfl rfl rfl ?_
  refine qa_callSi (pc1 := 29) dX0_login_26 rfl (ct_isUser _) wc_X0_46 wy_X0_isUser rfl rfl rfl ?_
  refine qf_if_eq (tgt := 40) (pc1 := 32) dX0_login_29 rfl rfl (kw_b1.mpr hu) ?_
  refine qa_aload (pc1 := 34) dX0_login_32 rfl rfl ?_
  refine qc_getI (pc1 := 37) dX0_login_34 rfl wf_X0_72 rfl (ko_ln _ (by assumption) _ (by assumption)) (by omega) (by omega) ?_
  refine qt_if_eq (tgt := 42) dX0_login_37 rfl h0 ?_
  refine qa_aload (pc1 := 44) dX0_login_42 rfl rfl ?_
  refine qa_iload_n (pc1 := 45) dX0_login_44 rfl rfl rfl ?_
  refine qc_putI (pc1 := 48) dX0_login_45 rfl wp_X0_78 rfl rfl rfl (ko_ln _ (by assumption) _ (by assumption)) (by omega) (by omega) ?_
  refine qa_aload (pc1 := 50) dX0_login_48 rfl rfl ?_
  refine qa_iload (pc1 := 52) dX0_login_50 rfl rfl ?_
  refine qc_putI (pc1 := 55) dX0_login_52 rfl wp_X0_81 rfl rfl rfl (ko_ln _ (by assumption) _ (by assumption)) (by omega) (by omega) ?_
  refine qa_aload (pc1 := 57) dX0_login_55 rfl rfl ?_
  refine qa_iconst (pc1 := 58) dX0_login_57 (v := 0) kc_i0 rfl ?_
  refine qc_putI (pc1 := 61) dX0_login_58 rfl wp_X0_84 rfl rfl rfl (ko_ln _ (by assumption) _ (by assumption)) (by omega) (by omega) ?_
  refine qa_aload (pc1 := 63) dX0_login_61 rfl rfl ?_
  refine qa_aload (pc1 := 65) dX0_login_63 rfl rfl ?_
  refine qa_iconst (pc1 := 66) dX0_login_65 (v := 1) kc_i1 rfl ?_
  refine qa_iload (pc1 := 68) dX0_login_66 rfl rfl ?_
  refine qa_aload_n (pc1 := 69) dX0_login_68 rfl rfl rfl ?_
  refine qa_getP (pc1 := 72) dX0_login_69 rfl wf_X0_10 rfl ko_rl (by omega) (kp_net hps) ?_
  refine qa_callVi (pc1 := 75) dX0_login_72 rfl (ct_makePending (C := xc_lg1 C (59 + 6 * p + i) u pw) hps (xc_lg1_ok hk) hp hi _ _) wc_X0_87 wy_X7_makePending rfl rfl (ci := k_pt) rfl (ko_pt _ (by assumption)) (by omega) rfl ?_
  exact qa_iret dX0_login_75 rfl (vp_nar_int _) rfl rfl rfl rfl
set_option maxRecDepth 20000 in
set_option maxHeartbeats 4000000 in
theorem ct_logoutO1 (hps : kw_ps P) (s y dr : Int32) (hs : ¬ vp_in s 2) : kw_C l D aC b yX0_logout cX0_logout 6 (some .int) 7 [.inr (.inl 1), .inl s, .inl y, .inl dr] C M P (some (.inl (-1))) C M P := by
  refine ax_body (own := RX0) (ini := false) (by decide) rfl (fun h => by cases h) (Nat.le_of_ble_eq_true rfl) ?_
  refine qa_aload_n (pc1 := 1) dX0_logout_0 rfl rfl rfl ?_
  refine qa_iload_n (pc1 := 2) dX0_logout_1 rfl rfl rfl ?_
  refine qa_callVr (pc1 := 5) dX0_logout_2 rfl (ct_ptO hps _ hs) wc_X0_64 wy_X0_pointAt rfl rfl (ci := k_rl) rfl ko_rl (by omega) rfl ?_
  refine qa_astore (pc1 := 7) dX0_logout_5 (by decide) rfl ?_
  refine qa_aload_n (pc1 := 8) dX0_logout_7 rfl rfl rfl ?_
  refine qa_iload_n (pc1 := 9) dX0_logout_8 rfl rfl rfl ?_
  refine qa_iload_n (pc1 := 10) dX0_logout_9 rfl rfl rfl ?_
  refine qa_callVr (pc1 := 13) dX0_logout_10 rfl (ct_lnO1 hps _ _ hs) wc_X0_68 wy_X0_lineAt rfl rfl (ci := k_rl) rfl ko_rl (by omega) rfl ?_
  refine qa_astore (pc1 := 15) dX0_logout_13 (by decide) rfl ?_
  refine qa_aload (pc1 := 17) dX0_logout_15 rfl rfl ?_
  refine qt_ifnull (tgt := 34) dX0_logout_17 rfl rfl ?_
  refine qa_iconst (pc1 := 35) dX0_logout_34 (v := (-1)) kc_im1 rfl ?_
  exact qa_iret dX0_logout_35 rfl (vp_nar_int _) rfl rfl rfl rfl
set_option maxRecDepth 20000 in
set_option maxHeartbeats 4000000 in
theorem ct_logoutO2 (hps : kw_ps P) {p : Nat} (hp : p < 2) (y dr : Int32) (hs : ¬ vp_in y 4) : kw_C l D aC b yX0_logout cX0_logout 6 (some .int) 7 [.inr (.inl 1), .inl (nI p), .inl y, .inl dr] C M P (some (.inl (-1))) C M P := by
  refine ax_body (own := RX0) (ini := false) (by decide) rfl (fun h => by cases h) (Nat.le_of_ble_eq_true rfl) ?_
  refine qa_aload_n (pc1 := 1) dX0_logout_0 rfl rfl rfl ?_
  refine qa_iload_n (pc1 := 2) dX0_logout_1 rfl rfl rfl ?_
  refine qa_callVr (pc1 := 5) dX0_logout_2 rfl (ct_ptI hps (by assumption)) wc_X0_64 wy_X0_pointAt rfl rfl (ci := k_rl) rfl ko_rl (by omega) rfl ?_
  refine qa_astore (pc1 := 7) dX0_logout_5 (by decide) rfl ?_
  refine qa_aload_n (pc1 := 8) dX0_logout_7 rfl rfl rfl ?_
  refine qa_iload_n (pc1 := 9) dX0_logout_8 rfl rfl rfl ?_
  refine qa_iload_n (pc1 := 10) dX0_logout_9 rfl rfl rfl ?_
  refine qa_callVr (pc1 := 13) dX0_logout_10 rfl (ct_lnO2 hps (by assumption) _ hs) wc_X0_68 wy_X0_lineAt rfl rfl (ci := k_rl) rfl ko_rl (by omega) rfl ?_
  refine qa_astore (pc1 := 15) dX0_logout_13 (by decide) rfl ?_
  refine qa_aload (pc1 := 17) dX0_logout_15 rfl rfl ?_
  refine qf_ifnull (tgt := 34) (pc1 := 20) dX0_logout_17 rfl rfl (by omega) ?_
  refine qa_aload (pc1 := 22) dX0_logout_20 rfl rfl ?_
  refine qt_ifnull (tgt := 34) dX0_logout_22 rfl rfl ?_
  refine qa_iconst (pc1 := 35) dX0_logout_34 (v := (-1)) kc_im1 rfl ?_
  exact qa_iret dX0_logout_35 rfl (vp_nar_int _) rfl rfl rfl rfl
set_option maxRecDepth 20000 in
set_option maxHeartbeats 4000000 in
theorem ct_logoutO3 (hps : kw_ps P) {p i : Nat} (hp : p < 2) (hi : i < 4) (dr : Int32) (hs : ¬ C (59 + 6 * p + i) 0 = 2) : kw_C l D aC b yX0_logout cX0_logout 6 (some .int) 7 [.inr (.inl 1), .inl (nI p), .inl (nI i), .inl dr] C M P (some (.inl (-1))) C M P := by
  refine ax_body (own := RX0) (ini := false) (by decide) rfl (fun h => by cases h) (Nat.le_of_ble_eq_true rfl) ?_
  refine qa_aload_n (pc1 := 1) dX0_logout_0 rfl rfl rfl ?_
  refine qa_iload_n (pc1 := 2) dX0_logout_1 rfl rfl rfl ?_
  refine qa_callVr (pc1 := 5) dX0_logout_2 rfl (ct_ptI hps (by assumption)) wc_X0_64 wy_X0_pointAt rfl rfl (ci := k_rl) rfl ko_rl (by omega) rfl ?_
  refine qa_astore (pc1 := 7) dX0_logout_5 (by decide) rfl ?_
  refine qa_aload_n (pc1 := 8) dX0_logout_7 rfl rfl rfl ?_
  refine qa_iload_n (pc1 := 9) dX0_logout_8 rfl rfl rfl ?_
  refine qa_iload_n (pc1 := 10) dX0_logout_9 rfl rfl rfl ?_
  refine qa_callVr (pc1 := 13) dX0_logout_10 rfl (ct_lnI hps (by assumption) (by assumption)) wc_X0_68 wy_X0_lineAt rfl rfl (ci := k_rl) rfl ko_rl (by omega) rfl ?_
  refine qa_astore (pc1 := 15) dX0_logout_13 (by decide) rfl ?_
  refine qa_aload (pc1 := 17) dX0_logout_15 rfl rfl ?_
  refine qf_ifnull (tgt := 34) (pc1 := 20) dX0_logout_17 rfl rfl (by omega) ?_
  refine qa_aload (pc1 := 22) dX0_logout_20 rfl rfl ?_
  refine qf_ifnull (tgt := 34) (pc1 := 25) dX0_logout_22 rfl rfl (by omega) ?_
  refine qa_aload (pc1 := 27) dX0_logout_25 rfl rfl ?_
  refine qc_getI (pc1 := 30) dX0_logout_27 rfl wf_X0_72 rfl (ko_ln _ (by assumption) _ (by assumption)) (by omega) (by omega) ?_
  refine qa_iconst (pc1 := 31) dX0_logout_30 (v := 2) kc_i2 rfl ?_
  refine qf_ic_eq (tgt := 36) (pc1 := 34) dX0_logout_31 rfl rfl hs ?_
  refine qa_iconst (pc1 := 35) dX0_logout_34 (v := (-1)) kc_im1 rfl ?_
  exact qa_iret dX0_logout_35 rfl (vp_nar_int _) rfl rfl rfl rfl
set_option maxRecDepth 20000 in
set_option maxHeartbeats 4000000 in
theorem ct_logoutI (hps : kw_ps P) (hk : xc_nok C) {p i : Nat} (hp : p < 2) (hi : i < 4) (dr : Int32) (h2 : C (59 + 6 * p + i) 0 = 2) : kw_C l D aC b yX0_logout cX0_logout 6 (some .int) 7 [.inr (.inl 1), .inl (nI p), .inl (nI i), .inl dr] C M P (some (.inl ((xc_mp C P p (59 + 6 * p + i) 3 dr) (59 + 6 * p + i) 2))) (xc_mp C P p (59 + 6 * p + i) 3 dr) M P := by
  refine ax_body (own := RX0) (ini := false) (by decide) rfl (fun h => by cases h) (Nat.le_of_ble_eq_true rfl) ?_
  refine qa_aload_n (pc1 := 1) dX0_logout_0 rfl rfl rfl ?_
  refine qa_iload_n (pc1 := 2) dX0_logout_1 rfl rfl rfl ?_
  refine qa_callVr (pc1 := 5) dX0_logout_2 rfl (ct_ptI hps (by assumption)) wc_X0_64 wy_X0_pointAt rfl rfl (ci := k_rl) rfl ko_rl (by omega) rfl ?_
  refine qa_astore (pc1 := 7) dX0_logout_5 (by decide) rfl ?_
  refine qa_aload_n (pc1 := 8) dX0_logout_7 rfl rfl rfl ?_
  refine qa_iload_n (pc1 := 9) dX0_logout_8 rfl rfl rfl ?_
  refine qa_iload_n (pc1 := 10) dX0_logout_9 rfl rfl rfl ?_
  refine qa_callVr (pc1 := 13) dX0_logout_10 rfl (ct_lnI hps (by assumption) (by assumption)) wc_X0_68 wy_X0_lineAt rfl rfl (ci := k_rl) rfl ko_rl (by omega) rfl ?_
  refine qa_astore (pc1 := 15) dX0_logout_13 (by decide) rfl ?_
  refine qa_aload (pc1 := 17) dX0_logout_15 rfl rfl ?_
  refine qf_ifnull (tgt := 34) (pc1 := 20) dX0_logout_17 rfl rfl (by omega) ?_
  refine qa_aload (pc1 := 22) dX0_logout_20 rfl rfl ?_
  refine qf_ifnull (tgt := 34) (pc1 := 25) dX0_logout_22 rfl rfl (by omega) ?_
  refine qa_aload (pc1 := 27) dX0_logout_25 rfl rfl ?_
  refine qc_getI (pc1 := 30) dX0_logout_27 rfl wf_X0_72 rfl (ko_ln _ (by assumption) _ (by assumption)) (by omega) (by omega) ?_
  refine qa_iconst (pc1 := 31) dX0_logout_30 (v := 2) kc_i2 rfl ?_
  refine qt_ic_eq (tgt := 36) dX0_logout_31 rfl h2 ?_
  refine qa_aload (pc1 := 38) dX0_logout_36 rfl rfl ?_
  refine qa_aload (pc1 := 40) dX0_logout_38 rfl rfl ?_
  refine qa_iconst (pc1 := 41) dX0_logout_40 (v := 3) kc_i3 rfl ?_
  refine qa_iload_n (pc1 := 42) dX0_logout_41 rfl rfl rfl ?_
  refine qa_aload_n (pc1 := 43) dX0_logout_42 rfl rfl rfl ?_
  refine qa_getP (pc1 := 46) dX0_logout_43 rfl wf_X0_10 rfl ko_rl (by omega) (kp_net hps) ?_
  refine qa_callVi (pc1 := 49) dX0_logout_46 rfl (ct_makePending hps hk hp hi _ _) wc_X0_87 wy_X7_makePending rfl rfl (ci := k_pt) rfl (ko_pt _ (by assumption)) (by omega) rfl ?_
  exact qa_iret dX0_logout_49 rfl (vp_nar_int _) rfl rfl rfl rfl
set_option maxRecDepth 20000 in
set_option maxHeartbeats 4000000 in
theorem ct_dlvO (hps : kw_ps P) (s : Int32) (hs : ¬ (¬ s < 0 ∧ ¬ C 2 3 ≤ s)) : kw_C l D aC b yX0_deliver cX0_deliver 6 (some .int) 8 [.inr (.inl 1), .inl s] C M P (some (.inl (-1))) C M P := by
  refine ax_body (own := RX0) (ini := false) (by decide) rfl (fun h => by cases h) (Nat.le_of_ble_eq_true rfl) ?_
  refine qa_aload_n (pc1 := 1) dX0_deliver_0 rfl rfl rfl ?_
  refine qa_getP (pc1 := 4) dX0_deliver_1 rfl wf_X0_10 rfl ko_rl (by omega) (kp_net hps) ?_
  refine qa_iload_n (pc1 := 5) dX0_deliver_4 rfl rfl rfl ?_
  refine qa_callVi (pc1 := 8) dX0_deliver_5 rfl (ct_isPlace _) wc_X0_91 wy_X6_isPlace rfl rfl (ci := k_net) rfl ko_net (by omega) rfl ?_
  refine qf_if_ne (tgt := 13) (pc1 := 11) dX0_deliver_8 rfl rfl (kw_bf hs) ?_
  refine qa_iconst (pc1 := 12) dX0_deliver_11 (v := (-1)) kc_im1 rfl ?_
  exact qa_iret dX0_deliver_12 rfl (vp_nar_int _) rfl rfl rfl rfl
set_option maxRecDepth 20000 in
set_option maxHeartbeats 4000000 in
theorem ct_dlvP (hps : kw_ps P) {kk n : Nat} (hkn : kk < n) (hn : n ≤ 24) (hc : C 2 3 = nI n) {p : Nat} (hp : p < 2) {v : Int32} {C1 : ax_I} (hrc : C (P 5 kk + 1) 7 = nI p) (hM : kw_C l D aC b yX7_hear cX7_hear 6 (some .int) 4 [.inr (.inl (57 + 6 * p)), .inr (.inl (P 5 kk)), .inr (.inl 2)] (ax_u C 2 3 (nI (n - 1))) M (xc_take P kk n) (some (.inl v)) C1 M (xc_take P kk n)) : kw_C l D aC b yX0_deliver cX0_deliver 6 (some .int) 8 [.inr (.inl 1), .inl (nI kk)] C M P (some (.inl v)) C1 M (xc_take P kk n) := by
  refine ax_body (own := RX0) (ini := false) (by decide) rfl (fun h => by cases h) (Nat.le_of_ble_eq_true rfl) ?_
  have hdg : kw_dg (P 5 kk) := kp_fd hps (by omega)
  have hq1 := hdg.2.2
  have hq0 := hdg.2.1
  refine qa_aload_n (pc1 := 1) dX0_deliver_0 rfl rfl rfl ?_
  refine qa_getP (pc1 := 4) dX0_deliver_1 rfl wf_X0_10 rfl ko_rl (by omega) (kp_net hps) ?_
  refine qa_iload_n (pc1 := 5) dX0_deliver_4 rfl rfl rfl ?_
  refine qa_callVi (pc1 := 8) dX0_deliver_5 rfl (ct_isPlace _) wc_X0_91 wy_X6_isPlace rfl rfl (ci := k_net) rfl ko_net (by omega) rfl ?_
  refine qt_if_ne (tgt := 13) dX0_deliver_8 rfl (kw_b1.mpr (show ¬ nI kk < 0 ∧ ¬ C 2 3 ≤ nI kk from ⟨nI_pos (by omega), by rw [hc]; exact nI_ge hkn (by omega)⟩)) ?_
  refine qa_aload_n (pc1 := 14) dX0_deliver_13 rfl rfl rfl ?_
  refine qa_getP (pc1 := 17) dX0_deliver_14 rfl wf_X0_10 rfl ko_rl (by omega) (kp_net hps) ?_
  refine qa_iload_n (pc1 := 18) dX0_deliver_17 rfl rfl rfl ?_
  refine qa_callVr (pc1 := 21) dX0_deliver_18 rfl (ct_takeOut hps hkn hn hc) wc_X0_94 wy_X6_takeOut rfl rfl (ci := k_net) rfl ko_net (by omega) rfl ?_
  have hps := xc_take_ps hps hkn hn
  refine qa_astore_n (pc1 := 22) dX0_deliver_21 rfl (by decide) rfl ?_
  refine qa_aload_n (pc1 := 23) dX0_deliver_22 rfl rfl rfl ?_
  refine qa_getP (pc1 := 26) dX0_deliver_23 rfl wf_X0_98 rfl (ko_dg _ (by assumption)) (by omega) (kp_pa hps (by assumption)) ?_
  refine qa_bipush (pc1 := 28) dX0_deliver_26 (v := (nI 7)) kc_b7N rfl ?_
  refine qc_iald (pc1 := 29) dX0_deliver_28 rfl (ka_pa _ (by assumption)) rfl (by omega) (by omega) (by decide) ?_
  refine qa_top (show _ = nI p from by rw [ax_u_n (by omega)]; exact hrc) ?_
  refine qa_istore_n (pc1 := 30) dX0_deliver_29 rfl (by decide) rfl ?_
  refine qa_aload_n (pc1 := 31) dX0_deliver_30 rfl rfl rfl ?_
  refine qa_iload_n (pc1 := 32) dX0_deliver_31 rfl rfl rfl ?_
  refine qa_callVr (pc1 := 35) dX0_deliver_32 rfl (ct_ptI hps hp) wc_X0_64 wy_X0_pointAt rfl rfl (ci := k_rl) rfl ko_rl (by omega) rfl ?_
  refine qa_astore (pc1 := 37) dX0_deliver_35 (by decide) rfl ?_
  refine qa_aload (pc1 := 39) dX0_deliver_37 rfl rfl ?_
  refine qf_ifnull (tgt := 53) (pc1 := 42) dX0_deliver_39 rfl rfl (by omega) ?_
  refine qa_aload (pc1 := 44) dX0_deliver_42 rfl rfl ?_
  refine qa_aload_n (pc1 := 45) dX0_deliver_44 rfl rfl rfl ?_
  refine qa_aload_n (pc1 := 46) dX0_deliver_45 rfl rfl rfl ?_
  refine qa_getP (pc1 := 49) dX0_deliver_46 rfl wf_X0_10 rfl ko_rl (by omega) (kp_net hps) ?_
  refine qa_callVi (pc1 := 52) dX0_deliver_49 rfl hM wc_X0_103 wy_X7_hear rfl rfl (ci := k_pt) rfl (ko_pt _ (by assumption)) (by omega) rfl ?_
  exact qa_iret dX0_deliver_52 rfl (vp_nar_int _) rfl rfl rfl rfl
set_option maxRecDepth 20000 in
set_option maxHeartbeats 4000000 in
theorem ct_dlvH (hps : kw_ps P) {kk n : Nat} (hkn : kk < n) (hn : n ≤ 24) (hc : C 2 3 = nI n) {h : Nat} (hh : h < 2) {v : Int32} {C1 : ax_I} (hrc : C (P 5 kk + 1) 7 = nI (3 + h)) (hM : kw_C l D aC b yX3_hear cX3_hear 6 (some .int) 7 [.inr (.inl (80 + 48 * h)), .inr (.inl (P 5 kk)), .inr (.inl 2)] (ax_u C 2 3 (nI (n - 1))) M (xc_take P kk n) (some (.inl v)) C1 M (xc_take P kk n)) : kw_C l D aC b yX0_deliver cX0_deliver 6 (some .int) 8 [.inr (.inl 1), .inl (nI kk)] C M P (some (.inl v)) C1 M (xc_take P kk n) := by
  refine ax_body (own := RX0) (ini := false) (by decide) rfl (fun h => by cases h) (Nat.le_of_ble_eq_true rfl) ?_
  have hdg : kw_dg (P 5 kk) := kp_fd hps (by omega)
  have hq1 := hdg.2.2
  have hq0 := hdg.2.1
  refine qa_aload_n (pc1 := 1) dX0_deliver_0 rfl rfl rfl ?_
  refine qa_getP (pc1 := 4) dX0_deliver_1 rfl wf_X0_10 rfl ko_rl (by omega) (kp_net hps) ?_
  refine qa_iload_n (pc1 := 5) dX0_deliver_4 rfl rfl rfl ?_
  refine qa_callVi (pc1 := 8) dX0_deliver_5 rfl (ct_isPlace _) wc_X0_91 wy_X6_isPlace rfl rfl (ci := k_net) rfl ko_net (by omega) rfl ?_
  refine qt_if_ne (tgt := 13) dX0_deliver_8 rfl (kw_b1.mpr (show ¬ nI kk < 0 ∧ ¬ C 2 3 ≤ nI kk from ⟨nI_pos (by omega), by rw [hc]; exact nI_ge hkn (by omega)⟩)) ?_
  refine qa_aload_n (pc1 := 14) dX0_deliver_13 rfl rfl rfl ?_
  refine qa_getP (pc1 := 17) dX0_deliver_14 rfl wf_X0_10 rfl ko_rl (by omega) (kp_net hps) ?_
  refine qa_iload_n (pc1 := 18) dX0_deliver_17 rfl rfl rfl ?_
  refine qa_callVr (pc1 := 21) dX0_deliver_18 rfl (ct_takeOut hps hkn hn hc) wc_X0_94 wy_X6_takeOut rfl rfl (ci := k_net) rfl ko_net (by omega) rfl ?_
  have hps := xc_take_ps hps hkn hn
  refine qa_astore_n (pc1 := 22) dX0_deliver_21 rfl (by decide) rfl ?_
  refine qa_aload_n (pc1 := 23) dX0_deliver_22 rfl rfl rfl ?_
  refine qa_getP (pc1 := 26) dX0_deliver_23 rfl wf_X0_98 rfl (ko_dg _ (by assumption)) (by omega) (kp_pa hps (by assumption)) ?_
  refine qa_bipush (pc1 := 28) dX0_deliver_26 (v := (nI 7)) kc_b7N rfl ?_
  refine qc_iald (pc1 := 29) dX0_deliver_28 rfl (ka_pa _ (by assumption)) rfl (by omega) (by omega) (by decide) ?_
  refine qa_top (show _ = nI (3 + h) from by rw [ax_u_n (by omega)]; exact hrc) ?_
  refine qa_istore_n (pc1 := 30) dX0_deliver_29 rfl (by decide) rfl ?_
  refine qa_aload_n (pc1 := 31) dX0_deliver_30 rfl rfl rfl ?_
  refine qa_iload_n (pc1 := 32) dX0_deliver_31 rfl rfl rfl ?_
  refine qa_callVr (pc1 := 35) dX0_deliver_32 rfl (ct_ptO hps _ (by unfold vp_in; rw [nI_clamp (by omega)]; omega)) wc_X0_64 wy_X0_pointAt rfl rfl (ci := k_rl) rfl ko_rl (by omega) rfl ?_
  refine qa_astore (pc1 := 37) dX0_deliver_35 (by decide) rfl ?_
  refine qa_aload (pc1 := 39) dX0_deliver_37 rfl rfl ?_
  refine qt_ifnull (tgt := 53) dX0_deliver_39 rfl rfl ?_
  refine qa_aload_n (pc1 := 54) dX0_deliver_53 rfl rfl rfl ?_
  refine qa_iload_n (pc1 := 55) dX0_deliver_54 rfl rfl rfl ?_
  refine qa_callVr (pc1 := 58) dX0_deliver_55 rfl (ct_hmI hps hh) wc_X0_54 wy_X0_homeAt rfl rfl (ci := k_rl) rfl ko_rl (by omega) rfl ?_
  refine qa_astore (pc1 := 60) dX0_deliver_58 (by decide) rfl ?_
  refine qa_aload (pc1 := 62) dX0_deliver_60 rfl rfl ?_
  refine qf_ifnull (tgt := 76) (pc1 := 65) dX0_deliver_62 rfl rfl (by omega) ?_
  refine qa_aload (pc1 := 67) dX0_deliver_65 rfl rfl ?_
  refine qa_aload_n (pc1 := 68) dX0_deliver_67 rfl rfl rfl ?_
  refine qa_aload_n (pc1 := 69) dX0_deliver_68 rfl rfl rfl ?_
  refine qa_getP (pc1 := 72) dX0_deliver_69 rfl wf_X0_10 rfl ko_rl (by omega) (kp_net hps) ?_
  refine qa_callVi (pc1 := 75) dX0_deliver_72 rfl hM wc_X0_107 wy_X3_hear rfl rfl (ci := k_hm) rfl (ko_hm _ (by assumption)) (by omega) rfl ?_
  exact qa_iret dX0_deliver_75 rfl (vp_nar_int _) rfl rfl rfl rfl
set_option maxRecDepth 20000 in
set_option maxHeartbeats 4000000 in
theorem ct_dlvR (hps : kw_ps P) {kk n : Nat} (hkn : kk < n) (hn : n ≤ 24) (hc : C 2 3 = nI n)  {v : Int32} {C1 : ax_I} (hrc : C (P 5 kk + 1) 7 = 2) (hM : kw_C l D aC b yX8_hear cX8_hear 4 (some .int) 7 [.inr (.inl 69), .inr (.inl (P 5 kk)), .inr (.inl 2)] (ax_u C 2 3 (nI (n - 1))) M (xc_take P kk n) (some (.inl v)) C1 M (xc_take P kk n)) : kw_C l D aC b yX0_deliver cX0_deliver 6 (some .int) 8 [.inr (.inl 1), .inl (nI kk)] C M P (some (.inl v)) C1 M (xc_take P kk n) := by
  refine ax_body (own := RX0) (ini := false) (by decide) rfl (fun h => by cases h) (Nat.le_of_ble_eq_true rfl) ?_
  have hdg : kw_dg (P 5 kk) := kp_fd hps (by omega)
  have hq1 := hdg.2.2
  have hq0 := hdg.2.1
  refine qa_aload_n (pc1 := 1) dX0_deliver_0 rfl rfl rfl ?_
  refine qa_getP (pc1 := 4) dX0_deliver_1 rfl wf_X0_10 rfl ko_rl (by omega) (kp_net hps) ?_
  refine qa_iload_n (pc1 := 5) dX0_deliver_4 rfl rfl rfl ?_
  refine qa_callVi (pc1 := 8) dX0_deliver_5 rfl (ct_isPlace _) wc_X0_91 wy_X6_isPlace rfl rfl (ci := k_net) rfl ko_net (by omega) rfl ?_
  refine qt_if_ne (tgt := 13) dX0_deliver_8 rfl (kw_b1.mpr (show ¬ nI kk < 0 ∧ ¬ C 2 3 ≤ nI kk from ⟨nI_pos (by omega), by rw [hc]; exact nI_ge hkn (by omega)⟩)) ?_
  refine qa_aload_n (pc1 := 14) dX0_deliver_13 rfl rfl rfl ?_
  refine qa_getP (pc1 := 17) dX0_deliver_14 rfl wf_X0_10 rfl ko_rl (by omega) (kp_net hps) ?_
  refine qa_iload_n (pc1 := 18) dX0_deliver_17 rfl rfl rfl ?_
  refine qa_callVr (pc1 := 21) dX0_deliver_18 rfl (ct_takeOut hps hkn hn hc) wc_X0_94 wy_X6_takeOut rfl rfl (ci := k_net) rfl ko_net (by omega) rfl ?_
  have hps := xc_take_ps hps hkn hn
  refine qa_astore_n (pc1 := 22) dX0_deliver_21 rfl (by decide) rfl ?_
  refine qa_aload_n (pc1 := 23) dX0_deliver_22 rfl rfl rfl ?_
  refine qa_getP (pc1 := 26) dX0_deliver_23 rfl wf_X0_98 rfl (ko_dg _ (by assumption)) (by omega) (kp_pa hps (by assumption)) ?_
  refine qa_bipush (pc1 := 28) dX0_deliver_26 (v := (nI 7)) kc_b7N rfl ?_
  refine qc_iald (pc1 := 29) dX0_deliver_28 rfl (ka_pa _ (by assumption)) rfl (by omega) (by omega) (by decide) ?_
  refine qa_top (show _ = 2 from by rw [ax_u_n (by omega)]; exact hrc) ?_
  refine qa_istore_n (pc1 := 30) dX0_deliver_29 rfl (by decide) rfl ?_
  refine qa_aload_n (pc1 := 31) dX0_deliver_30 rfl rfl rfl ?_
  refine qa_iload_n (pc1 := 32) dX0_deliver_31 rfl rfl rfl ?_
  refine qa_callVr (pc1 := 35) dX0_deliver_32 rfl (ct_ptO hps _ (by unfold vp_in; decide)) wc_X0_64 wy_X0_pointAt rfl rfl (ci := k_rl) rfl ko_rl (by omega) rfl ?_
  refine qa_astore (pc1 := 37) dX0_deliver_35 (by decide) rfl ?_
  refine qa_aload (pc1 := 39) dX0_deliver_37 rfl rfl ?_
  refine qt_ifnull (tgt := 53) dX0_deliver_39 rfl rfl ?_
  refine qa_aload_n (pc1 := 54) dX0_deliver_53 rfl rfl rfl ?_
  refine qa_iload_n (pc1 := 55) dX0_deliver_54 rfl rfl rfl ?_
  refine qa_callVr (pc1 := 58) dX0_deliver_55 rfl (ct_hmO hps _ (by decide)) wc_X0_54 wy_X0_homeAt rfl rfl (ci := k_rl) rfl ko_rl (by omega) rfl ?_
  refine qa_astore (pc1 := 60) dX0_deliver_58 (by decide) rfl ?_
  refine qa_aload (pc1 := 62) dX0_deliver_60 rfl rfl ?_
  refine qt_ifnull (tgt := 76) dX0_deliver_62 rfl rfl ?_
  refine qa_aload_n (pc1 := 77) dX0_deliver_76 rfl rfl rfl ?_
  refine qa_getP (pc1 := 80) dX0_deliver_77 rfl wf_X0_28 rfl ko_rl (by omega) (kp_rel hps) ?_
  refine qa_aload_n (pc1 := 81) dX0_deliver_80 rfl rfl rfl ?_
  refine qa_aload_n (pc1 := 82) dX0_deliver_81 rfl rfl rfl ?_
  refine qa_getP (pc1 := 85) dX0_deliver_82 rfl wf_X0_10 rfl ko_rl (by omega) (kp_net hps) ?_
  refine qa_callVi (pc1 := 88) dX0_deliver_85 rfl hM wc_X0_108 wy_X8_hear rfl rfl (ci := k_rel) rfl ko_rel (by omega) rfl ?_
  exact qa_iret dX0_deliver_88 rfl (vp_nar_int _) rfl rfl rfl rfl
set_option maxRecDepth 20000 in
set_option maxHeartbeats 4000000 in
theorem ct_loseO (hps : kw_ps P) (s : Int32) (hs : ¬ (¬ s < 0 ∧ ¬ C 2 3 ≤ s)) : kw_C l D aC b yX0_lose cX0_lose 2 (some .boolean) 2 [.inr (.inl 1), .inl s] C M P (some (.inl 0)) C M P := by
  refine ax_body (own := RX0) (ini := false) (by decide) rfl (fun h => by cases h) (Nat.le_of_ble_eq_true rfl) ?_
  refine qa_aload_n (pc1 := 1) dX0_lose_0 rfl rfl rfl ?_
  refine qa_getP (pc1 := 4) dX0_lose_1 rfl wf_X0_10 rfl ko_rl (by omega) (kp_net hps) ?_
  refine qa_iload_n (pc1 := 5) dX0_lose_4 rfl rfl rfl ?_
  refine qa_callVi (pc1 := 8) dX0_lose_5 rfl (ct_isPlace _) wc_X0_91 wy_X6_isPlace rfl rfl (ci := k_net) rfl ko_net (by omega) rfl ?_
  refine qf_if_ne (tgt := 13) (pc1 := 11) dX0_lose_8 rfl rfl (kw_bf hs) ?_
  refine qa_iconst (pc1 := 12) dX0_lose_11 (v := 0) kc_i0 rfl ?_
  exact qa_iret dX0_lose_12 rfl (by first | rfl | exact kw_bn) rfl rfl rfl rfl
set_option maxRecDepth 20000 in
set_option maxHeartbeats 4000000 in
theorem ct_loseI (hps : kw_ps P) {kk n : Nat} (hkn : kk < n) (hn : n ≤ 24) (hc : C 2 3 = nI n) : kw_C l D aC b yX0_lose cX0_lose 2 (some .boolean) 2 [.inr (.inl 1), .inl (nI kk)] C M P (some (.inl 1)) (ax_u C 2 3 (nI (n - 1))) M (xc_take P kk n) := by
  refine ax_body (own := RX0) (ini := false) (by decide) rfl (fun h => by cases h) (Nat.le_of_ble_eq_true rfl) ?_
  refine qa_aload_n (pc1 := 1) dX0_lose_0 rfl rfl rfl ?_
  refine qa_getP (pc1 := 4) dX0_lose_1 rfl wf_X0_10 rfl ko_rl (by omega) (kp_net hps) ?_
  refine qa_iload_n (pc1 := 5) dX0_lose_4 rfl rfl rfl ?_
  refine qa_callVi (pc1 := 8) dX0_lose_5 rfl (ct_isPlace _) wc_X0_91 wy_X6_isPlace rfl rfl (ci := k_net) rfl ko_net (by omega) rfl ?_
  refine qt_if_ne (tgt := 13) dX0_lose_8 rfl (kw_b1.mpr (show ¬ nI kk < 0 ∧ ¬ C 2 3 ≤ nI kk from ⟨nI_pos (by omega), by rw [hc]; exact nI_ge hkn (by omega)⟩)) ?_
  refine qa_aload_n (pc1 := 14) dX0_lose_13 rfl rfl rfl ?_
  refine qa_getP (pc1 := 17) dX0_lose_14 rfl wf_X0_10 rfl ko_rl (by omega) (kp_net hps) ?_
  refine qa_iload_n (pc1 := 18) dX0_lose_17 rfl rfl rfl ?_
  refine qa_callVr (pc1 := 21) dX0_lose_18 rfl (ct_takeOut hps hkn hn hc) wc_X0_94 wy_X6_takeOut rfl rfl (ci := k_net) rfl ko_net (by omega) rfl ?_
  refine qa_pop (pc1 := 22) dX0_lose_21 rfl ?_
  refine qa_iconst (pc1 := 23) dX0_lose_22 (v := 1) kc_i1 rfl ?_
  exact qa_iret dX0_lose_23 rfl (by first | rfl | exact kw_bn) rfl rfl rfl rfl
set_option maxRecDepth 20000 in
set_option maxHeartbeats 4000000 in
theorem ct_forgeO (hps : kw_ps P) (s f v : Int32) (hs : ¬ ((¬ s < 0 ∧ ¬ C 2 3 ≤ s) ∧ ¬ f < 0 ∧ f < 6)) : kw_C l D aC b yX0_forge cX0_forge 4 (some .boolean) 2 [.inr (.inl 1), .inl s, .inl f, .inl v] C M P (some (.inl 0)) C M P := by
  refine ax_body (own := RX0) (ini := false) (by decide) rfl (fun h => by cases h) (Nat.le_of_ble_eq_true rfl) ?_
  refine qa_aload_n (pc1 := 1) dX0_forge_0 rfl rfl rfl ?_
  refine qa_getP (pc1 := 4) dX0_forge_1 rfl wf_X0_10 rfl ko_rl (by omega) (kp_net hps) ?_
  refine qa_iload_n (pc1 := 5) dX0_forge_4 rfl rfl rfl ?_
  refine qa_callVi (pc1 := 8) dX0_forge_5 rfl (ct_isPlace _) wc_X0_91 wy_X6_isPlace rfl rfl (ci := k_net) rfl ko_net (by omega) rfl ?_
  refine qb_if_eq (tgt := 21) (pc1 := 11) dX0_forge_8 rfl rfl (fun h8 => ?_) (fun h8 => ?_)
  · refine qa_iconst (pc1 := 22) dX0_forge_21 (v := 0) kc_i0 rfl ?_
    exact qa_iret dX0_forge_22 rfl (by first | rfl | exact kw_bn) rfl rfl rfl rfl
  · refine qa_iload_n (pc1 := 12) dX0_forge_11 rfl rfl rfl ?_
    refine qa_if_lt (tgt := 21) (pc1 := 15) dX0_forge_12 rfl rfl (fun h12 => ?_) (fun h12 => ?_)
    · refine qa_iconst (pc1 := 22) dX0_forge_21 (v := 0) kc_i0 rfl ?_
      exact qa_iret dX0_forge_22 rfl (by first | rfl | exact kw_bn) rfl rfl rfl rfl
    · refine qa_iload_n (pc1 := 16) dX0_forge_15 rfl rfl rfl ?_
      refine qa_bipush (pc1 := 18) dX0_forge_16 (v := 6) kc_b6 rfl ?_
      refine qa_ic_lt (tgt := 23) (pc1 := 21) dX0_forge_18 rfl rfl (fun h18 => ?_) (fun h18 => ?_)
      · exact absurd ⟨h8, h12, h18⟩ hs
      · refine qa_iconst (pc1 := 22) dX0_forge_21 (v := 0) kc_i0 rfl ?_
        exact qa_iret dX0_forge_22 rfl (by first | rfl | exact kw_bn) rfl rfl rfl rfl
set_option maxRecDepth 20000 in
set_option maxHeartbeats 4000000 in
theorem ct_forgeI (hps : kw_ps P) {kk n : Nat} (hkn : kk < n) (hn : n ≤ 24) (hc : C 2 3 = nI n) {f : Nat} (hf6 : f < 6) (v : Int32) : kw_C l D aC b yX0_forge cX0_forge 4 (some .boolean) 2 [.inr (.inl 1), .inl (nI kk), .inl (nI f), .inl v] C M P (some (.inl 1)) (ax_u C (P 5 kk + 1) f (C (P 5 kk + 1) f + v)) M P := by
  refine ax_body (own := RX0) (ini := false) (by decide) rfl (fun h => by cases h) (Nat.le_of_ble_eq_true rfl) ?_
  have hdg : kw_dg (P 5 kk) := kp_fd hps (by omega)
  have hq1 := hdg.2.2
  have hq0 := hdg.2.1
  refine qa_aload_n (pc1 := 1) dX0_forge_0 rfl rfl rfl ?_
  refine qa_getP (pc1 := 4) dX0_forge_1 rfl wf_X0_10 rfl ko_rl (by omega) (kp_net hps) ?_
  refine qa_iload_n (pc1 := 5) dX0_forge_4 rfl rfl rfl ?_
  refine qa_callVi (pc1 := 8) dX0_forge_5 rfl (ct_isPlace _) wc_X0_91 wy_X6_isPlace rfl rfl (ci := k_net) rfl ko_net (by omega) rfl ?_
  refine qf_if_eq (tgt := 21) (pc1 := 11) dX0_forge_8 rfl rfl (kw_b1.mpr (show ¬ nI kk < 0 ∧ ¬ C 2 3 ≤ nI kk from ⟨nI_pos (by omega), by rw [hc]; exact nI_ge hkn (by omega)⟩)) ?_
  refine qa_iload_n (pc1 := 12) dX0_forge_11 rfl rfl rfl ?_
  refine qn_if_lt (tgt := 21) (pc1 := 15) dX0_forge_12 rfl rfl (by omega) ?_
  refine qa_iload_n (pc1 := 16) dX0_forge_15 rfl rfl rfl ?_
  refine qa_bipush (pc1 := 18) dX0_forge_16 (v := 6) kc_b6 rfl ?_
  refine qt_ic_lt (tgt := 23) dX0_forge_18 rfl (nI_lt (b := 6) hf6 (by decide)) ?_
  refine qa_aload_n (pc1 := 24) dX0_forge_23 rfl rfl rfl ?_
  refine qa_getP (pc1 := 27) dX0_forge_24 rfl wf_X0_10 rfl ko_rl (by omega) (kp_net hps) ?_
  refine qa_getP (pc1 := 30) dX0_forge_27 rfl wf_X0_116 rfl ko_net (by omega) (kp_fl hps) ?_
  refine qa_iload_n (pc1 := 31) dX0_forge_30 rfl rfl rfl ?_
  refine qa_aald (pc1 := 32) dX0_forge_31 rfl ka_fl rfl (by omega) (by omega) rfl ?_
  refine qa_getP (pc1 := 35) dX0_forge_32 rfl wf_X0_98 rfl (ko_dg _ (by assumption)) (by omega) (kp_pa hps (by assumption)) ?_
  refine qa_iload_n (pc1 := 36) dX0_forge_35 rfl rfl rfl ?_
  refine qa_dup2 (pc1 := 37) dX0_forge_36 rfl ?_
  refine qc_iald (pc1 := 38) dX0_forge_37 rfl (ka_pa _ (by assumption)) rfl (by omega) (by omega) (by omega) ?_
  refine qa_iload_n (pc1 := 39) dX0_forge_38 rfl rfl rfl ?_
  refine qa_iadd (pc1 := 40) dX0_forge_39 rfl ?_
  refine qc_iast (pc1 := 41) dX0_forge_40 rfl (ka_pa _ (by assumption)) rfl (by omega) (by omega) (by omega) ?_
  refine qa_iconst (pc1 := 42) dX0_forge_41 (v := 1) kc_i1 rfl ?_
  exact qa_iret dX0_forge_42 rfl (by first | rfl | exact kw_bn) rfl rfl rfl rfl
set_option maxRecDepth 20000 in
set_option maxHeartbeats 4000000 in
theorem ct_fieldO (hps : kw_ps P) (s f : Int32) (hs : ¬ ((¬ s < 0 ∧ ¬ C 2 3 ≤ s) ∧ ¬ f < 0 ∧ f < 8)) : kw_C l D aC b yX0_field cX0_field 3 (some .int) 2 [.inr (.inl 1), .inl s, .inl f] C M P (some (.inl (-1))) C M P := by
  refine ax_body (own := RX0) (ini := false) (by decide) rfl (fun h => by cases h) (Nat.le_of_ble_eq_true rfl) ?_
  refine qa_aload_n (pc1 := 1) dX0_field_0 rfl rfl rfl ?_
  refine qa_getP (pc1 := 4) dX0_field_1 rfl wf_X0_10 rfl ko_rl (by omega) (kp_net hps) ?_
  refine qa_iload_n (pc1 := 5) dX0_field_4 rfl rfl rfl ?_
  refine qa_callVi (pc1 := 8) dX0_field_5 rfl (ct_isPlace _) wc_X0_91 wy_X6_isPlace rfl rfl (ci := k_net) rfl ko_net (by omega) rfl ?_
  refine qb_if_eq (tgt := 21) (pc1 := 11) dX0_field_8 rfl rfl (fun h8 => ?_) (fun h8 => ?_)
  · refine qa_iconst (pc1 := 22) dX0_field_21 (v := (-1)) kc_im1 rfl ?_
    exact qa_iret dX0_field_22 rfl (vp_nar_int _) rfl rfl rfl rfl
  · refine qa_iload_n (pc1 := 12) dX0_field_11 rfl rfl rfl ?_
    refine qa_if_lt (tgt := 21) (pc1 := 15) dX0_field_12 rfl rfl (fun h12 => ?_) (fun h12 => ?_)
    · refine qa_iconst (pc1 := 22) dX0_field_21 (v := (-1)) kc_im1 rfl ?_
      exact qa_iret dX0_field_22 rfl (vp_nar_int _) rfl rfl rfl rfl
    · refine qa_iload_n (pc1 := 16) dX0_field_15 rfl rfl rfl ?_
      refine qa_bipush (pc1 := 18) dX0_field_16 (v := 8) kc_b8 rfl ?_
      refine qa_ic_lt (tgt := 23) (pc1 := 21) dX0_field_18 rfl rfl (fun h18 => ?_) (fun h18 => ?_)
      · exact absurd ⟨h8, h12, h18⟩ hs
      · refine qa_iconst (pc1 := 22) dX0_field_21 (v := (-1)) kc_im1 rfl ?_
        exact qa_iret dX0_field_22 rfl (vp_nar_int _) rfl rfl rfl rfl
set_option maxRecDepth 20000 in
set_option maxHeartbeats 4000000 in
theorem ct_fieldI (hps : kw_ps P) {kk n : Nat} (hkn : kk < n) (hn : n ≤ 24) (hc : C 2 3 = nI n) {f : Nat} (hf8 : f < 8) : kw_C l D aC b yX0_field cX0_field 3 (some .int) 2 [.inr (.inl 1), .inl (nI kk), .inl (nI f)] C M P (some (.inl (C (P 5 kk + 1) f))) C M P := by
  refine ax_body (own := RX0) (ini := false) (by decide) rfl (fun h => by cases h) (Nat.le_of_ble_eq_true rfl) ?_
  have hdg : kw_dg (P 5 kk) := kp_fd hps (by omega)
  have hq1 := hdg.2.2
  have hq0 := hdg.2.1
  refine qa_aload_n (pc1 := 1) dX0_field_0 rfl rfl rfl ?_
  refine qa_getP (pc1 := 4) dX0_field_1 rfl wf_X0_10 rfl ko_rl (by omega) (kp_net hps) ?_
  refine qa_iload_n (pc1 := 5) dX0_field_4 rfl rfl rfl ?_
  refine qa_callVi (pc1 := 8) dX0_field_5 rfl (ct_isPlace _) wc_X0_91 wy_X6_isPlace rfl rfl (ci := k_net) rfl ko_net (by omega) rfl ?_
  refine qf_if_eq (tgt := 21) (pc1 := 11) dX0_field_8 rfl rfl (kw_b1.mpr (show ¬ nI kk < 0 ∧ ¬ C 2 3 ≤ nI kk from ⟨nI_pos (by omega), by rw [hc]; exact nI_ge hkn (by omega)⟩)) ?_
  refine qa_iload_n (pc1 := 12) dX0_field_11 rfl rfl rfl ?_
  refine qn_if_lt (tgt := 21) (pc1 := 15) dX0_field_12 rfl rfl (by omega) ?_
  refine qa_iload_n (pc1 := 16) dX0_field_15 rfl rfl rfl ?_
  refine qa_bipush (pc1 := 18) dX0_field_16 (v := 8) kc_b8 rfl ?_
  refine qt_ic_lt (tgt := 23) dX0_field_18 rfl (nI_lt (b := 8) hf8 (by decide)) ?_
  refine qa_aload_n (pc1 := 24) dX0_field_23 rfl rfl rfl ?_
  refine qa_getP (pc1 := 27) dX0_field_24 rfl wf_X0_10 rfl ko_rl (by omega) (kp_net hps) ?_
  refine qa_getP (pc1 := 30) dX0_field_27 rfl wf_X0_116 rfl ko_net (by omega) (kp_fl hps) ?_
  refine qa_iload_n (pc1 := 31) dX0_field_30 rfl rfl rfl ?_
  refine qa_aald (pc1 := 32) dX0_field_31 rfl ka_fl rfl (by omega) (by omega) rfl ?_
  refine qa_getP (pc1 := 35) dX0_field_32 rfl wf_X0_98 rfl (ko_dg _ (by assumption)) (by omega) (kp_pa hps (by assumption)) ?_
  refine qa_iload_n (pc1 := 36) dX0_field_35 rfl rfl rfl ?_
  refine qc_iald (pc1 := 37) dX0_field_36 rfl (ka_pa _ (by assumption)) rfl (by omega) (by omega) (by omega) ?_
  exact qa_iret dX0_field_37 rfl (vp_nar_int _) rfl rfl rfl rfl
set_option maxRecDepth 20000 in
set_option maxHeartbeats 4000000 in
theorem ct_flight (hps : kw_ps P) : kw_C l D aC b yX0_flight cX0_flight 1 (some .int) 1 [.inr (.inl 1)] C M P (some (.inl (C 2 3))) C M P := by
  refine ax_body (own := RX0) (ini := false) (by decide) rfl (fun h => by cases h) (Nat.le_of_ble_eq_true rfl) ?_
  refine qa_aload_n (pc1 := 1) dX0_flight_0 rfl rfl rfl ?_
  refine qa_getP (pc1 := 4) dX0_flight_1 rfl wf_X0_10 rfl ko_rl (by omega) (kp_net hps) ?_
  refine qc_getI (pc1 := 7) dX0_flight_4 rfl wf_X0_142 rfl ko_net (by omega) (by omega) ?_
  exact qa_iret dX0_flight_7 rfl (vp_nar_int _) rfl rfl rfl rfl
set_option maxRecDepth 20000 in
set_option maxHeartbeats 4000000 in
theorem ct_tickO (s : Int32) (hs : ¬ (¬ s < 1 ∧ s ≤ 10)) : kw_C l D aC b yX0_tick cX0_tick 5 (some .int) 7 [.inr (.inl 1), .inl s] C M P (some (.inl (-1))) C M P := by
  refine ax_body (own := RX0) (ini := false) (by decide) rfl (fun h => by cases h) (Nat.le_of_ble_eq_true rfl) ?_
  refine qa_iload_n (pc1 := 1) dX0_tick_0 rfl rfl rfl ?_
  refine qa_iconst (pc1 := 2) dX0_tick_1 (v := 1) kc_i1 rfl ?_
  refine qa_ic_lt (tgt := 11) (pc1 := 5) dX0_tick_2 rfl rfl (fun h2 => ?_) (fun h2 => ?_)
  · refine qa_iconst (pc1 := 12) dX0_tick_11 (v := (-1)) kc_im1 rfl ?_
    exact qa_iret dX0_tick_12 rfl (vp_nar_int _) rfl rfl rfl rfl
  · refine qa_iload_n (pc1 := 6) dX0_tick_5 rfl rfl rfl ?_
    refine qa_bipush (pc1 := 8) dX0_tick_6 (v := 10) kc_b10 rfl ?_
    refine qa_ic_le (tgt := 13) (pc1 := 11) dX0_tick_8 rfl rfl (fun h8 => ?_) (fun h8 => ?_)
    · exact absurd ⟨h2, h8⟩ hs
    · refine qa_iconst (pc1 := 12) dX0_tick_11 (v := (-1)) kc_im1 rfl ?_
      exact qa_iret dX0_tick_12 rfl (vp_nar_int _) rfl rfl rfl rfl
set_option maxRecDepth 20000 in
set_option maxHeartbeats 4000000 in
theorem ct_tickI (hps : kw_ps P) (hk0 : xc_nok C) {t : Nat} (h1 : 1 ≤ t) (h10 : t ≤ 10) : kw_C l D aC b yX0_tick cX0_tick 5 (some .int) 7 [.inr (.inl 1), .inl (nI t)] C M P (some (.inl (xc_ttn P t C 0))) (xc_tt P t C) M P := by
  refine ax_body (own := RX0) (ini := false) (by decide) rfl (fun h => by cases h) (Nat.le_of_ble_eq_true rfl) ?_
  have inner : ∀ i, ∀ C2 : ax_I, ∀ n1 : Int32, ax_G l D aC b RX0 cX0_tick 5 (some .int) false (kw_rm 7) 191 (ax_F D aC b 191 0 0 (kw_R (some (.inl (xc_ttn P t C 0))) kw_K kw_L (kw_gl (xc_tt P t C) M) P)) (fun _ => True) 67 [(2, .inl n1), (0, .inr (.inl 1)), (1, .inl (nI t)), (3, .inl (nI i))] [] 0 0 kw_K kw_L (kw_gl C2 M) P → ∀ p, p ≤ 2 → ∀ C1 : ax_I, ∀ n : Int32, xc_nok C1 → xc_tp P p (2 - p) C1 = C2 → xc_tpn P p (2 - p) C1 n = n1 → ax_G l D aC b RX0 cX0_tick 5 (some .int) false (kw_rm 7) 191 (ax_F D aC b 191 0 0 (kw_R (some (.inl (xc_ttn P t C 0))) kw_K kw_L (kw_gl (xc_tt P t C) M) P)) (fun _ => True) 38 [(4, .inl (nI p)), (2, .inl n), (0, .inr (.inl 1)), (1, .inl (nI t)), (3, .inl (nI i))] [] 0 0 kw_K kw_L (kw_gl C1 M) P := by
    intro i C2 n1 k67
    refine kw_loopB 2 (fun p hiN ih C1 n hk hf hg => ?_)
    refine qa_iload (pc1 := 40) dX0_tick_38 rfl rfl ?_
    refine qa_iconst (pc1 := 41) dX0_tick_40 (v := (nI 2)) kc_i2N rfl ?_
    refine qn_ic_ge (tgt := 67) (pc1 := 44) dX0_tick_41 rfl rfl (by omega) (by omega) (fun h41 => ?_) (fun h41 => ?_)
    · have e1 : C1 = C2 := by rw [← hf, show 2 - p = 0 from by omega]; rfl
      have e2 : n = n1 := by rw [← hg, show 2 - p = 0 from by omega]; rfl
      subst e1 e2
      exact qa_ls (by exact (kw_lsc rfl (kw_lsc rfl (kw_lsc rfl (kw_lsc rfl kw_lsn))))) k67
    · have hp : p < 2 := by omega
      refine qa_iload_n (pc1 := 45) dX0_tick_44 rfl rfl rfl ?_
      refine qa_aload_n (pc1 := 46) dX0_tick_45 rfl rfl rfl ?_
      refine qa_getP (pc1 := 49) dX0_tick_46 rfl wf_X0_18 rfl ko_rl (by omega) (kp_pts hps) ?_
      refine qa_iload (pc1 := 51) dX0_tick_49 rfl rfl ?_
      refine qa_aald (pc1 := 52) dX0_tick_51 rfl ka_pts rfl (by omega) (by omega) (kp_pt hps (by assumption)) ?_
      refine qa_aload_n (pc1 := 53) dX0_tick_52 rfl rfl rfl ?_
      refine qa_getP (pc1 := 56) dX0_tick_53 rfl wf_X0_10 rfl ko_rl (by omega) (kp_net hps) ?_
      refine qa_callVi (pc1 := 59) dX0_tick_56 rfl (ct_again1 hps (by assumption) (by assumption)) wc_X0_123 wy_X7_sendAgainOrGiveUp rfl rfl (ci := k_pt) rfl (ko_pt _ (by assumption)) (by omega) rfl ?_
      refine qa_iadd (pc1 := 60) dX0_tick_59 rfl ?_
      refine qa_istore_n (pc1 := 61) dX0_tick_60 rfl (by decide) rfl ?_
      refine qa_iincN (pc1 := 64) dX0_tick_61 rfl (by decide) rfl ?_
      refine qa_goto (tgt := 38) dX0_tick_64 rfl ?_
      exact qa_ls (by exact (kw_lsc rfl (kw_lsc rfl (kw_lsc rfl (kw_lsc rfl (kw_lsc rfl kw_lsn)))))) (ih (by omega) _ _ (xc_ags_ok hps hk) (by rw [← hf, show 2 - p = (2 - (p + 1)) + 1 from by omega]; rfl) (by rw [← hg, show 2 - p = (2 - (p + 1)) + 1 from by omega]; rfl))
  have loop : ∀ i, i ≤ t → ∀ C1 : ax_I, ∀ n : Int32, xc_nok C1 → xc_tt P (t - i) C1 = xc_tt P t C → xc_ttn P (t - i) C1 n = xc_ttn P t C 0 → ax_G l D aC b RX0 cX0_tick 5 (some .int) false (kw_rm 7) 191 (ax_F D aC b 191 0 0 (kw_R (some (.inl (xc_ttn P t C 0))) kw_K kw_L (kw_gl (xc_tt P t C) M) P)) (fun _ => True) 17 [(3, .inl (nI i)), (2, .inl n), (0, .inr (.inl 1)), (1, .inl (nI t))] [] 0 0 kw_K kw_L (kw_gl C1 M) P := by
    refine kw_loopB t (fun i hiN ih C1 n hk hf hg => ?_)
    refine qa_iload_n (pc1 := 18) dX0_tick_17 rfl rfl rfl ?_
    refine qa_iload_n (pc1 := 19) dX0_tick_18 rfl rfl rfl ?_
    refine qn_ic_ge (tgt := 73) (pc1 := 22) dX0_tick_19 rfl rfl (by omega) (by omega) (fun h19 => ?_) (fun h19 => ?_)
    · refine qa_iload_n (pc1 := 74) dX0_tick_73 rfl rfl rfl ?_
      exact qa_iret dX0_tick_74 rfl (vp_nar_int _) (by rw [← hg, show t - i = 0 from by omega]; rfl) (by rw [← hf, show t - i = 0 from by omega]; rfl) rfl rfl
    · refine qa_aload_n (pc1 := 23) dX0_tick_22 rfl rfl rfl ?_
      refine qa_getP (pc1 := 26) dX0_tick_23 rfl wf_X0_10 rfl ko_rl (by omega) (kp_net hps) ?_
      refine qa_dup (pc1 := 27) dX0_tick_26 rfl ?_
      refine qc_getI (pc1 := 30) dX0_tick_27 rfl wf_X0_120 rfl ko_net (by omega) (by omega) ?_
      refine qa_iconst (pc1 := 31) dX0_tick_30 (v := 1) kc_i1 rfl ?_
      refine qa_iadd (pc1 := 32) dX0_tick_31 rfl ?_
      refine qc_putI (pc1 := 35) dX0_tick_32 rfl wp_X0_120 rfl rfl rfl ko_net (by omega) (by omega) ?_
      refine qa_iconst (pc1 := 36) dX0_tick_35 (v := (nI 0)) kc_i0N rfl ?_
      refine qa_istore (pc1 := 38) dX0_tick_36 (by decide) rfl ?_
      have hk2 := xc_tk_ok hk
      refine qa_ls (by exact (kw_lsc rfl (kw_lsc rfl (kw_lsc rfl (kw_lsc rfl (kw_lsc rfl kw_lsn)))))) (inner i (xc_tp P 0 2 (xc_tk C1)) (xc_tpn P 0 2 (xc_tk C1) n) ?_ 0 (Nat.zero_le _) (xc_tk C1) n hk2 rfl rfl)
      refine qa_iincN (pc1 := 70) dX0_tick_67 rfl (by decide) rfl ?_
      refine qa_goto (tgt := 17) dX0_tick_70 rfl ?_
      exact qa_ls (by exact (kw_lsc rfl (kw_lsc rfl (kw_lsc rfl (kw_lsc rfl kw_lsn))))) (ih (by omega) _ _ (xc_tp_ok hps hk2) (by rw [← hf, show t - i = (t - (i + 1)) + 1 from by omega]; rfl) (by rw [← hg, show t - i = (t - (i + 1)) + 1 from by omega]; rfl))
  refine qa_iload_n (pc1 := 1) dX0_tick_0 rfl rfl rfl ?_
  refine qa_iconst (pc1 := 2) dX0_tick_1 (v := 1) kc_i1 rfl ?_
  refine qf_ic_lt (tgt := 11) (pc1 := 5) dX0_tick_2 rfl rfl (nI_nlt (a := t) (b := 1) h1 (by omega)) ?_
  refine qa_iload_n (pc1 := 6) dX0_tick_5 rfl rfl rfl ?_
  refine qa_bipush (pc1 := 8) dX0_tick_6 (v := 10) kc_b10 rfl ?_
  refine qt_ic_le (tgt := 13) dX0_tick_8 rfl (nI_le (a := t) (b := 10) h10 (by decide)) ?_
  refine qa_iconst (pc1 := 14) dX0_tick_13 (v := 0) kc_i0 rfl ?_
  refine qa_istore_n (pc1 := 15) dX0_tick_14 rfl (by decide) rfl ?_
  refine qa_iconst (pc1 := 16) dX0_tick_15 (v := (nI 0)) kc_i0N rfl ?_
  refine qa_istore_n (pc1 := 17) dX0_tick_16 rfl (by decide) rfl ?_
  exact qa_ls (by exact (kw_lsc rfl (kw_lsc rfl (kw_lsc rfl (kw_lsc rfl kw_lsn))))) (loop 0 (Nat.zero_le _) _ _ hk0 rfl rfl)
set_option maxRecDepth 20000 in
set_option maxHeartbeats 4000000 in
theorem ct_syncO (hps : kw_ps P) (s : Int32) (hs : s < 3 ∨ 5 ≤ s) : kw_C l D aC b yX0_sync cX0_sync 3 (some .int) 7 [.inr (.inl 1), .inl s] C M P (some (.inl (-1))) C M P := by
  refine ax_body (own := RX0) (ini := false) (by decide) rfl (fun h => by cases h) (Nat.le_of_ble_eq_true rfl) ?_
  refine qa_aload_n (pc1 := 1) dX0_sync_0 rfl rfl rfl ?_
  refine qa_iload_n (pc1 := 2) dX0_sync_1 rfl rfl rfl ?_
  refine qa_callVr (pc1 := 5) dX0_sync_2 rfl (ct_hmO hps _ hs) wc_X0_54 wy_X0_homeAt rfl rfl (ci := k_rl) rfl ko_rl (by omega) rfl ?_
  refine qa_astore_n (pc1 := 6) dX0_sync_5 rfl (by decide) rfl ?_
  refine qa_aload_n (pc1 := 7) dX0_sync_6 rfl rfl rfl ?_
  refine qf_ifnonnull (tgt := 14) (pc1 := 10) dX0_sync_7 rfl rfl rfl ?_
  refine qa_iconst (pc1 := 11) dX0_sync_10 (v := (-1)) kc_im1 rfl ?_
  refine qa_goto (tgt := 22) dX0_sync_11 rfl ?_
  exact qa_iret dX0_sync_22 rfl (vp_nar_int _) rfl rfl rfl rfl
set_option maxRecDepth 20000 in
set_option maxHeartbeats 4000000 in
theorem ct_syncI (hps : kw_ps P) (hk0 : xc_nok C) {h k u : Nat} (hh : h < 2) (hk40 : k ≤ 40) (huk : u ≤ k) (hc : C (80 + 48 * h) 5 = nI k) (hu : C (80 + 48 * h) 6 = nI u) : kw_C l D aC b yX0_sync cX0_sync 3 (some .int) 7 [.inr (.inl 1), .inl (nI (3 + h))] C M P (some (.inl (nI (k - u)))) (ax_u (xc_md P h u (k - u) C) (80 + 48 * h) 6 (nI k)) M P := by
  refine ax_body (own := RX0) (ini := false) (by decide) rfl (fun h => by cases h) (Nat.le_of_ble_eq_true rfl) ?_
  refine qa_aload_n (pc1 := 1) dX0_sync_0 rfl rfl rfl ?_
  refine qa_iload_n (pc1 := 2) dX0_sync_1 rfl rfl rfl ?_
  refine qa_callVr (pc1 := 5) dX0_sync_2 rfl (ct_hmI hps (by assumption)) wc_X0_54 wy_X0_homeAt rfl rfl (ci := k_rl) rfl ko_rl (by omega) rfl ?_
  refine qa_astore_n (pc1 := 6) dX0_sync_5 rfl (by decide) rfl ?_
  refine qa_aload_n (pc1 := 7) dX0_sync_6 rfl rfl rfl ?_
  refine qt_ifnonnull (tgt := 14) dX0_sync_7 rfl (by omega) ?_
  refine qa_aload_n (pc1 := 15) dX0_sync_14 rfl rfl rfl ?_
  refine qa_aload_n (pc1 := 16) dX0_sync_15 rfl rfl rfl ?_
  refine qa_getP (pc1 := 19) dX0_sync_16 rfl wf_X0_10 rfl ko_rl (by omega) (kp_net hps) ?_
  refine qa_callVi (pc1 := 22) dX0_sync_19 rfl (ct_mdur hps (by assumption) (by assumption) (by assumption) (by assumption) (by assumption) (by assumption)) wc_X0_127 wy_X3_makeAllDurable rfl rfl (ci := k_hm) rfl (ko_hm _ (by assumption)) (by omega) rfl ?_
  exact qa_iret dX0_sync_22 rfl (vp_nar_int _) rfl rfl rfl rfl
set_option maxRecDepth 20000 in
set_option maxHeartbeats 4000000 in
theorem ct_evictO (hps : kw_ps P) (s a : Int32) (hs : s < 3 ∨ 5 ≤ s) : kw_C l D aC b yX0_evict cX0_evict 4 (some .boolean) 6 [.inr (.inl 1), .inl s, .inl a] C M P (some (.inl 0)) C M P := by
  refine ax_body (own := RX0) (ini := false) (by decide) rfl (fun h => by cases h) (Nat.le_of_ble_eq_true rfl) ?_
  refine qa_aload_n (pc1 := 1) dX0_evict_0 rfl rfl rfl ?_
  refine qa_iload_n (pc1 := 2) dX0_evict_1 rfl rfl rfl ?_
  refine qa_callVr (pc1 := 5) dX0_evict_2 rfl (ct_hmO hps _ hs) wc_X0_54 wy_X0_homeAt rfl rfl (ci := k_rl) rfl ko_rl (by omega) rfl ?_
  refine qa_astore_n (pc1 := 6) dX0_evict_5 rfl (by decide) rfl ?_
  refine qa_aload_n (pc1 := 7) dX0_evict_6 rfl rfl rfl ?_
  refine qt_ifnull (tgt := 22) dX0_evict_7 rfl rfl ?_
  refine qa_iconst (pc1 := 23) dX0_evict_22 (v := 0) kc_i0 rfl ?_
  exact qa_iret dX0_evict_23 rfl (by first | rfl | exact kw_bn) rfl rfl rfl rfl
set_option maxRecDepth 20000 in
set_option maxHeartbeats 4000000 in
theorem ct_evictI0 (hps : kw_ps P) {h : Nat} (hh : h < 2) (a : Int32) {C1 : ax_I} (hM : kw_C l D aC b yX3_makeEviction cX3_makeEviction 3 (some .boolean) 5 [.inr (.inl (80 + 48 * h)), .inl a] C M P (some (.inl 0)) C1 M P) : kw_C l D aC b yX0_evict cX0_evict 4 (some .boolean) 6 [.inr (.inl 1), .inl (nI (3 + h)), .inl a] C M P (some (.inl 0)) C1 M P := by
  refine ax_body (own := RX0) (ini := false) (by decide) rfl (fun h => by cases h) (Nat.le_of_ble_eq_true rfl) ?_
  refine qa_aload_n (pc1 := 1) dX0_evict_0 rfl rfl rfl ?_
  refine qa_iload_n (pc1 := 2) dX0_evict_1 rfl rfl rfl ?_
  refine qa_callVr (pc1 := 5) dX0_evict_2 rfl (ct_hmI hps (by assumption)) wc_X0_54 wy_X0_homeAt rfl rfl (ci := k_rl) rfl ko_rl (by omega) rfl ?_
  refine qa_astore_n (pc1 := 6) dX0_evict_5 rfl (by decide) rfl ?_
  refine qa_aload_n (pc1 := 7) dX0_evict_6 rfl rfl rfl ?_
  refine qf_ifnull (tgt := 22) (pc1 := 10) dX0_evict_7 rfl rfl (by omega) ?_
  refine qa_aload_n (pc1 := 11) dX0_evict_10 rfl rfl rfl ?_
  refine qa_iload_n (pc1 := 12) dX0_evict_11 rfl rfl rfl ?_
  refine qa_callVi (pc1 := 15) dX0_evict_12 rfl hM wc_X0_139 wy_X3_makeEviction rfl rfl (ci := k_hm) rfl (ko_hm _ (by assumption)) (by omega) rfl ?_
  refine qt_if_eq (tgt := 22) dX0_evict_15 rfl rfl ?_
  refine qa_iconst (pc1 := 23) dX0_evict_22 (v := 0) kc_i0 rfl ?_
  exact qa_iret dX0_evict_23 rfl (by first | rfl | exact kw_bn) rfl rfl rfl rfl
set_option maxRecDepth 20000 in
set_option maxHeartbeats 4000000 in
theorem ct_evictI1 (hps : kw_ps P) {h : Nat} (hh : h < 2) (a : Int32) {C1 : ax_I} (hM : kw_C l D aC b yX3_makeEviction cX3_makeEviction 3 (some .boolean) 5 [.inr (.inl (80 + 48 * h)), .inl a] C M P (some (.inl 1)) C1 M P) : kw_C l D aC b yX0_evict cX0_evict 4 (some .boolean) 6 [.inr (.inl 1), .inl (nI (3 + h)), .inl a] C M P (some (.inl 1)) C1 M P := by
  refine ax_body (own := RX0) (ini := false) (by decide) rfl (fun h => by cases h) (Nat.le_of_ble_eq_true rfl) ?_
  refine qa_aload_n (pc1 := 1) dX0_evict_0 rfl rfl rfl ?_
  refine qa_iload_n (pc1 := 2) dX0_evict_1 rfl rfl rfl ?_
  refine qa_callVr (pc1 := 5) dX0_evict_2 rfl (ct_hmI hps (by assumption)) wc_X0_54 wy_X0_homeAt rfl rfl (ci := k_rl) rfl ko_rl (by omega) rfl ?_
  refine qa_astore_n (pc1 := 6) dX0_evict_5 rfl (by decide) rfl ?_
  refine qa_aload_n (pc1 := 7) dX0_evict_6 rfl rfl rfl ?_
  refine qf_ifnull (tgt := 22) (pc1 := 10) dX0_evict_7 rfl rfl (by omega) ?_
  refine qa_aload_n (pc1 := 11) dX0_evict_10 rfl rfl rfl ?_
  refine qa_iload_n (pc1 := 12) dX0_evict_11 rfl rfl rfl ?_
  refine qa_callVi (pc1 := 15) dX0_evict_12 rfl hM wc_X0_139 wy_X3_makeEviction rfl rfl (ci := k_hm) rfl (ko_hm _ (by assumption)) (by omega) rfl ?_
  refine qf_if_eq (tgt := 22) (pc1 := 18) dX0_evict_15 rfl rfl (by decide) ?_
  refine qa_iconst (pc1 := 19) dX0_evict_18 (v := 1) kc_i1 rfl ?_
  refine qa_goto (tgt := 23) dX0_evict_19 rfl ?_
  exact qa_iret dX0_evict_23 rfl (by first | rfl | exact kw_bn) rfl rfl rfl rfl
set_option maxRecDepth 20000 in
set_option maxHeartbeats 4000000 in
theorem ct_holderO (hps : kw_ps P) (s a : Int32) (hs : s < 3 ∨ 5 ≤ s) : kw_C l D aC b yX0_holder cX0_holder 4 (some .int) 3 [.inr (.inl 1), .inl s, .inl a] C M P (some (.inl (-1))) C M P := by
  refine ax_body (own := RX0) (ini := false) (by decide) rfl (fun h => by cases h) (Nat.le_of_ble_eq_true rfl) ?_
  refine qa_aload_n (pc1 := 1) dX0_holder_0 rfl rfl rfl ?_
  refine qa_iload_n (pc1 := 2) dX0_holder_1 rfl rfl rfl ?_
  refine qa_callVr (pc1 := 5) dX0_holder_2 rfl (ct_hmO hps _ hs) wc_X0_54 wy_X0_homeAt rfl rfl (ci := k_rl) rfl ko_rl (by omega) rfl ?_
  refine qa_astore_n (pc1 := 6) dX0_holder_5 rfl (by decide) rfl ?_
  refine qa_aload_n (pc1 := 7) dX0_holder_6 rfl rfl rfl ?_
  refine qf_ifnonnull (tgt := 14) (pc1 := 10) dX0_holder_7 rfl rfl rfl ?_
  refine qa_iconst (pc1 := 11) dX0_holder_10 (v := (-1)) kc_im1 rfl ?_
  refine qa_goto (tgt := 22) dX0_holder_11 rfl ?_
  exact qa_iret dX0_holder_22 rfl (vp_nar_int _) rfl rfl rfl rfl
set_option maxRecDepth 20000 in
set_option maxHeartbeats 4000000 in
theorem ct_holderI (hps : kw_ps P) {h : Nat} (hh : h < 2) (a : Int32) : kw_C l D aC b yX0_holder cX0_holder 4 (some .int) 3 [.inr (.inl 1), .inl (nI (3 + h)), .inl a] C M P (some (.inl (xc_ua C h a))) C M P := by
  refine ax_body (own := RX0) (ini := false) (by decide) rfl (fun h => by cases h) (Nat.le_of_ble_eq_true rfl) ?_
  refine qa_aload_n (pc1 := 1) dX0_holder_0 rfl rfl rfl ?_
  refine qa_iload_n (pc1 := 2) dX0_holder_1 rfl rfl rfl ?_
  refine qa_callVr (pc1 := 5) dX0_holder_2 rfl (ct_hmI hps (by assumption)) wc_X0_54 wy_X0_homeAt rfl rfl (ci := k_rl) rfl ko_rl (by omega) rfl ?_
  refine qa_astore_n (pc1 := 6) dX0_holder_5 rfl (by decide) rfl ?_
  refine qa_aload_n (pc1 := 7) dX0_holder_6 rfl rfl rfl ?_
  refine qt_ifnonnull (tgt := 14) dX0_holder_7 rfl (by omega) ?_
  refine qa_aload_n (pc1 := 15) dX0_holder_14 rfl rfl rfl ?_
  refine qa_getP (pc1 := 18) dX0_holder_15 rfl wf_X0_148 rfl (ko_hm _ (by assumption)) (by omega) (kp_se hps (by assumption)) ?_
  refine qa_iload_n (pc1 := 19) dX0_holder_18 rfl rfl rfl ?_
  refine qa_callVi (pc1 := 22) dX0_holder_19 rfl (ct_userAt hps (by assumption) _) wc_X0_152 wy_X9_userAt rfl rfl (ci := k_se) rfl (ko_se _ (by assumption)) (by omega) rfl ?_
  exact qa_iret dX0_holder_22 rfl (vp_nar_int _) rfl rfl rfl rfl
set_option maxRecDepth 20000 in
set_option maxHeartbeats 4000000 in
theorem ct_journalO (hps : kw_ps P) (s a : Int32) (hs : s < 3 ∨ 5 ≤ s) : kw_C l D aC b yX0_journal cX0_journal 4 (some .int) 3 [.inr (.inl 1), .inl s, .inl a] C M P (some (.inl (-1))) C M P := by
  refine ax_body (own := RX0) (ini := false) (by decide) rfl (fun h => by cases h) (Nat.le_of_ble_eq_true rfl) ?_
  refine qa_aload_n (pc1 := 1) dX0_journal_0 rfl rfl rfl ?_
  refine qa_iload_n (pc1 := 2) dX0_journal_1 rfl rfl rfl ?_
  refine qa_callVr (pc1 := 5) dX0_journal_2 rfl (ct_hmO hps _ hs) wc_X0_54 wy_X0_homeAt rfl rfl (ci := k_rl) rfl ko_rl (by omega) rfl ?_
  refine qa_astore_n (pc1 := 6) dX0_journal_5 rfl (by decide) rfl ?_
  refine qa_aload_n (pc1 := 7) dX0_journal_6 rfl rfl rfl ?_
  refine qf_ifnonnull (tgt := 14) (pc1 := 10) dX0_journal_7 rfl rfl rfl ?_
  refine qa_iconst (pc1 := 11) dX0_journal_10 (v := (-1)) kc_im1 rfl ?_
  refine qa_goto (tgt := 19) dX0_journal_11 rfl ?_
  exact qa_iret dX0_journal_19 rfl (vp_nar_int _) rfl rfl rfl rfl
set_option maxRecDepth 20000 in
set_option maxHeartbeats 4000000 in
theorem ct_journalI (hps : kw_ps P) {h : Nat} (hh : h < 2) (a : Int32) : kw_C l D aC b yX0_journal cX0_journal 4 (some .int) 3 [.inr (.inl 1), .inl (nI (3 + h)), .inl a] C M P (some (.inl (xc_htell C h a))) C M P := by
  refine ax_body (own := RX0) (ini := false) (by decide) rfl (fun h => by cases h) (Nat.le_of_ble_eq_true rfl) ?_
  refine qa_aload_n (pc1 := 1) dX0_journal_0 rfl rfl rfl ?_
  refine qa_iload_n (pc1 := 2) dX0_journal_1 rfl rfl rfl ?_
  refine qa_callVr (pc1 := 5) dX0_journal_2 rfl (ct_hmI hps (by assumption)) wc_X0_54 wy_X0_homeAt rfl rfl (ci := k_rl) rfl ko_rl (by omega) rfl ?_
  refine qa_astore_n (pc1 := 6) dX0_journal_5 rfl (by decide) rfl ?_
  refine qa_aload_n (pc1 := 7) dX0_journal_6 rfl rfl rfl ?_
  refine qt_ifnonnull (tgt := 14) dX0_journal_7 rfl (by omega) ?_
  refine qa_aload_n (pc1 := 15) dX0_journal_14 rfl rfl rfl ?_
  refine qa_iload_n (pc1 := 16) dX0_journal_15 rfl rfl rfl ?_
  refine qa_callVi (pc1 := 19) dX0_journal_16 rfl (ct_htell hps (by assumption) _) wc_X0_157 wy_X3_tell rfl rfl (ci := k_hm) rfl (ko_hm _ (by assumption)) (by omega) rfl ?_
  exact qa_iret dX0_journal_19 rfl (vp_nar_int _) rfl rfl rfl rfl
set_option maxRecDepth 20000 in
set_option maxHeartbeats 4000000 in
theorem ct_lineO1 (hps : kw_ps P) (s y a : Int32) (hs : ¬ vp_in s 2) : kw_C l D aC b yX0_line cX0_line 5 (some .int) 3 [.inr (.inl 1), .inl s, .inl y, .inl a] C M P (some (.inl (-1))) C M P := by
  refine ax_body (own := RX0) (ini := false) (by decide) rfl (fun h => by cases h) (Nat.le_of_ble_eq_true rfl) ?_
  refine qa_aload_n (pc1 := 1) dX0_line_0 rfl rfl rfl ?_
  refine qa_iload_n (pc1 := 2) dX0_line_1 rfl rfl rfl ?_
  refine qa_iload_n (pc1 := 3) dX0_line_2 rfl rfl rfl ?_
  refine qa_callVr (pc1 := 6) dX0_line_3 rfl (ct_lnO1 hps _ _ hs) wc_X0_68 wy_X0_lineAt rfl rfl (ci := k_rl) rfl ko_rl (by omega) rfl ?_
  refine qa_astore (pc1 := 8) dX0_line_6 (by decide) rfl ?_
  refine qa_aload (pc1 := 10) dX0_line_8 rfl rfl ?_
  refine qf_ifnonnull (tgt := 17) (pc1 := 13) dX0_line_10 rfl rfl rfl ?_
  refine qa_iconst (pc1 := 14) dX0_line_13 (v := (-1)) kc_im1 rfl ?_
  refine qa_goto (tgt := 23) dX0_line_14 rfl ?_
  exact qa_iret dX0_line_23 rfl (vp_nar_int _) rfl rfl rfl rfl
set_option maxRecDepth 20000 in
set_option maxHeartbeats 4000000 in
theorem ct_lineO2 (hps : kw_ps P) {p : Nat} (hp : p < 2) (y a : Int32) (hs : ¬ vp_in y 4) : kw_C l D aC b yX0_line cX0_line 5 (some .int) 3 [.inr (.inl 1), .inl (nI p), .inl y, .inl a] C M P (some (.inl (-1))) C M P := by
  refine ax_body (own := RX0) (ini := false) (by decide) rfl (fun h => by cases h) (Nat.le_of_ble_eq_true rfl) ?_
  refine qa_aload_n (pc1 := 1) dX0_line_0 rfl rfl rfl ?_
  refine qa_iload_n (pc1 := 2) dX0_line_1 rfl rfl rfl ?_
  refine qa_iload_n (pc1 := 3) dX0_line_2 rfl rfl rfl ?_
  refine qa_callVr (pc1 := 6) dX0_line_3 rfl (ct_lnO2 hps hp _ hs) wc_X0_68 wy_X0_lineAt rfl rfl (ci := k_rl) rfl ko_rl (by omega) rfl ?_
  refine qa_astore (pc1 := 8) dX0_line_6 (by decide) rfl ?_
  refine qa_aload (pc1 := 10) dX0_line_8 rfl rfl ?_
  refine qf_ifnonnull (tgt := 17) (pc1 := 13) dX0_line_10 rfl rfl rfl ?_
  refine qa_iconst (pc1 := 14) dX0_line_13 (v := (-1)) kc_im1 rfl ?_
  refine qa_goto (tgt := 23) dX0_line_14 rfl ?_
  exact qa_iret dX0_line_23 rfl (vp_nar_int _) rfl rfl rfl rfl
set_option maxRecDepth 20000 in
set_option maxHeartbeats 4000000 in
theorem ct_lineI (hps : kw_ps P) {p i : Nat} (hp : p < 2) (hi : i < 4) (a : Int32) : kw_C l D aC b yX0_line cX0_line 5 (some .int) 3 [.inr (.inl 1), .inl (nI p), .inl (nI i), .inl a] C M P (some (.inl (xc_ltell C (59 + 6 * p + i) a))) C M P := by
  refine ax_body (own := RX0) (ini := false) (by decide) rfl (fun h => by cases h) (Nat.le_of_ble_eq_true rfl) ?_
  refine qa_aload_n (pc1 := 1) dX0_line_0 rfl rfl rfl ?_
  refine qa_iload_n (pc1 := 2) dX0_line_1 rfl rfl rfl ?_
  refine qa_iload_n (pc1 := 3) dX0_line_2 rfl rfl rfl ?_
  refine qa_callVr (pc1 := 6) dX0_line_3 rfl (ct_lnI hps hp hi) wc_X0_68 wy_X0_lineAt rfl rfl (ci := k_rl) rfl ko_rl (by omega) rfl ?_
  refine qa_astore (pc1 := 8) dX0_line_6 (by decide) rfl ?_
  refine qa_aload (pc1 := 10) dX0_line_8 rfl rfl ?_
  refine qt_ifnonnull (tgt := 17) dX0_line_10 rfl (by omega) ?_
  refine qa_aload (pc1 := 19) dX0_line_17 rfl rfl ?_
  refine qa_iload_n (pc1 := 20) dX0_line_19 rfl rfl rfl ?_
  refine qa_callVi (pc1 := 23) dX0_line_20 rfl (ct_ltell (by assumption) (by assumption) _) wc_X0_145 wy_X5_tell rfl rfl (ci := k_ln) rfl (ko_ln _ (by assumption) _ (by assumption)) (by omega) rfl ?_
  exact qa_iret dX0_line_23 rfl (vp_nar_int _) rfl rfl rfl rfl
set_option maxRecDepth 20000 in
set_option maxHeartbeats 4000000 in
theorem ct_crashP (hps : kw_ps P) {p : Nat} (hp : p < 2) : kw_C l D aC b yX0_crash cX0_crash 4 (some .boolean) 5 [.inr (.inl 1), .inl (nI p)] C M P (some (.inl 1)) (ax_u (xc_fgl C p 0 4) (57 + 6 * p) 2 (-1)) M P := by
  refine ax_body (own := RX0) (ini := false) (by decide) rfl (fun h => by cases h) (Nat.le_of_ble_eq_true rfl) ?_
  refine qa_aload_n (pc1 := 1) dX0_crash_0 rfl rfl rfl ?_
  refine qa_iload_n (pc1 := 2) dX0_crash_1 rfl rfl rfl ?_
  refine qa_callVr (pc1 := 5) dX0_crash_2 rfl (ct_ptI hps hp) wc_X0_64 wy_X0_pointAt rfl rfl (ci := k_rl) rfl ko_rl (by omega) rfl ?_
  refine qa_astore_n (pc1 := 6) dX0_crash_5 rfl (by decide) rfl ?_
  refine qa_aload_n (pc1 := 7) dX0_crash_6 rfl rfl rfl ?_
  refine qa_iload_n (pc1 := 8) dX0_crash_7 rfl rfl rfl ?_
  refine qa_callVr (pc1 := 11) dX0_crash_8 rfl (ct_hmO hps _ (Or.inl (nI_lt (a := p) (b := 3) (by omega) (by decide)))) wc_X0_54 wy_X0_homeAt rfl rfl (ci := k_rl) rfl ko_rl (by omega) rfl ?_
  refine qa_astore_n (pc1 := 12) dX0_crash_11 rfl (by decide) rfl ?_
  refine qa_aload_n (pc1 := 13) dX0_crash_12 rfl rfl rfl ?_
  refine qf_ifnull (tgt := 23) (pc1 := 16) dX0_crash_13 rfl rfl (by omega) ?_
  refine qa_aload_n (pc1 := 17) dX0_crash_16 rfl rfl rfl ?_
  refine qa_callVv (pc1 := 20) dX0_crash_17 rfl (ct_pforget hps (by assumption)) wc_X0_130 wy_X7_forgetAll rfl rfl (ci := k_pt) rfl (ko_pt _ (by assumption)) (by omega) rfl ?_
  refine qa_goto (tgt := 51) dX0_crash_20 rfl ?_
  refine qa_iconst (pc1 := 52) dX0_crash_51 (v := 1) kc_i1 rfl ?_
  exact qa_iret dX0_crash_52 rfl (by first | rfl | exact kw_bn) rfl rfl rfl rfl
set_option maxRecDepth 20000 in
set_option maxHeartbeats 4000000 in
theorem ct_crashH (hps : kw_ps P) {h u : Nat} (hh : h < 2) (hu40 : u ≤ 40) (hu : C (80 + 48 * h) 6 = nI u) (hok : ∀ i, i < u → xc_rok C (88 + 48 * h + i)) : kw_C l D aC b yX0_crash cX0_crash 4 (some .boolean) 5 [.inr (.inl 1), .inl (nI (3 + h))] C M P (some (.inl 1)) (xc_rp h 0 u (xc_sf (ax_u C (80 + 48 * h) 5 (nI u)) h)) M P := by
  refine ax_body (own := RX0) (ini := false) (by decide) rfl (fun h => by cases h) (Nat.le_of_ble_eq_true rfl) ?_
  refine qa_aload_n (pc1 := 1) dX0_crash_0 rfl rfl rfl ?_
  refine qa_iload_n (pc1 := 2) dX0_crash_1 rfl rfl rfl ?_
  refine qa_callVr (pc1 := 5) dX0_crash_2 rfl (ct_ptO hps _ (by unfold vp_in; rw [nI_clamp (by omega)]; omega)) wc_X0_64 wy_X0_pointAt rfl rfl (ci := k_rl) rfl ko_rl (by omega) rfl ?_
  refine qa_astore_n (pc1 := 6) dX0_crash_5 rfl (by decide) rfl ?_
  refine qa_aload_n (pc1 := 7) dX0_crash_6 rfl rfl rfl ?_
  refine qa_iload_n (pc1 := 8) dX0_crash_7 rfl rfl rfl ?_
  refine qa_callVr (pc1 := 11) dX0_crash_8 rfl (ct_hmI hps hh) wc_X0_54 wy_X0_homeAt rfl rfl (ci := k_rl) rfl ko_rl (by omega) rfl ?_
  refine qa_astore_n (pc1 := 12) dX0_crash_11 rfl (by decide) rfl ?_
  refine qa_aload_n (pc1 := 13) dX0_crash_12 rfl rfl rfl ?_
  refine qt_ifnull (tgt := 23) dX0_crash_13 rfl rfl ?_
  refine qa_aload_n (pc1 := 24) dX0_crash_23 rfl rfl rfl ?_
  refine qf_ifnull (tgt := 34) (pc1 := 27) dX0_crash_24 rfl rfl (by omega) ?_
  refine qa_aload_n (pc1 := 28) dX0_crash_27 rfl rfl rfl ?_
  refine qa_callVv (pc1 := 31) dX0_crash_28 rfl (ct_hforget hps (by assumption) (by assumption) (by assumption) (by assumption)) wc_X0_133 wy_X3_forgetWhatIsNotDurable rfl rfl (ci := k_hm) rfl (ko_hm _ (by assumption)) (by omega) rfl ?_
  refine qa_goto (tgt := 51) dX0_crash_31 rfl ?_
  refine qa_iconst (pc1 := 52) dX0_crash_51 (v := 1) kc_i1 rfl ?_
  exact qa_iret dX0_crash_52 rfl (by first | rfl | exact kw_bn) rfl rfl rfl rfl
set_option maxRecDepth 20000 in
set_option maxHeartbeats 4000000 in
theorem ct_crashR (hps : kw_ps P) : kw_C l D aC b yX0_crash cX0_crash 4 (some .boolean) 5 [.inr (.inl 1), .inl 2] C M P (some (.inl 1)) (ax_u (xc_fe C 0 8) 69 1 (-1)) M P := by
  refine ax_body (own := RX0) (ini := false) (by decide) rfl (fun h => by cases h) (Nat.le_of_ble_eq_true rfl) ?_
  refine qa_aload_n (pc1 := 1) dX0_crash_0 rfl rfl rfl ?_
  refine qa_iload_n (pc1 := 2) dX0_crash_1 rfl rfl rfl ?_
  refine qa_callVr (pc1 := 5) dX0_crash_2 rfl (ct_ptO hps _ (by unfold vp_in; decide)) wc_X0_64 wy_X0_pointAt rfl rfl (ci := k_rl) rfl ko_rl (by omega) rfl ?_
  refine qa_astore_n (pc1 := 6) dX0_crash_5 rfl (by decide) rfl ?_
  refine qa_aload_n (pc1 := 7) dX0_crash_6 rfl rfl rfl ?_
  refine qa_iload_n (pc1 := 8) dX0_crash_7 rfl rfl rfl ?_
  refine qa_callVr (pc1 := 11) dX0_crash_8 rfl (ct_hmO hps _ (by decide)) wc_X0_54 wy_X0_homeAt rfl rfl (ci := k_rl) rfl ko_rl (by omega) rfl ?_
  refine qa_astore_n (pc1 := 12) dX0_crash_11 rfl (by decide) rfl ?_
  refine qa_aload_n (pc1 := 13) dX0_crash_12 rfl rfl rfl ?_
  refine qt_ifnull (tgt := 23) dX0_crash_13 rfl rfl ?_
  refine qa_aload_n (pc1 := 24) dX0_crash_23 rfl rfl rfl ?_
  refine qt_ifnull (tgt := 34) dX0_crash_24 rfl rfl ?_
  refine qa_iload_n (pc1 := 35) dX0_crash_34 rfl rfl rfl ?_
  refine qa_iconst (pc1 := 36) dX0_crash_35 (v := 2) kc_i2 rfl ?_
  refine qf_ic_ne (tgt := 49) (pc1 := 39) dX0_crash_36 rfl rfl rfl ?_
  refine qa_aload_n (pc1 := 40) dX0_crash_39 rfl rfl rfl ?_
  refine qa_getP (pc1 := 43) dX0_crash_40 rfl wf_X0_28 rfl ko_rl (by omega) (kp_rel hps) ?_
  refine qa_callVv (pc1 := 46) dX0_crash_43 rfl (ct_forgetE hps) wc_X0_136 wy_X8_forgetEntries rfl rfl (ci := k_rel) rfl ko_rel (by omega) rfl ?_
  refine qa_goto (tgt := 51) dX0_crash_46 rfl ?_
  refine qa_iconst (pc1 := 52) dX0_crash_51 (v := 1) kc_i1 rfl ?_
  exact qa_iret dX0_crash_52 rfl (by first | rfl | exact kw_bn) rfl rfl rfl rfl
set_option maxRecDepth 20000 in
set_option maxHeartbeats 4000000 in
theorem ct_crashO (hps : kw_ps P) (s : Int32) (h1 : ¬ vp_in s 2) (h2 : s < 3 ∨ 5 ≤ s) (h3 : ¬ s = 2) : kw_C l D aC b yX0_crash cX0_crash 4 (some .boolean) 5 [.inr (.inl 1), .inl s] C M P (some (.inl 0)) C M P := by
  refine ax_body (own := RX0) (ini := false) (by decide) rfl (fun h => by cases h) (Nat.le_of_ble_eq_true rfl) ?_
  refine qa_aload_n (pc1 := 1) dX0_crash_0 rfl rfl rfl ?_
  refine qa_iload_n (pc1 := 2) dX0_crash_1 rfl rfl rfl ?_
  refine qa_callVr (pc1 := 5) dX0_crash_2 rfl (ct_ptO hps _ h1) wc_X0_64 wy_X0_pointAt rfl rfl (ci := k_rl) rfl ko_rl (by omega) rfl ?_
  refine qa_astore_n (pc1 := 6) dX0_crash_5 rfl (by decide) rfl ?_
  refine qa_aload_n (pc1 := 7) dX0_crash_6 rfl rfl rfl ?_
  refine qa_iload_n (pc1 := 8) dX0_crash_7 rfl rfl rfl ?_
  refine qa_callVr (pc1 := 11) dX0_crash_8 rfl (ct_hmO hps _ h2) wc_X0_54 wy_X0_homeAt rfl rfl (ci := k_rl) rfl ko_rl (by omega) rfl ?_
  refine qa_astore_n (pc1 := 12) dX0_crash_11 rfl (by decide) rfl ?_
  refine qa_aload_n (pc1 := 13) dX0_crash_12 rfl rfl rfl ?_
  refine qt_ifnull (tgt := 23) dX0_crash_13 rfl rfl ?_
  refine qa_aload_n (pc1 := 24) dX0_crash_23 rfl rfl rfl ?_
  refine qt_ifnull (tgt := 34) dX0_crash_24 rfl rfl ?_
  refine qa_iload_n (pc1 := 35) dX0_crash_34 rfl rfl rfl ?_
  refine qa_iconst (pc1 := 36) dX0_crash_35 (v := 2) kc_i2 rfl ?_
  refine qt_ic_ne (tgt := 49) dX0_crash_36 rfl h3 ?_
  refine qa_iconst (pc1 := 50) dX0_crash_49 (v := 0) kc_i0 rfl ?_
  exact qa_iret dX0_crash_50 rfl (by first | rfl | exact kw_bn) rfl rfl rfl rfl
end TOP
