
abbrev xc_pg (C : ax_I) (L : Nat) : Prop := C L 0 = 1 ∨ C L 0 = 3
/-- line i of point p is pending under this id -/
def xc_pc (C : ax_I) (p : Nat) (id : Int32) (i : Nat) : Bool := decide (xc_pg C (59 + 6 * p + i) ∧ C (59 + 6 * p + i) 2 = id)
def xc_pend (C : ax_I) (p : Nat) (id : Int32) : Nat := xc_nm (59 + 6 * p) (kw_first (xc_pc C p id) 0 4)
theorem xc_pend_ne {C : ax_I} {p : Nat} {id : Int32} (h : xc_pend C p id ≠ 0) : ∃ i, i < 4 ∧ xc_pend C p id = 59 + 6 * p + i ∧ kw_first (xc_pc C p id) 0 4 = some i := by
  unfold xc_pend at h ⊢
  cases e : kw_first (xc_pc C p id) 0 4 with
  | none => rw [e] at h; exact absurd rfl h
  | some i => exact ⟨i, by have := (kw_first_some e).2.1; omega, rfl, rfl⟩
abbrev xc_wf (C : ax_I) (L : Nat) (kind : Int32) : Prop := (C L 0 = 1 ∧ (kind = 1 ∨ kind = 2)) ∨ (C L 0 = 3 ∧ kind = 4)
def xc_settle (C : ax_I) (L : Nat) (kind a b : Int32) : ax_I := if kind = 1 then ax_u (ax_u (ax_u (ax_u C L 0 2) L 1 1) L 6 a) L 7 b else if kind = 2 then ax_u (ax_u C L 0 0) L 1 2 else ax_u C L 0 0
def xc_give (C : ax_I) (L : Nat) : ax_I := if C L 0 = 1 then ax_u (ax_u C L 1 3) L 0 0 else ax_u C L 0 0
def xc_ltell (C : ax_I) (L : Nat) (w : Int32) : Int32 := if w = 0 then C L 0 else if w = 1 then C L 1 else if w = 2 then (if xc_pg C L then C L 2 else -1) else if w = 3 then (if C L 0 = 2 ∨ C L 0 = 3 then C L 6 else -1) else if w = 4 then (if C L 0 = 2 ∨ C L 0 = 3 then C L 7 else -1) else -1
def xc_nx (id : Int32) : Int32 := id + 1 - (id + 1) / 8 * 8
def xc_find (C : ax_I) (p : Nat) (f : Nat) (id : Int32) : Int32 := match f with
  | 0 => id
  | g + 1 => if xc_pend C p id = 0 then id else xc_find C p g (xc_nx id)
def xc_nid (C : ax_I) (p : Nat) : Int32 := xc_find C p 8 (xc_nx (C (57 + 6 * p) 2))
def xc_sf1 (C : ax_I) (L : Nat) : ax_I := ax_u (ax_u C L 8 (C L 8 + 1)) L 9 ((ax_u C L 8 (C L 8 + 1)) 2 4)
def xc_sf2 (C : ax_I) (P : ax_P) (p L : Nat) : ax_I := if C L 0 = 1 then xc_snd C P (C (57 + 6 * p) 0) 2 0 (C L 2) (C L 3) (C L 4) (C L 5 ^^^ xa_mix (xc_key C (C (57 + 6 * p) 0) 2) (C L 3)) else xc_snd C P (C (57 + 6 * p) 0) 2 3 (C L 2) (C L 3) (C L 4) (C L 6)
def xc_sendFor (C : ax_I) (P : ax_P) (p L : Nat) : ax_I := xc_sf2 (xc_sf1 C L) P p L
def xc_mp1 (C : ax_I) (p L : Nat) (state auth : Int32) : ax_I := ax_u (ax_u (ax_u (ax_u (ax_u C (57 + 6 * p) 2 (xc_nid C p)) L 2 (xc_nid C p)) L 0 state) L 3 auth) L 8 0
def xc_mp (C : ax_I) (P : ax_P) (p L : Nat) (state auth : Int32) : ax_I := xc_sendFor (xc_mp1 C p L state auth) P p L
/-- what point p does with a datagram: its memory and its answer -/
abbrev xc_phc (C : ax_I) (p d : Nat) : Prop := xc_pend C p (C (d + 1) 1) ≠ 0 ∧ xc_wf C (xc_pend C p (C (d + 1) 1)) (C (d + 1) 0) ∧ xc_right C d (C (xc_pend C p (C (d + 1) 1)) 3)
def xc_ph (C : ax_I) (p d : Nat) : ax_I := if xc_phc C p d then xc_settle C (xc_pend C p (C (d + 1) 1)) (C (d + 1) 0) (C (d + 1) 3) (C (d + 1) 4) else C
/-- one line of a point at a tick: sends again, gives up, or waits -/
abbrev xc_due (C : ax_I) (L : Nat) : Prop := xc_pg C L ∧ 5 ≤ C 2 4 - C L 9
def xc_ag (C : ax_I) (P : ax_P) (p L : Nat) : ax_I := if xc_due C L then (if C L 8 < 3 then xc_sendFor C P p L else xc_give C L) else C
def xc_agn (C : ax_I) (L : Nat) (n : Int32) : Int32 := if xc_due C L ∧ C L 8 < 3 then n + 1 else n
/-- the lines from i on, f of them -/
def xc_ags (P : ax_P) (p : Nat) (i f : Nat) (C : ax_I) : ax_I := match f with
  | 0 => C
  | g + 1 => xc_ags P p (i + 1) g (xc_ag C P p (59 + 6 * p + i))
def xc_agsn (P : ax_P) (p : Nat) (i f : Nat) (C : ax_I) (n : Int32) : Int32 := match f with
  | 0 => n
  | g + 1 => xc_agsn P p (i + 1) g (xc_ag C P p (59 + 6 * p + i)) (xc_agn C (59 + 6 * p + i) n)
def xc_fgl (C : ax_I) (p i f : Nat) : ax_I := match f with
  | 0 => C
  | g + 1 => xc_fgl (ax_u (ax_u C (59 + 6 * p + i) 0 0) (59 + 6 * p + i) 1 0) p (i + 1) g
theorem kw_case5 (w : Int32) : w = 0 ∨ w = 1 ∨ w = 2 ∨ w = 3 ∨ w = 4 ∨ (¬ w = 0 ∧ ¬ w = 1 ∧ ¬ w = 2 ∧ ¬ w = 3 ∧ ¬ w = 4 ∧ (w.toInt < 0 ∨ 4 < w.toInt)) := by
  by_cases h : vp_in w 5
  · obtain ⟨j, hj, e⟩ := vp_in_of h (by decide)
    rcases j with _ | _ | _ | _ | _ | j
    · exact Or.inl e
    · exact Or.inr (Or.inl e)
    · exact Or.inr (Or.inr (Or.inl e))
    · exact Or.inr (Or.inr (Or.inr (Or.inl e)))
    · exact Or.inr (Or.inr (Or.inr (Or.inr (Or.inl e))))
    · omega
  · refine Or.inr (Or.inr (Or.inr (Or.inr (Or.inr ⟨?_, ?_, ?_, ?_, ?_, ?_⟩))))
    · intro e; apply h; rw [e, vp_in_iff]; decide
    · intro e; apply h; rw [e, vp_in_iff]; decide
    · intro e; apply h; rw [e, vp_in_iff]; decide
    · intro e; apply h; rw [e, vp_in_iff]; decide
    · intro e; apply h; rw [e, vp_in_iff]; decide
    · rw [vp_in_iff] at h; omega

section PT
variable {l : Launch} {D : va_G} {aC : Nat → ClassId} {b : Nat} {C M : ax_I} {P : ax_P}
set_option maxRecDepth 20000 in
set_option maxHeartbeats 4000000 in
theorem ct_isPending {p i : Nat} (hp : p < 2) (hi : i < 4) : kw_C l D aC b yX5_isPending cX5_isPending 1 (some .boolean) 1 [.inr (.inl (59 + 6 * p + i))] C M P (some (.inl (kw_b (xc_pg C (59 + 6 * p + i))))) C M P := by
  refine ax_body (own := RX5) (ini := false) (by decide) rfl (fun h => by cases h) (Nat.le_of_ble_eq_true rfl) ?_
  refine qa_aload_n (pc1 := 1) dX5_isPending_0 rfl rfl rfl ?_
  refine qc_getI (pc1 := 4) dX5_isPending_1 rfl wf_X5_9 rfl (ko_ln _ (by assumption) _ (by assumption)) (by omega) (by omega) ?_
  refine qa_iconst (pc1 := 5) dX5_isPending_4 (v := 1) kc_i1 rfl ?_
  refine qa_ic_eq (tgt := 16) (pc1 := 8) dX5_isPending_5 rfl rfl (fun h5 => ?_) (fun h5 => ?_)
  · refine qa_iconst (pc1 := 17) dX5_isPending_16 (v := 1) kc_i1 rfl ?_
    refine qa_goto (tgt := 21) dX5_isPending_17 rfl ?_
    exact qa_iret dX5_isPending_21 rfl (by first | rfl | exact kw_bn) (by simp only [kw_b]; grind) rfl rfl rfl
  · refine qa_aload_n (pc1 := 9) dX5_isPending_8 rfl rfl rfl ?_
    refine qc_getI (pc1 := 12) dX5_isPending_9 rfl wf_X5_9 rfl (ko_ln _ (by assumption) _ (by assumption)) (by omega) (by omega) ?_
    refine qa_iconst (pc1 := 13) dX5_isPending_12 (v := 3) kc_i3 rfl ?_
    refine qa_ic_ne (tgt := 20) (pc1 := 16) dX5_isPending_13 rfl rfl (fun h13 => ?_) (fun h13 => ?_)
    · refine qa_iconst (pc1 := 21) dX5_isPending_20 (v := 0) kc_i0 rfl ?_
      exact qa_iret dX5_isPending_21 rfl (by first | rfl | exact kw_bn) (by simp only [kw_b]; grind) rfl rfl rfl
    · refine qa_iconst (pc1 := 17) dX5_isPending_16 (v := 1) kc_i1 rfl ?_
      refine qa_goto (tgt := 21) dX5_isPending_17 rfl ?_
      exact qa_iret dX5_isPending_21 rfl (by first | rfl | exact kw_bn) (by simp only [kw_b]; grind) rfl rfl rfl
set_option maxRecDepth 20000 in
set_option maxHeartbeats 4000000 in
theorem ct_waitsFor {p i : Nat} (hp : p < 2) (hi : i < 4) (k : Int32) : kw_C l D aC b yX5_waitsFor cX5_waitsFor 2 (some .boolean) 1 [.inr (.inl (59 + 6 * p + i)), .inl k] C M P (some (.inl (kw_b (xc_wf C (59 + 6 * p + i) k)))) C M P := by
  refine ax_body (own := RX5) (ini := false) (by decide) rfl (fun h => by cases h) (Nat.le_of_ble_eq_true rfl) ?_
  refine qa_aload_n (pc1 := 1) dX5_waitsFor_0 rfl rfl rfl ?_
  refine qc_getI (pc1 := 4) dX5_waitsFor_1 rfl wf_X5_9 rfl (ko_ln _ (by assumption) _ (by assumption)) (by omega) (by omega) ?_
  refine qa_iconst (pc1 := 5) dX5_waitsFor_4 (v := 1) kc_i1 rfl ?_
  refine qa_ic_ne (tgt := 24) (pc1 := 8) dX5_waitsFor_5 rfl rfl (fun h5 => ?_) (fun h5 => ?_)
  · refine qa_aload_n (pc1 := 25) dX5_waitsFor_24 rfl rfl rfl ?_
    refine qc_getI (pc1 := 28) dX5_waitsFor_25 rfl wf_X5_9 rfl (ko_ln _ (by assumption) _ (by assumption)) (by omega) (by omega) ?_
    refine qa_iconst (pc1 := 29) dX5_waitsFor_28 (v := 3) kc_i3 rfl ?_
    refine qa_ic_ne (tgt := 41) (pc1 := 32) dX5_waitsFor_29 rfl rfl (fun h29 => ?_) (fun h29 => ?_)
    · refine qa_iconst (pc1 := 42) dX5_waitsFor_41 (v := 0) kc_i0 rfl ?_
      exact qa_iret dX5_waitsFor_42 rfl (by first | rfl | exact kw_bn) (by simp only [kw_b]; grind) rfl rfl rfl
    · refine qa_iload_n (pc1 := 33) dX5_waitsFor_32 rfl rfl rfl ?_
      refine qa_iconst (pc1 := 34) dX5_waitsFor_33 (v := 4) kc_i4 rfl ?_
      refine qa_ic_ne (tgt := 41) (pc1 := 37) dX5_waitsFor_34 rfl rfl (fun h34 => ?_) (fun h34 => ?_)
      · refine qa_iconst (pc1 := 42) dX5_waitsFor_41 (v := 0) kc_i0 rfl ?_
        exact qa_iret dX5_waitsFor_42 rfl (by first | rfl | exact kw_bn) (by simp only [kw_b]; grind) rfl rfl rfl
      · refine qa_iconst (pc1 := 38) dX5_waitsFor_37 (v := 1) kc_i1 rfl ?_
        refine qa_goto (tgt := 42) dX5_waitsFor_38 rfl ?_
        exact qa_iret dX5_waitsFor_42 rfl (by first | rfl | exact kw_bn) (by simp only [kw_b]; grind) rfl rfl rfl
  · refine qa_iload_n (pc1 := 9) dX5_waitsFor_8 rfl rfl rfl ?_
    refine qa_iconst (pc1 := 10) dX5_waitsFor_9 (v := 1) kc_i1 rfl ?_
    refine qa_ic_eq (tgt := 18) (pc1 := 13) dX5_waitsFor_10 rfl rfl (fun h10 => ?_) (fun h10 => ?_)
    · refine qa_iconst (pc1 := 19) dX5_waitsFor_18 (v := 1) kc_i1 rfl ?_
      refine qa_goto (tgt := 23) dX5_waitsFor_19 rfl ?_
      exact qa_iret dX5_waitsFor_23 rfl (by first | rfl | exact kw_bn) (by simp only [kw_b]; grind) rfl rfl rfl
    · refine qa_iload_n (pc1 := 14) dX5_waitsFor_13 rfl rfl rfl ?_
      refine qa_iconst (pc1 := 15) dX5_waitsFor_14 (v := 2) kc_i2 rfl ?_
      refine qa_ic_ne (tgt := 22) (pc1 := 18) dX5_waitsFor_15 rfl rfl (fun h15 => ?_) (fun h15 => ?_)
      · refine qa_iconst (pc1 := 23) dX5_waitsFor_22 (v := 0) kc_i0 rfl ?_
        exact qa_iret dX5_waitsFor_23 rfl (by first | rfl | exact kw_bn) (by simp only [kw_b]; grind) rfl rfl rfl
      · refine qa_iconst (pc1 := 19) dX5_waitsFor_18 (v := 1) kc_i1 rfl ?_
        refine qa_goto (tgt := 23) dX5_waitsFor_19 rfl ?_
        exact qa_iret dX5_waitsFor_23 rfl (by first | rfl | exact kw_bn) (by simp only [kw_b]; grind) rfl rfl rfl
set_option maxRecDepth 20000 in
set_option maxHeartbeats 4000000 in
theorem ct_settle {p i : Nat} (hp : p < 2) (hi : i < 4) (k a b1 : Int32) : kw_C l D aC b yX5_settle cX5_settle 4 none 1 [.inr (.inl (59 + 6 * p + i)), .inl k, .inl a, .inl b1] C M P none (xc_settle C (59 + 6 * p + i) k a b1) M P := by
  refine ax_body (own := RX5) (ini := false) (by decide) rfl (fun h => by cases h) (Nat.le_of_ble_eq_true rfl) ?_
  refine qa_iload_n (pc1 := 1) dX5_settle_0 rfl rfl rfl ?_
  refine qa_iconst (pc1 := 2) dX5_settle_1 (v := 1) kc_i1 rfl ?_
  refine qa_ic_ne (tgt := 26) (pc1 := 5) dX5_settle_2 rfl rfl (fun h2 => ?_) (fun h2 => ?_)
  · refine qa_aload_n (pc1 := 27) dX5_settle_26 rfl rfl rfl ?_
    refine qa_iconst (pc1 := 28) dX5_settle_27 (v := 0) kc_i0 rfl ?_
    refine qc_putI (pc1 := 31) dX5_settle_28 rfl wp_X5_9 rfl rfl rfl (ko_ln _ (by assumption) _ (by assumption)) (by omega) (by omega) ?_
    refine qa_iload_n (pc1 := 32) dX5_settle_31 rfl rfl rfl ?_
    refine qa_iconst (pc1 := 33) dX5_settle_32 (v := 2) kc_i2 rfl ?_
    refine qa_ic_ne (tgt := 41) (pc1 := 36) dX5_settle_33 rfl rfl (fun h33 => ?_) (fun h33 => ?_)
    · exact qa_vret dX5_settle_41 rfl rfl (by simp only [xc_settle]; grind) rfl rfl
    · refine qa_aload_n (pc1 := 37) dX5_settle_36 rfl rfl rfl ?_
      refine qa_iconst (pc1 := 38) dX5_settle_37 (v := 2) kc_i2 rfl ?_
      refine qc_putI (pc1 := 41) dX5_settle_38 rfl wp_X5_15 rfl rfl rfl (ko_ln _ (by assumption) _ (by assumption)) (by omega) (by omega) ?_
      exact qa_vret dX5_settle_41 rfl rfl (by simp only [xc_settle]; grind) rfl rfl
  · refine qa_aload_n (pc1 := 6) dX5_settle_5 rfl rfl rfl ?_
    refine qa_iconst (pc1 := 7) dX5_settle_6 (v := 2) kc_i2 rfl ?_
    refine qc_putI (pc1 := 10) dX5_settle_7 rfl wp_X5_9 rfl rfl rfl (ko_ln _ (by assumption) _ (by assumption)) (by omega) (by omega) ?_
    refine qa_aload_n (pc1 := 11) dX5_settle_10 rfl rfl rfl ?_
    refine qa_iconst (pc1 := 12) dX5_settle_11 (v := 1) kc_i1 rfl ?_
    refine qc_putI (pc1 := 15) dX5_settle_12 rfl wp_X5_15 rfl rfl rfl (ko_ln _ (by assumption) _ (by assumption)) (by omega) (by omega) ?_
    refine qa_aload_n (pc1 := 16) dX5_settle_15 rfl rfl rfl ?_
    refine qa_iload_n (pc1 := 17) dX5_settle_16 rfl rfl rfl ?_
    refine qc_putI (pc1 := 20) dX5_settle_17 rfl wp_X5_18 rfl rfl rfl (ko_ln _ (by assumption) _ (by assumption)) (by omega) (by omega) ?_
    refine qa_aload_n (pc1 := 21) dX5_settle_20 rfl rfl rfl ?_
    refine qa_iload_n (pc1 := 22) dX5_settle_21 rfl rfl rfl ?_
    refine qc_putI (pc1 := 25) dX5_settle_22 rfl wp_X5_21 rfl rfl rfl (ko_ln _ (by assumption) _ (by assumption)) (by omega) (by omega) ?_
    exact qa_vret dX5_settle_25 rfl rfl (by simp only [xc_settle]; grind) rfl rfl
set_option maxRecDepth 20000 in
set_option maxHeartbeats 4000000 in
theorem ct_giveUp {p i : Nat} (hp : p < 2) (hi : i < 4) : kw_C l D aC b yX5_giveUp cX5_giveUp 1 none 1 [.inr (.inl (59 + 6 * p + i))] C M P none (xc_give C (59 + 6 * p + i)) M P := by
  refine ax_body (own := RX5) (ini := false) (by decide) rfl (fun h => by cases h) (Nat.le_of_ble_eq_true rfl) ?_
  refine qa_aload_n (pc1 := 1) dX5_giveUp_0 rfl rfl rfl ?_
  refine qc_getI (pc1 := 4) dX5_giveUp_1 rfl wf_X5_9 rfl (ko_ln _ (by assumption) _ (by assumption)) (by omega) (by omega) ?_
  refine qa_iconst (pc1 := 5) dX5_giveUp_4 (v := 1) kc_i1 rfl ?_
  refine qa_ic_ne (tgt := 13) (pc1 := 8) dX5_giveUp_5 rfl rfl (fun h5 => ?_) (fun h5 => ?_)
  · refine qa_aload_n (pc1 := 14) dX5_giveUp_13 rfl rfl rfl ?_
    refine qa_iconst (pc1 := 15) dX5_giveUp_14 (v := 0) kc_i0 rfl ?_
    refine qc_putI (pc1 := 18) dX5_giveUp_15 rfl wp_X5_9 rfl rfl rfl (ko_ln _ (by assumption) _ (by assumption)) (by omega) (by omega) ?_
    exact qa_vret dX5_giveUp_18 rfl rfl (by simp only [xc_give]; grind) rfl rfl
  · refine qa_aload_n (pc1 := 9) dX5_giveUp_8 rfl rfl rfl ?_
    refine qa_iconst (pc1 := 10) dX5_giveUp_9 (v := 3) kc_i3 rfl ?_
    refine qc_putI (pc1 := 13) dX5_giveUp_10 rfl wp_X5_15 rfl rfl rfl (ko_ln _ (by assumption) _ (by assumption)) (by omega) (by omega) ?_
    refine qa_aload_n (pc1 := 14) dX5_giveUp_13 rfl rfl rfl ?_
    refine qa_iconst (pc1 := 15) dX5_giveUp_14 (v := 0) kc_i0 rfl ?_
    refine qc_putI (pc1 := 18) dX5_giveUp_15 rfl wp_X5_9 rfl rfl rfl (ko_ln _ (by assumption) _ (by assumption)) (by omega) (by omega) ?_
    exact qa_vret dX5_giveUp_18 rfl rfl (by simp only [xc_give]; grind) rfl rfl
set_option maxRecDepth 20000 in
set_option maxHeartbeats 4000000 in
theorem ct_ltell {p i : Nat} (hp : p < 2) (hi : i < 4) (w : Int32) : kw_C l D aC b yX5_tell cX5_tell 3 (some .int) 2 [.inr (.inl (59 + 6 * p + i)), .inl w] C M P (some (.inl (xc_ltell C (59 + 6 * p + i) w))) C M P := by
  refine ax_body (own := RX5) (ini := false) (by decide) rfl (fun h => by cases h) (Nat.le_of_ble_eq_true rfl) ?_
  refine qa_aload_n (pc1 := 1) dX5_tell_0 rfl rfl rfl ?_
  refine qc_getI (pc1 := 4) dX5_tell_1 rfl wf_X5_9 rfl (ko_ln _ (by assumption) _ (by assumption)) (by omega) (by omega) ?_
  refine qa_iconst (pc1 := 5) dX5_tell_4 (v := 2) kc_i2 rfl ?_
  refine qa_ic_eq (tgt := 16) (pc1 := 8) dX5_tell_5 rfl rfl (fun h5 => ?_) (fun h5 => ?_)
  · refine qa_iconst (pc1 := 17) dX5_tell_16 (v := 1) kc_i1 rfl ?_
    refine qa_goto (tgt := 21) dX5_tell_17 rfl ?_
    refine qa_istore_n (pc1 := 22) dX5_tell_21 rfl (by decide) rfl ?_
    refine qa_iload_n (pc1 := 23) dX5_tell_22 rfl rfl rfl ?_
    rcases kw_case5 w with rfl | rfl | rfl | rfl | rfl | hw
    · refine qa_tableIn (tgt := 56) dX5_tell_23 (by decide) (by decide) rfl rfl ?_
      refine qa_aload_n (pc1 := 57) dX5_tell_56 rfl rfl rfl ?_
      refine qc_getI (pc1 := 60) dX5_tell_57 rfl wf_X5_9 rfl (ko_ln _ (by assumption) _ (by assumption)) (by omega) (by omega) ?_
      exact qa_iret dX5_tell_60 rfl (vp_nar_int _) (by simp only [xc_ltell]; grind) rfl rfl rfl
    · refine qa_tableIn (tgt := 61) dX5_tell_23 (by decide) (by decide) rfl rfl ?_
      refine qa_aload_n (pc1 := 62) dX5_tell_61 rfl rfl rfl ?_
      refine qc_getI (pc1 := 65) dX5_tell_62 rfl wf_X5_15 rfl (ko_ln _ (by assumption) _ (by assumption)) (by omega) (by omega) ?_
      exact qa_iret dX5_tell_65 rfl (vp_nar_int _) (by simp only [xc_ltell]; grind) rfl rfl rfl
    · refine qa_tableIn (tgt := 66) dX5_tell_23 (by decide) (by decide) rfl rfl ?_
      refine qa_aload_n (pc1 := 67) dX5_tell_66 rfl rfl rfl ?_
      refine qa_callVi (pc1 := 70) dX5_tell_67 rfl (ct_isPending (by assumption) (by assumption)) wc_X5_24 wy_X5_isPending rfl rfl (ci := k_ln) rfl (ko_ln _ (by assumption) _ (by assumption)) (by omega) rfl ?_
      refine qb_if_eq (tgt := 80) (pc1 := 73) dX5_tell_70 rfl rfl (fun h70 => ?_) (fun h70 => ?_)
      · refine qa_iconst (pc1 := 81) dX5_tell_80 (v := (-1)) kc_im1 rfl ?_
        exact qa_iret dX5_tell_81 rfl (vp_nar_int _) (by simp only [xc_ltell]; grind) rfl rfl rfl
      · refine qa_aload_n (pc1 := 74) dX5_tell_73 rfl rfl rfl ?_
        refine qc_getI (pc1 := 77) dX5_tell_74 rfl wf_X5_28 rfl (ko_ln _ (by assumption) _ (by assumption)) (by omega) (by omega) ?_
        refine qa_goto (tgt := 81) dX5_tell_77 rfl ?_
        exact qa_iret dX5_tell_81 rfl (vp_nar_int _) (by simp only [xc_ltell]; grind) rfl rfl rfl
    · refine qa_tableIn (tgt := 82) dX5_tell_23 (by decide) (by decide) rfl rfl ?_
      refine qa_iload_n (pc1 := 83) dX5_tell_82 rfl rfl rfl ?_
      refine qa_if_eq (tgt := 93) (pc1 := 86) dX5_tell_83 rfl rfl (fun h83 => ?_) (fun h83 => ?_)
      · refine qa_iconst (pc1 := 94) dX5_tell_93 (v := (-1)) kc_im1 rfl ?_
        exact qa_iret dX5_tell_94 rfl (vp_nar_int _) (by simp only [xc_ltell]; grind) rfl rfl rfl
      · refine qa_aload_n (pc1 := 87) dX5_tell_86 rfl rfl rfl ?_
        refine qc_getI (pc1 := 90) dX5_tell_87 rfl wf_X5_18 rfl (ko_ln _ (by assumption) _ (by assumption)) (by omega) (by omega) ?_
        refine qa_goto (tgt := 94) dX5_tell_90 rfl ?_
        exact qa_iret dX5_tell_94 rfl (vp_nar_int _) (by simp only [xc_ltell]; grind) rfl rfl rfl
    · refine qa_tableIn (tgt := 95) dX5_tell_23 (by decide) (by decide) rfl rfl ?_
      refine qa_iload_n (pc1 := 96) dX5_tell_95 rfl rfl rfl ?_
      refine qa_if_eq (tgt := 106) (pc1 := 99) dX5_tell_96 rfl rfl (fun h96 => ?_) (fun h96 => ?_)
      · refine qa_iconst (pc1 := 107) dX5_tell_106 (v := (-1)) kc_im1 rfl ?_
        exact qa_iret dX5_tell_107 rfl (vp_nar_int _) (by simp only [xc_ltell]; grind) rfl rfl rfl
      · refine qa_aload_n (pc1 := 100) dX5_tell_99 rfl rfl rfl ?_
        refine qc_getI (pc1 := 103) dX5_tell_100 rfl wf_X5_21 rfl (ko_ln _ (by assumption) _ (by assumption)) (by omega) (by omega) ?_
        refine qa_goto (tgt := 107) dX5_tell_103 rfl ?_
        exact qa_iret dX5_tell_107 rfl (vp_nar_int _) (by simp only [xc_ltell]; grind) rfl rfl rfl
    · refine qa_tableOut (tgt := 108) dX5_tell_23 rfl hw.2.2.2.2.2 ?_
      refine qa_iconst (pc1 := 109) dX5_tell_108 (v := (-1)) kc_im1 rfl ?_
      exact qa_iret dX5_tell_109 rfl (vp_nar_int _) (by simp only [xc_ltell]; grind) rfl rfl rfl
  · refine qa_aload_n (pc1 := 9) dX5_tell_8 rfl rfl rfl ?_
    refine qc_getI (pc1 := 12) dX5_tell_9 rfl wf_X5_9 rfl (ko_ln _ (by assumption) _ (by assumption)) (by omega) (by omega) ?_
    refine qa_iconst (pc1 := 13) dX5_tell_12 (v := 3) kc_i3 rfl ?_
    refine qa_ic_ne (tgt := 20) (pc1 := 16) dX5_tell_13 rfl rfl (fun h13 => ?_) (fun h13 => ?_)
    · refine qa_iconst (pc1 := 21) dX5_tell_20 (v := 0) kc_i0 rfl ?_
      refine qa_istore_n (pc1 := 22) dX5_tell_21 rfl (by decide) rfl ?_
      refine qa_iload_n (pc1 := 23) dX5_tell_22 rfl rfl rfl ?_
      rcases kw_case5 w with rfl | rfl | rfl | rfl | rfl | hw
      · refine qa_tableIn (tgt := 56) dX5_tell_23 (by decide) (by decide) rfl rfl ?_
        refine qa_aload_n (pc1 := 57) dX5_tell_56 rfl rfl rfl ?_
        refine qc_getI (pc1 := 60) dX5_tell_57 rfl wf_X5_9 rfl (ko_ln _ (by assumption) _ (by assumption)) (by omega) (by omega) ?_
        exact qa_iret dX5_tell_60 rfl (vp_nar_int _) (by simp only [xc_ltell]; grind) rfl rfl rfl
      · refine qa_tableIn (tgt := 61) dX5_tell_23 (by decide) (by decide) rfl rfl ?_
        refine qa_aload_n (pc1 := 62) dX5_tell_61 rfl rfl rfl ?_
        refine qc_getI (pc1 := 65) dX5_tell_62 rfl wf_X5_15 rfl (ko_ln _ (by assumption) _ (by assumption)) (by omega) (by omega) ?_
        exact qa_iret dX5_tell_65 rfl (vp_nar_int _) (by simp only [xc_ltell]; grind) rfl rfl rfl
      · refine qa_tableIn (tgt := 66) dX5_tell_23 (by decide) (by decide) rfl rfl ?_
        refine qa_aload_n (pc1 := 67) dX5_tell_66 rfl rfl rfl ?_
        refine qa_callVi (pc1 := 70) dX5_tell_67 rfl (ct_isPending (by assumption) (by assumption)) wc_X5_24 wy_X5_isPending rfl rfl (ci := k_ln) rfl (ko_ln _ (by assumption) _ (by assumption)) (by omega) rfl ?_
        refine qb_if_eq (tgt := 80) (pc1 := 73) dX5_tell_70 rfl rfl (fun h70 => ?_) (fun h70 => ?_)
        · refine qa_iconst (pc1 := 81) dX5_tell_80 (v := (-1)) kc_im1 rfl ?_
          exact qa_iret dX5_tell_81 rfl (vp_nar_int _) (by simp only [xc_ltell]; grind) rfl rfl rfl
        · refine qa_aload_n (pc1 := 74) dX5_tell_73 rfl rfl rfl ?_
          refine qc_getI (pc1 := 77) dX5_tell_74 rfl wf_X5_28 rfl (ko_ln _ (by assumption) _ (by assumption)) (by omega) (by omega) ?_
          refine qa_goto (tgt := 81) dX5_tell_77 rfl ?_
          exact qa_iret dX5_tell_81 rfl (vp_nar_int _) (by simp only [xc_ltell]; grind) rfl rfl rfl
      · refine qa_tableIn (tgt := 82) dX5_tell_23 (by decide) (by decide) rfl rfl ?_
        refine qa_iload_n (pc1 := 83) dX5_tell_82 rfl rfl rfl ?_
        refine qa_if_eq (tgt := 93) (pc1 := 86) dX5_tell_83 rfl rfl (fun h83 => ?_) (fun h83 => ?_)
        · refine qa_iconst (pc1 := 94) dX5_tell_93 (v := (-1)) kc_im1 rfl ?_
          exact qa_iret dX5_tell_94 rfl (vp_nar_int _) (by simp only [xc_ltell]; grind) rfl rfl rfl
        · refine qa_aload_n (pc1 := 87) dX5_tell_86 rfl rfl rfl ?_
          refine qc_getI (pc1 := 90) dX5_tell_87 rfl wf_X5_18 rfl (ko_ln _ (by assumption) _ (by assumption)) (by omega) (by omega) ?_
          refine qa_goto (tgt := 94) dX5_tell_90 rfl ?_
          exact qa_iret dX5_tell_94 rfl (vp_nar_int _) (by simp only [xc_ltell]; grind) rfl rfl rfl
      · refine qa_tableIn (tgt := 95) dX5_tell_23 (by decide) (by decide) rfl rfl ?_
        refine qa_iload_n (pc1 := 96) dX5_tell_95 rfl rfl rfl ?_
        refine qa_if_eq (tgt := 106) (pc1 := 99) dX5_tell_96 rfl rfl (fun h96 => ?_) (fun h96 => ?_)
        · refine qa_iconst (pc1 := 107) dX5_tell_106 (v := (-1)) kc_im1 rfl ?_
          exact qa_iret dX5_tell_107 rfl (vp_nar_int _) (by simp only [xc_ltell]; grind) rfl rfl rfl
        · refine qa_aload_n (pc1 := 100) dX5_tell_99 rfl rfl rfl ?_
          refine qc_getI (pc1 := 103) dX5_tell_100 rfl wf_X5_21 rfl (ko_ln _ (by assumption) _ (by assumption)) (by omega) (by omega) ?_
          refine qa_goto (tgt := 107) dX5_tell_103 rfl ?_
          exact qa_iret dX5_tell_107 rfl (vp_nar_int _) (by simp only [xc_ltell]; grind) rfl rfl rfl
      · refine qa_tableOut (tgt := 108) dX5_tell_23 rfl hw.2.2.2.2.2 ?_
        refine qa_iconst (pc1 := 109) dX5_tell_108 (v := (-1)) kc_im1 rfl ?_
        exact qa_iret dX5_tell_109 rfl (vp_nar_int _) (by simp only [xc_ltell]; grind) rfl rfl rfl
    · refine qa_iconst (pc1 := 17) dX5_tell_16 (v := 1) kc_i1 rfl ?_
      refine qa_goto (tgt := 21) dX5_tell_17 rfl ?_
      refine qa_istore_n (pc1 := 22) dX5_tell_21 rfl (by decide) rfl ?_
      refine qa_iload_n (pc1 := 23) dX5_tell_22 rfl rfl rfl ?_
      rcases kw_case5 w with rfl | rfl | rfl | rfl | rfl | hw
      · refine qa_tableIn (tgt := 56) dX5_tell_23 (by decide) (by decide) rfl rfl ?_
        refine qa_aload_n (pc1 := 57) dX5_tell_56 rfl rfl rfl ?_
        refine qc_getI (pc1 := 60) dX5_tell_57 rfl wf_X5_9 rfl (ko_ln _ (by assumption) _ (by assumption)) (by omega) (by omega) ?_
        exact qa_iret dX5_tell_60 rfl (vp_nar_int _) (by simp only [xc_ltell]; grind) rfl rfl rfl
      · refine qa_tableIn (tgt := 61) dX5_tell_23 (by decide) (by decide) rfl rfl ?_
        refine qa_aload_n (pc1 := 62) dX5_tell_61 rfl rfl rfl ?_
        refine qc_getI (pc1 := 65) dX5_tell_62 rfl wf_X5_15 rfl (ko_ln _ (by assumption) _ (by assumption)) (by omega) (by omega) ?_
        exact qa_iret dX5_tell_65 rfl (vp_nar_int _) (by simp only [xc_ltell]; grind) rfl rfl rfl
      · refine qa_tableIn (tgt := 66) dX5_tell_23 (by decide) (by decide) rfl rfl ?_
        refine qa_aload_n (pc1 := 67) dX5_tell_66 rfl rfl rfl ?_
        refine qa_callVi (pc1 := 70) dX5_tell_67 rfl (ct_isPending (by assumption) (by assumption)) wc_X5_24 wy_X5_isPending rfl rfl (ci := k_ln) rfl (ko_ln _ (by assumption) _ (by assumption)) (by omega) rfl ?_
        refine qb_if_eq (tgt := 80) (pc1 := 73) dX5_tell_70 rfl rfl (fun h70 => ?_) (fun h70 => ?_)
        · refine qa_iconst (pc1 := 81) dX5_tell_80 (v := (-1)) kc_im1 rfl ?_
          exact qa_iret dX5_tell_81 rfl (vp_nar_int _) (by simp only [xc_ltell]; grind) rfl rfl rfl
        · refine qa_aload_n (pc1 := 74) dX5_tell_73 rfl rfl rfl ?_
          refine qc_getI (pc1 := 77) dX5_tell_74 rfl wf_X5_28 rfl (ko_ln _ (by assumption) _ (by assumption)) (by omega) (by omega) ?_
          refine qa_goto (tgt := 81) dX5_tell_77 rfl ?_
          exact qa_iret dX5_tell_81 rfl (vp_nar_int _) (by simp only [xc_ltell]; grind) rfl rfl rfl
      · refine qa_tableIn (tgt := 82) dX5_tell_23 (by decide) (by decide) rfl rfl ?_
        refine qa_iload_n (pc1 := 83) dX5_tell_82 rfl rfl rfl ?_
        refine qa_if_eq (tgt := 93) (pc1 := 86) dX5_tell_83 rfl rfl (fun h83 => ?_) (fun h83 => ?_)
        · refine qa_iconst (pc1 := 94) dX5_tell_93 (v := (-1)) kc_im1 rfl ?_
          exact qa_iret dX5_tell_94 rfl (vp_nar_int _) (by simp only [xc_ltell]; grind) rfl rfl rfl
        · refine qa_aload_n (pc1 := 87) dX5_tell_86 rfl rfl rfl ?_
          refine qc_getI (pc1 := 90) dX5_tell_87 rfl wf_X5_18 rfl (ko_ln _ (by assumption) _ (by assumption)) (by omega) (by omega) ?_
          refine qa_goto (tgt := 94) dX5_tell_90 rfl ?_
          exact qa_iret dX5_tell_94 rfl (vp_nar_int _) (by simp only [xc_ltell]; grind) rfl rfl rfl
      · refine qa_tableIn (tgt := 95) dX5_tell_23 (by decide) (by decide) rfl rfl ?_
        refine qa_iload_n (pc1 := 96) dX5_tell_95 rfl rfl rfl ?_
        refine qa_if_eq (tgt := 106) (pc1 := 99) dX5_tell_96 rfl rfl (fun h96 => ?_) (fun h96 => ?_)
        · refine qa_iconst (pc1 := 107) dX5_tell_106 (v := (-1)) kc_im1 rfl ?_
          exact qa_iret dX5_tell_107 rfl (vp_nar_int _) (by simp only [xc_ltell]; grind) rfl rfl rfl
        · refine qa_aload_n (pc1 := 100) dX5_tell_99 rfl rfl rfl ?_
          refine qc_getI (pc1 := 103) dX5_tell_100 rfl wf_X5_21 rfl (ko_ln _ (by assumption) _ (by assumption)) (by omega) (by omega) ?_
          refine qa_goto (tgt := 107) dX5_tell_103 rfl ?_
          exact qa_iret dX5_tell_107 rfl (vp_nar_int _) (by simp only [xc_ltell]; grind) rfl rfl rfl
      · refine qa_tableOut (tgt := 108) dX5_tell_23 rfl hw.2.2.2.2.2 ?_
        refine qa_iconst (pc1 := 109) dX5_tell_108 (v := (-1)) kc_im1 rfl ?_
        exact qa_iret dX5_tell_109 rfl (vp_nar_int _) (by simp only [xc_ltell]; grind) rfl rfl rfl
set_option maxRecDepth 20000 in
set_option maxHeartbeats 4000000 in
theorem ct_idBehind (x : Int32) : kw_C l D aC b yX7_idBehind cX7_idBehind 1 (some .int) 1 [.inl x] C M P (some (.inl (xc_nx x))) C M P := by
  refine ax_body (own := RX7) (ini := false) (by decide) rfl (fun h => by cases h) (Nat.le_of_ble_eq_true rfl) ?_
  refine qa_iload_n (pc1 := 1) dX7_idBehind_0 rfl rfl rfl ?_
  refine qa_iconst (pc1 := 2) dX7_idBehind_1 (v := 1) kc_i1 rfl ?_
  refine qa_iadd (pc1 := 3) dX7_idBehind_2 rfl ?_
  refine qa_bipush (pc1 := 5) dX7_idBehind_3 (v := 8) kc_b8 rfl ?_
  refine qa_irem (pc1 := 6) dX7_idBehind_5 (by decide) rfl ?_
  exact qa_iret dX7_idBehind_6 rfl (vp_nar_int _) rfl rfl rfl rfl
set_option maxRecDepth 20000 in
set_option maxHeartbeats 4000000 in
theorem ct_pend (hps : kw_ps P) {p : Nat} (hp : p < 2) (id : Int32) : kw_C l D aC b yX7_pendingLineWith cX7_pendingLineWith 3 (some (.object "RealmLogins$Line")) 2 [.inr (.inl (57 + 6 * p)), .inl id] C M P (some (.inr (.inl (xc_pend C p id)))) C M P := by
  refine ax_body (own := RX7) (ini := false) (by decide) rfl (fun h => by cases h) (Nat.le_of_ble_eq_true rfl) ?_
  have loop : ∀ i, i ≤ 4 → kw_first (xc_pc C p id) i (4 - i) = kw_first (xc_pc C p id) 0 4 → ax_G l D aC b RX7 cX7_pendingLineWith 3 (some (.object "RealmLogins$Line")) false (kw_rm 2) 191 (ax_F D aC b 191 0 0 (kw_R (some (.inr (.inl (xc_pend C p id)))) kw_K kw_L (kw_gl C M) P)) (fun _ => True) 2 [(2, .inl (nI i)), (0, .inr (.inl (57 + 6 * p))), (1, .inl id)] [] 0 0 kw_K kw_L (kw_gl C M) P := by
    refine kw_loopB 4 (fun i hiN ih hf => ?_)
    refine qa_iload_n (pc1 := 3) dX7_pendingLineWith_2 rfl rfl rfl ?_
    refine qa_iconst (pc1 := 4) dX7_pendingLineWith_3 (v := (nI 4)) kc_i4N rfl ?_
    refine qn_ic_ge (tgt := 45) (pc1 := 7) dX7_pendingLineWith_4 rfl rfl (by omega) (by omega) (fun h4 => ?_) (fun h4 => ?_)
    · refine qa_null (pc1 := 46) dX7_pendingLineWith_45 rfl ?_
      exact qa_aret dX7_pendingLineWith_46 rfl (Or.inl ⟨_, rfl⟩) (by rw [xc_pend, ← hf, kw_first_e (by omega)]; rfl) rfl rfl rfl
    · have hi : i < 4 := by omega
      refine qa_aload_n (pc1 := 8) dX7_pendingLineWith_7 rfl rfl rfl ?_
      refine qa_getP (pc1 := 11) dX7_pendingLineWith_8 rfl wf_X7_13 rfl (ko_pt _ (by assumption)) (by omega) (kp_lns hps (by assumption)) ?_
      refine qa_iload_n (pc1 := 12) dX7_pendingLineWith_11 rfl rfl rfl ?_
      refine qa_aald (pc1 := 13) dX7_pendingLineWith_12 rfl (ka_lns _ (by assumption)) rfl (by omega) (by omega) (kp_ln hps (by assumption) (by assumption)) ?_
      refine qa_callVi (pc1 := 16) dX7_pendingLineWith_13 rfl (ct_isPending (by assumption) (by assumption)) wc_X7_53 wy_X5_isPending rfl rfl (ci := k_ln) rfl (ko_ln _ (by assumption) _ (by assumption)) (by omega) rfl ?_
      refine qb_if_eq (tgt := 39) (pc1 := 19) dX7_pendingLineWith_16 rfl rfl (fun h16 => ?_) (fun h16 => ?_)
      · refine qa_iincN (pc1 := 42) dX7_pendingLineWith_39 rfl (by decide) rfl ?_
        refine qa_goto (tgt := 2) dX7_pendingLineWith_42 rfl ?_
        exact qa_ls (by exact (kw_lsc rfl (kw_lsc rfl (kw_lsc rfl kw_lsn)))) (ih (by omega) ((kw_first_f (by omega) (by simp only [xc_pc, decide_eq_true_eq]; grind)).symm.trans hf))
      · refine qa_aload_n (pc1 := 20) dX7_pendingLineWith_19 rfl rfl rfl ?_
        refine qa_getP (pc1 := 23) dX7_pendingLineWith_20 rfl wf_X7_13 rfl (ko_pt _ (by assumption)) (by omega) (kp_lns hps (by assumption)) ?_
        refine qa_iload_n (pc1 := 24) dX7_pendingLineWith_23 rfl rfl rfl ?_
        refine qa_aald (pc1 := 25) dX7_pendingLineWith_24 rfl (ka_lns _ (by assumption)) rfl (by omega) (by omega) (kp_ln hps (by assumption) (by assumption)) ?_
        refine qc_getI (pc1 := 28) dX7_pendingLineWith_25 rfl wf_X7_29 rfl (ko_ln _ (by assumption) _ (by assumption)) (by omega) (by omega) ?_
        refine qa_iload_n (pc1 := 29) dX7_pendingLineWith_28 rfl rfl rfl ?_
        refine qa_ic_ne (tgt := 39) (pc1 := 32) dX7_pendingLineWith_29 rfl rfl (fun h29 => ?_) (fun h29 => ?_)
        · refine qa_iincN (pc1 := 42) dX7_pendingLineWith_39 rfl (by decide) rfl ?_
          refine qa_goto (tgt := 2) dX7_pendingLineWith_42 rfl ?_
          exact qa_ls (by exact (kw_lsc rfl (kw_lsc rfl (kw_lsc rfl kw_lsn)))) (ih (by omega) ((kw_first_f (by omega) (by simp only [xc_pc, decide_eq_true_eq]; grind)).symm.trans hf))
        · refine qa_aload_n (pc1 := 33) dX7_pendingLineWith_32 rfl rfl rfl ?_
          refine qa_getP (pc1 := 36) dX7_pendingLineWith_33 rfl wf_X7_13 rfl (ko_pt _ (by assumption)) (by omega) (kp_lns hps (by assumption)) ?_
          refine qa_iload_n (pc1 := 37) dX7_pendingLineWith_36 rfl rfl rfl ?_
          refine qa_aald (pc1 := 38) dX7_pendingLineWith_37 rfl (ka_lns _ (by assumption)) rfl (by omega) (by omega) (kp_ln hps (by assumption) (by assumption)) ?_
          exact qa_aret dX7_pendingLineWith_38 rfl (Or.inl ⟨_, rfl⟩) (by rw [xc_pend, ← hf, kw_first_t (by omega) (by simp only [xc_pc, decide_eq_true_eq]; grind)]; rfl) rfl rfl rfl
  refine qa_iconst (pc1 := 1) dX7_pendingLineWith_0 (v := (nI 0)) kc_i0N rfl ?_
  refine qa_istore_n (pc1 := 2) dX7_pendingLineWith_1 rfl (by decide) rfl ?_
  exact qa_ls (by exact (kw_lsc rfl (kw_lsc rfl (kw_lsc rfl kw_lsn)))) (loop 0 (Nat.zero_le _) rfl)
theorem xc_find_end {C : ax_I} {p i : Nat} {id r : Int32} (hf : xc_find C p (8 - i) id = r) (h : 8 ≤ i ∨ xc_pend C p id = 0) : id = r := by
  by_cases e : 8 ≤ i
  · rw [show 8 - i = 0 from by omega] at hf; exact hf
  · have h2 : xc_pend C p id = 0 := by rcases h with h | h; exact absurd h e; exact h
    rw [show 8 - i = (7 - i) + 1 from by omega] at hf
    simp only [xc_find, if_pos h2] at hf
    exact hf
set_option maxRecDepth 20000 in
set_option maxHeartbeats 4000000 in
theorem ct_newId (hps : kw_ps P) {p : Nat} (hp : p < 2) : kw_C l D aC b yX7_newId cX7_newId 3 (some .int) 3 [.inr (.inl (57 + 6 * p))] C M P (some (.inl (xc_nid C p))) (ax_u C (57 + 6 * p) 2 (xc_nid C p)) M P := by
  refine ax_body (own := RX7) (ini := false) (by decide) rfl (fun h => by cases h) (Nat.le_of_ble_eq_true rfl) ?_
  have loop : ∀ i, i ≤ 8 → ∀ id, xc_find C p (8 - i) id = xc_nid C p → ax_G l D aC b RX7 cX7_newId 3 (some .int) false (kw_rm 3) 191 (ax_F D aC b 191 0 0 (kw_R (some (.inl (xc_nid C p))) kw_K kw_L (kw_gl (ax_u C (57 + 6 * p) 2 (xc_nid C p)) M) P)) (fun _ => True) 10 [(2, .inl (nI i)), (1, .inl id), (0, .inr (.inl (57 + 6 * p)))] [] 0 0 kw_K kw_L (kw_gl C M) P := by
    refine kw_loopB 8 (fun i hiN ih id hf => ?_)
    refine qa_iload_n (pc1 := 11) dX7_newId_10 rfl rfl rfl ?_
    refine qa_bipush (pc1 := 13) dX7_newId_11 (v := (nI 8)) kc_b8N rfl ?_
    refine qn_ic_ge (tgt := 35) (pc1 := 16) dX7_newId_13 rfl rfl (by omega) (by omega) (fun h13 => ?_) (fun h13 => ?_)
    · refine qa_aload_n (pc1 := 36) dX7_newId_35 rfl rfl rfl ?_
      refine qa_iload_n (pc1 := 37) dX7_newId_36 rfl rfl rfl ?_
      refine qc_putI (pc1 := 40) dX7_newId_37 rfl wp_X7_17 rfl rfl rfl (ko_pt _ (by assumption)) (by omega) (by omega) ?_
      refine qa_iload_n (pc1 := 41) dX7_newId_40 rfl rfl rfl ?_
      exact qa_iret dX7_newId_41 rfl (vp_nar_int _) (by rw [← xc_find_end hf (by grind)]) (by rw [← xc_find_end hf (by grind)]) rfl rfl
    · refine qa_aload_n (pc1 := 17) dX7_newId_16 rfl rfl rfl ?_
      refine qa_iload_n (pc1 := 18) dX7_newId_17 rfl rfl rfl ?_
      refine qa_callVr (pc1 := 21) dX7_newId_18 rfl (ct_pend hps (by assumption) _) wc_X7_49 wy_X7_pendingLineWith rfl rfl (ci := k_pt) rfl (ko_pt _ (by assumption)) (by omega) rfl ?_
      refine qa_ifnull (tgt := 35) (pc1 := 24) dX7_newId_21 rfl rfl (fun h21 => ?_) (fun h21 => ?_)
      · refine qa_aload_n (pc1 := 36) dX7_newId_35 rfl rfl rfl ?_
        refine qa_iload_n (pc1 := 37) dX7_newId_36 rfl rfl rfl ?_
        refine qc_putI (pc1 := 40) dX7_newId_37 rfl wp_X7_17 rfl rfl rfl (ko_pt _ (by assumption)) (by omega) (by omega) ?_
        refine qa_iload_n (pc1 := 41) dX7_newId_40 rfl rfl rfl ?_
        exact qa_iret dX7_newId_41 rfl (vp_nar_int _) (by rw [← xc_find_end hf (by grind)]) (by rw [← xc_find_end hf (by grind)]) rfl rfl
      · refine qa_iload_n (pc1 := 25) dX7_newId_24 rfl rfl rfl ?_
        refine qa_callSi (pc1 := 28) dX7_newId_25 rfl (ct_idBehind _) wc_X7_45 wy_X7_idBehind rfl rfl rfl ?_
        refine qa_istore_n (pc1 := 29) dX7_newId_28 rfl (by decide) rfl ?_
        refine qa_iincN (pc1 := 32) dX7_newId_29 rfl (by decide) rfl ?_
        refine qa_goto (tgt := 10) dX7_newId_32 rfl ?_
        exact qa_ls (by exact (kw_lsc rfl (kw_lsc rfl (kw_lsc rfl kw_lsn)))) (ih (by omega) _ (by rw [← hf, show 8 - i = (8 - (i + 1)) + 1 from by omega]; simp [xc_find, h21]))
  refine qa_aload_n (pc1 := 1) dX7_newId_0 rfl rfl rfl ?_
  refine qc_getI (pc1 := 4) dX7_newId_1 rfl wf_X7_17 rfl (ko_pt _ (by assumption)) (by omega) (by omega) ?_
  refine qa_callSi (pc1 := 7) dX7_newId_4 rfl (ct_idBehind _) wc_X7_45 wy_X7_idBehind rfl rfl rfl ?_
  refine qa_istore_n (pc1 := 8) dX7_newId_7 rfl (by decide) rfl ?_
  refine qa_iconst (pc1 := 9) dX7_newId_8 (v := (nI 0)) kc_i0N rfl ?_
  refine qa_istore_n (pc1 := 10) dX7_newId_9 rfl (by decide) rfl ?_
  exact qa_ls (by exact (kw_lsc rfl (kw_lsc rfl (kw_lsc rfl kw_lsn)))) (loop 0 (Nat.zero_le _) _ rfl)
theorem xc_sf1_ok {C : ax_I} {p i : Nat} (hk : xc_nok C) : xc_nok (xc_sf1 C (59 + 6 * p + i)) := by
  have e : xc_sf1 C (59 + 6 * p + i) 2 3 = C 2 3 := by simp [xc_sf1, ax_u, show ¬ 2 = 59 + 6 * p + i from by omega]
  unfold xc_nok xc_n; rw [e]; exact hk
set_option maxRecDepth 20000 in
set_option maxHeartbeats 4000000 in
theorem ct_sendFor (hps : kw_ps P) (hk : xc_nok C) {p i : Nat} (hp : p < 2) (hi : i < 4) : kw_C l D aC b yX7_sendFor cX7_sendFor 4 none 5 [.inr (.inl (57 + 6 * p)), .inr (.inl (59 + 6 * p + i)), .inr (.inl 2)] C M P none (xc_sendFor C P p (59 + 6 * p + i)) M P := by
  refine ax_body (own := RX7) (ini := false) (by decide) rfl (fun h => by cases h) (Nat.le_of_ble_eq_true rfl) ?_
  refine qa_aload_n (pc1 := 1) dX7_sendFor_0 rfl rfl rfl ?_
  refine qa_dup (pc1 := 2) dX7_sendFor_1 rfl ?_
  refine qc_getI (pc1 := 5) dX7_sendFor_2 rfl wf_X7_38 rfl (ko_ln _ (by assumption) _ (by assumption)) (by omega) (by omega) ?_
  refine qa_iconst (pc1 := 6) dX7_sendFor_5 (v := 1) kc_i1 rfl ?_
  refine qa_iadd (pc1 := 7) dX7_sendFor_6 rfl ?_
  refine qc_putI (pc1 := 10) dX7_sendFor_7 rfl wp_X7_38 rfl rfl rfl (ko_ln _ (by assumption) _ (by assumption)) (by omega) (by omega) ?_
  refine qa_aload_n (pc1 := 11) dX7_sendFor_10 rfl rfl rfl ?_
  refine qa_aload_n (pc1 := 12) dX7_sendFor_11 rfl rfl rfl ?_
  refine qc_getI (pc1 := 15) dX7_sendFor_12 rfl wf_X7_57 rfl ko_net (by omega) (by omega) ?_
  refine qc_putI (pc1 := 18) dX7_sendFor_15 rfl wp_X7_62 rfl rfl rfl (ko_ln _ (by assumption) _ (by assumption)) (by omega) (by omega) ?_
  change ax_G l D aC b RX7 cX7_sendFor 4 none false (kw_rm 5) 191 _ (fun _ => True) 18 _ _ 0 0 kw_K kw_L (kw_gl (xc_sf1 C (59 + 6 * p + i)) M) P
  have hk1 := xc_sf1_ok (p := p) (i := i) hk
  generalize hC1 : xc_sf1 C (59 + 6 * p + i) = C1 at hk1 ⊢
  refine qa_aload_n (pc1 := 19) dX7_sendFor_18 rfl rfl rfl ?_
  refine qc_getI (pc1 := 22) dX7_sendFor_19 rfl wf_X7_32 rfl (ko_ln _ (by assumption) _ (by assumption)) (by omega) (by omega) ?_
  refine qa_iconst (pc1 := 23) dX7_sendFor_22 (v := 1) kc_i1 rfl ?_
  refine qa_ic_ne (tgt := 74) (pc1 := 26) dX7_sendFor_23 rfl rfl (fun h23 => ?_) (fun h23 => ?_)
  · refine qa_aload_n (pc1 := 75) dX7_sendFor_74 rfl rfl rfl ?_
    refine qa_aload_n (pc1 := 76) dX7_sendFor_75 rfl rfl rfl ?_
    refine qc_getI (pc1 := 79) dX7_sendFor_76 rfl wf_X7_21 rfl (ko_pt _ (by assumption)) (by omega) (by omega) ?_
    refine qa_iconst (pc1 := 80) dX7_sendFor_79 (v := 2) kc_i2 rfl ?_
    refine qa_iconst (pc1 := 81) dX7_sendFor_80 (v := 3) kc_i3 rfl ?_
    refine qa_aload_n (pc1 := 82) dX7_sendFor_81 rfl rfl rfl ?_
    refine qc_getI (pc1 := 85) dX7_sendFor_82 rfl wf_X7_29 rfl (ko_ln _ (by assumption) _ (by assumption)) (by omega) (by omega) ?_
    refine qa_aload_n (pc1 := 86) dX7_sendFor_85 rfl rfl rfl ?_
    refine qc_getI (pc1 := 89) dX7_sendFor_86 rfl wf_X7_35 rfl (ko_ln _ (by assumption) _ (by assumption)) (by omega) (by omega) ?_
    refine qa_aload_n (pc1 := 90) dX7_sendFor_89 rfl rfl rfl ?_
    refine qc_getI (pc1 := 93) dX7_sendFor_90 rfl wf_X7_75 rfl (ko_ln _ (by assumption) _ (by assumption)) (by omega) (by omega) ?_
    refine qa_aload_n (pc1 := 94) dX7_sendFor_93 rfl rfl rfl ?_
    refine qc_getI (pc1 := 97) dX7_sendFor_94 rfl wf_X7_82 rfl (ko_ln _ (by assumption) _ (by assumption)) (by omega) (by omega) ?_
    refine qa_callVv (pc1 := 100) dX7_sendFor_97 rfl (ct_snd hps (by assumption) _ _ _ _ _ _ _) wc_X7_78 wy_X6_send rfl rfl (ci := k_net) rfl ko_net (by omega) rfl ?_
    exact qa_vret dX7_sendFor_100 rfl rfl (by rw [xc_sendFor, hC1]; simp only [xc_sf2]; grind) rfl rfl
  · refine qa_aload_n (pc1 := 27) dX7_sendFor_26 rfl rfl rfl ?_
    refine qc_getI (pc1 := 30) dX7_sendFor_27 rfl wf_X7_65 rfl (ko_ln _ (by assumption) _ (by assumption)) (by omega) (by omega) ?_
    refine qa_aload_n (pc1 := 31) dX7_sendFor_30 rfl rfl rfl ?_
    refine qa_aload_n (pc1 := 32) dX7_sendFor_31 rfl rfl rfl ?_
    refine qc_getI (pc1 := 35) dX7_sendFor_32 rfl wf_X7_21 rfl (ko_pt _ (by assumption)) (by omega) (by omega) ?_
    refine qa_iconst (pc1 := 36) dX7_sendFor_35 (v := 2) kc_i2 rfl ?_
    refine qa_callVi (pc1 := 39) dX7_sendFor_36 rfl (ct_keyAt hps _ _) wc_X7_68 wy_X6_keyAt rfl rfl (ci := k_net) rfl ko_net (by omega) rfl ?_
    refine qa_aload_n (pc1 := 40) dX7_sendFor_39 rfl rfl rfl ?_
    refine qc_getI (pc1 := 43) dX7_sendFor_40 rfl wf_X7_35 rfl (ko_ln _ (by assumption) _ (by assumption)) (by omega) (by omega) ?_
    refine qa_callTi (pc1 := 46) dX7_sendFor_43 rfl (ct_mix _ _) wc_X7_72 wy_X0_mix rfl rfl rfl ?_
    refine qa_ixor (pc1 := 47) dX7_sendFor_46 rfl ?_
    refine qa_istore_n (pc1 := 48) dX7_sendFor_47 rfl (by decide) rfl ?_
    refine qa_aload_n (pc1 := 49) dX7_sendFor_48 rfl rfl rfl ?_
    refine qa_aload_n (pc1 := 50) dX7_sendFor_49 rfl rfl rfl ?_
    refine qc_getI (pc1 := 53) dX7_sendFor_50 rfl wf_X7_21 rfl (ko_pt _ (by assumption)) (by omega) (by omega) ?_
    refine qa_iconst (pc1 := 54) dX7_sendFor_53 (v := 2) kc_i2 rfl ?_
    refine qa_iconst (pc1 := 55) dX7_sendFor_54 (v := 0) kc_i0 rfl ?_
    refine qa_aload_n (pc1 := 56) dX7_sendFor_55 rfl rfl rfl ?_
    refine qc_getI (pc1 := 59) dX7_sendFor_56 rfl wf_X7_29 rfl (ko_ln _ (by assumption) _ (by assumption)) (by omega) (by omega) ?_
    refine qa_aload_n (pc1 := 60) dX7_sendFor_59 rfl rfl rfl ?_
    refine qc_getI (pc1 := 63) dX7_sendFor_60 rfl wf_X7_35 rfl (ko_ln _ (by assumption) _ (by assumption)) (by omega) (by omega) ?_
    refine qa_aload_n (pc1 := 64) dX7_sendFor_63 rfl rfl rfl ?_
    refine qc_getI (pc1 := 67) dX7_sendFor_64 rfl wf_X7_75 rfl (ko_ln _ (by assumption) _ (by assumption)) (by omega) (by omega) ?_
    refine qa_iload_n (pc1 := 68) dX7_sendFor_67 rfl rfl rfl ?_
    refine qa_callVv (pc1 := 71) dX7_sendFor_68 rfl (ct_snd hps (by assumption) _ _ _ _ _ _ _) wc_X7_78 wy_X6_send rfl rfl (ci := k_net) rfl ko_net (by omega) rfl ?_
    refine qa_goto (tgt := 100) dX7_sendFor_71 rfl ?_
    exact qa_vret dX7_sendFor_100 rfl rfl (by rw [xc_sendFor, hC1]; simp only [xc_sf2]; grind) rfl rfl
theorem xc_mp1_ok {C : ax_I} {p i : Nat} {st au : Int32} (hk : xc_nok C) : xc_nok (xc_mp1 C p (59 + 6 * p + i) st au) := by
  have e : xc_mp1 C p (59 + 6 * p + i) st au 2 3 = C 2 3 := by simp [xc_mp1, ax_u, show ¬ 2 = 59 + 6 * p + i from by omega, show ¬ 2 = 57 + 6 * p from by omega]
  unfold xc_nok xc_n; rw [e]; exact hk
set_option maxRecDepth 20000 in
set_option maxHeartbeats 4000000 in
theorem ct_makePending (hps : kw_ps P) (hk : xc_nok C) {p i : Nat} (hp : p < 2) (hi : i < 4) (st au : Int32) : kw_C l D aC b yX7_makePending cX7_makePending 5 (some .int) 6 [.inr (.inl (57 + 6 * p)), .inr (.inl (59 + 6 * p + i)), .inl st, .inl au, .inr (.inl 2)] C M P (some (.inl ((xc_mp C P p (59 + 6 * p + i) st au) (59 + 6 * p + i) 2))) (xc_mp C P p (59 + 6 * p + i) st au) M P := by
  refine ax_body (own := RX7) (ini := false) (by decide) rfl (fun h => by cases h) (Nat.le_of_ble_eq_true rfl) ?_
  refine qa_aload_n (pc1 := 1) dX7_makePending_0 rfl rfl rfl ?_
  refine qa_aload_n (pc1 := 2) dX7_makePending_1 rfl rfl rfl ?_
  refine qa_callVi (pc1 := 5) dX7_makePending_2 rfl (ct_newId hps (by assumption)) wc_X7_25 wy_X7_newId rfl rfl (ci := k_pt) rfl (ko_pt _ (by assumption)) (by omega) rfl ?_
  refine qc_putI (pc1 := 8) dX7_makePending_5 rfl wp_X7_29 rfl rfl rfl (ko_ln _ (by assumption) _ (by assumption)) (by omega) (by omega) ?_
  refine qa_aload_n (pc1 := 9) dX7_makePending_8 rfl rfl rfl ?_
  refine qa_iload_n (pc1 := 10) dX7_makePending_9 rfl rfl rfl ?_
  refine qc_putI (pc1 := 13) dX7_makePending_10 rfl wp_X7_32 rfl rfl rfl (ko_ln _ (by assumption) _ (by assumption)) (by omega) (by omega) ?_
  refine qa_aload_n (pc1 := 14) dX7_makePending_13 rfl rfl rfl ?_
  refine qa_iload_n (pc1 := 15) dX7_makePending_14 rfl rfl rfl ?_
  refine qc_putI (pc1 := 18) dX7_makePending_15 rfl wp_X7_35 rfl rfl rfl (ko_ln _ (by assumption) _ (by assumption)) (by omega) (by omega) ?_
  refine qa_aload_n (pc1 := 19) dX7_makePending_18 rfl rfl rfl ?_
  refine qa_iconst (pc1 := 20) dX7_makePending_19 (v := 0) kc_i0 rfl ?_
  refine qc_putI (pc1 := 23) dX7_makePending_20 rfl wp_X7_38 rfl rfl rfl (ko_ln _ (by assumption) _ (by assumption)) (by omega) (by omega) ?_
  have hk1 := xc_mp1_ok (p := p) (i := i) (st := st) (au := au) hk
  refine qa_aload_n (pc1 := 24) dX7_makePending_23 rfl rfl rfl ?_
  refine qa_aload_n (pc1 := 25) dX7_makePending_24 rfl rfl rfl ?_
  refine qa_aload (pc1 := 27) dX7_makePending_25 rfl rfl ?_
  refine qa_callVv (pc1 := 30) dX7_makePending_27 rfl (ct_sendFor (C := xc_mp1 C p (59 + 6 * p + i) st au) hps hk1 hp hi) wc_X7_41 wy_X7_sendFor rfl rfl (ci := k_pt) rfl (ko_pt _ (by assumption)) (by omega) rfl ?_
  refine qa_aload_n (pc1 := 31) dX7_makePending_30 rfl rfl rfl ?_
  refine qc_getI (pc1 := 34) dX7_makePending_31 rfl wf_X7_29 rfl (ko_ln _ (by assumption) _ (by assumption)) (by omega) (by omega) ?_
  exact qa_iret dX7_makePending_34 rfl (vp_nar_int _) rfl rfl rfl rfl
set_option maxRecDepth 20000 in
set_option maxHeartbeats 4000000 in
theorem ct_phear (hps : kw_ps P) {p d : Nat} (hp : p < 2) (hdg : kw_dg d) : kw_C l D aC b yX7_hear cX7_hear 6 (some .int) 4 [.inr (.inl (57 + 6 * p)), .inr (.inl d), .inr (.inl 2)] C M P (some (.inl (kw_b (xc_phc C p d)))) (xc_ph C p d) M P := by
  refine ax_body (own := RX7) (ini := false) (by decide) rfl (fun h => by cases h) (Nat.le_of_ble_eq_true rfl) ?_
  have hq1 := hdg.2.2
  have hq0 := hdg.2.1
  obtain ⟨L0, hLe⟩ : ∃ z, xc_pend C p (C (d + 1) 1) = z := ⟨_, rfl⟩
  refine qa_aload_n (pc1 := 1) dX7_hear_0 rfl rfl rfl ?_
  refine qa_getP (pc1 := 4) dX7_hear_1 rfl wf_X7_85 rfl (ko_dg _ (by assumption)) (by omega) (kp_pa hps (by assumption)) ?_
  refine qa_astore_n (pc1 := 5) dX7_hear_4 rfl (by decide) rfl ?_
  refine qa_aload_n (pc1 := 6) dX7_hear_5 rfl rfl rfl ?_
  refine qa_iconst (pc1 := 7) dX7_hear_6 (v := (nI 0)) kc_i0N rfl ?_
  refine qc_iald (pc1 := 8) dX7_hear_7 rfl (ka_pa _ (by assumption)) rfl (by omega) (by omega) (by decide) ?_
  refine qa_istore (pc1 := 10) dX7_hear_8 (by decide) rfl ?_
  refine qa_aload_n (pc1 := 11) dX7_hear_10 rfl rfl rfl ?_
  refine qa_aload_n (pc1 := 12) dX7_hear_11 rfl rfl rfl ?_
  refine qa_iconst (pc1 := 13) dX7_hear_12 (v := (nI 1)) kc_i1N rfl ?_
  refine qc_iald (pc1 := 14) dX7_hear_13 rfl (ka_pa _ (by assumption)) rfl (by omega) (by omega) (by decide) ?_
  refine qa_callVr (pc1 := 17) dX7_hear_14 rfl (ct_pend hps (by assumption) _) wc_X7_49 wy_X7_pendingLineWith rfl rfl (ci := k_pt) rfl (ko_pt _ (by assumption)) (by omega) rfl ?_
  refine qa_topr hLe ?_
  refine qa_astore (pc1 := 19) dX7_hear_17 (by decide) rfl ?_
  refine qa_aload (pc1 := 21) dX7_hear_19 rfl rfl ?_
  refine qa_ifnull (tgt := 47) (pc1 := 24) dX7_hear_21 rfl rfl (fun h21 => ?_) (fun h21 => ?_)
  · refine qa_iconst (pc1 := 48) dX7_hear_47 (v := 0) kc_i0 rfl ?_
    exact qa_iret dX7_hear_48 rfl (vp_nar_int _) (by simp only [kw_b, xc_phc, hLe]; grind) (by simp only [xc_ph, xc_phc, hLe]; grind) rfl rfl
  · obtain ⟨i, hi, hLi, -⟩ := xc_pend_ne (show xc_pend C p (C (d + 1) 1) ≠ 0 from by rw [hLe]; exact h21)
    obtain rfl : L0 = 59 + 6 * p + i := hLe.symm.trans hLi
    refine qa_aload (pc1 := 26) dX7_hear_24 rfl rfl ?_
    refine qa_iload (pc1 := 28) dX7_hear_26 rfl rfl ?_
    refine qa_callVi (pc1 := 31) dX7_hear_28 rfl (ct_waitsFor (by assumption) (by assumption) _) wc_X7_91 wy_X5_waitsFor rfl rfl (ci := k_ln) rfl (ko_ln _ (by assumption) _ (by assumption)) (by omega) rfl ?_
    refine qb_if_eq (tgt := 47) (pc1 := 34) dX7_hear_31 rfl rfl (fun h31 => ?_) (fun h31 => ?_)
    · refine qa_iconst (pc1 := 48) dX7_hear_47 (v := 0) kc_i0 rfl ?_
      exact qa_iret dX7_hear_48 rfl (vp_nar_int _) (by simp only [kw_b, xc_phc, hLe]; grind) (by simp only [xc_ph, xc_phc, hLe]; grind) rfl rfl
    · refine qa_aload_n (pc1 := 35) dX7_hear_34 rfl rfl rfl ?_
      refine qa_aload_n (pc1 := 36) dX7_hear_35 rfl rfl rfl ?_
      refine qa_aload (pc1 := 38) dX7_hear_36 rfl rfl ?_
      refine qc_getI (pc1 := 41) dX7_hear_38 rfl wf_X7_35 rfl (ko_ln _ (by assumption) _ (by assumption)) (by omega) (by omega) ?_
      refine qa_callVi (pc1 := 44) dX7_hear_41 rfl (ct_isRight hps (by assumption) _) wc_X7_95 wy_X6_isRight rfl rfl (ci := k_net) rfl ko_net (by omega) rfl ?_
      refine qb_if_ne (tgt := 49) (pc1 := 47) dX7_hear_44 rfl rfl (fun h44 => ?_) (fun h44 => ?_)
      · refine qa_aload (pc1 := 51) dX7_hear_49 rfl rfl ?_
        refine qa_iload (pc1 := 53) dX7_hear_51 rfl rfl ?_
        refine qa_aload_n (pc1 := 54) dX7_hear_53 rfl rfl rfl ?_
        refine qa_iconst (pc1 := 55) dX7_hear_54 (v := (nI 3)) kc_i3N rfl ?_
        refine qc_iald (pc1 := 56) dX7_hear_55 rfl (ka_pa _ (by assumption)) rfl (by omega) (by omega) (by decide) ?_
        refine qa_aload_n (pc1 := 57) dX7_hear_56 rfl rfl rfl ?_
        refine qa_iconst (pc1 := 58) dX7_hear_57 (v := (nI 4)) kc_i4N rfl ?_
        refine qc_iald (pc1 := 59) dX7_hear_58 rfl (ka_pa _ (by assumption)) rfl (by omega) (by omega) (by decide) ?_
        refine qa_callVv (pc1 := 62) dX7_hear_59 rfl (ct_settle (by assumption) (by assumption) _ _ _) wc_X7_99 wy_X5_settle rfl rfl (ci := k_ln) rfl (ko_ln _ (by assumption) _ (by assumption)) (by omega) rfl ?_
        refine qa_iconst (pc1 := 63) dX7_hear_62 (v := 1) kc_i1 rfl ?_
        exact qa_iret dX7_hear_63 rfl (vp_nar_int _) (by simp only [kw_b, xc_phc, hLe]; grind) (by simp only [xc_ph, xc_phc, hLe]; grind) rfl rfl
      · refine qa_iconst (pc1 := 48) dX7_hear_47 (v := 0) kc_i0 rfl ?_
        exact qa_iret dX7_hear_48 rfl (vp_nar_int _) (by simp only [kw_b, xc_phc, hLe]; grind) (by simp only [xc_ph, xc_phc, hLe]; grind) rfl rfl
theorem xc_snd_o {C : ax_I} {P : ax_P} (hps : kw_ps P) {s r kind id x a b1 : Int32} {n : Nat} (h2 : ¬ n = 2) (h : n < 6 ∨ 56 ≤ n) : xc_snd C P s r kind id x a b1 n = C n := by
  unfold xc_snd
  split
  · have hd := kp_fd hps (i := xc_n C) (by assumption)
    have h3 := hd.2.1
    have h4 := hd.2.2
    have h5 : ¬ n = P 5 (xc_n C) + 1 := by omega
    funext j
    simp [xc_send, ax_u, h2, h5]
  · rfl
theorem xc_snd_c {C : ax_I} {P : ax_P} (hps : kw_ps P) (hk : xc_nok C) {s r kind id x a b1 : Int32} : xc_snd C P s r kind id x a b1 2 3 = nI (if xc_n C < 24 then xc_n C + 1 else xc_n C) := by
  unfold xc_snd
  split
  · have hd := kp_fd hps (i := xc_n C) (by assumption)
    have h3 := hd.2.1
    have h5 : ¬ 2 = P 5 (xc_n C) + 1 := by omega
    simp [xc_send, ax_u, h5]
  · exact hk.1
theorem xc_nok_of {C : ax_I} {n : Nat} (h : C 2 3 = nI n) (hn : n ≤ 24) : xc_nok C := by
  unfold xc_nok xc_n
  rw [h, nI_clamp (by omega)]
  exact ⟨rfl, hn⟩
theorem xc_snd_ok {C : ax_I} {P : ax_P} (hps : kw_ps P) (hk : xc_nok C) {s r kind id x a b1 : Int32} : xc_nok (xc_snd C P s r kind id x a b1) := by
  refine xc_nok_of (xc_snd_c hps hk) ?_
  have := hk.2
  split <;> omega
theorem xc_sendFor_ok {C : ax_I} {P : ax_P} (hps : kw_ps P) (hk : xc_nok C) {p i : Nat} : xc_nok (xc_sendFor C P p (59 + 6 * p + i)) := by
  have h := xc_sf1_ok (p := p) (i := i) hk
  unfold xc_sendFor xc_sf2
  split
  · exact xc_snd_ok hps h
  · exact xc_snd_ok hps h
theorem xc_give_ok {C : ax_I} (hk : xc_nok C) {p i : Nat} : xc_nok (xc_give C (59 + 6 * p + i)) := by
  have e : xc_give C (59 + 6 * p + i) 2 3 = C 2 3 := by
    unfold xc_give
    split <;> simp [ax_u, show ¬ 2 = 59 + 6 * p + i from by omega]
  unfold xc_nok xc_n; rw [e]; exact hk
theorem xc_ag_ok {C : ax_I} {P : ax_P} (hps : kw_ps P) (hk : xc_nok C) {p i : Nat} : xc_nok (xc_ag C P p (59 + 6 * p + i)) := by
  unfold xc_ag
  split
  · split
    · exact xc_sendFor_ok hps hk
    · exact xc_give_ok hk
  · exact hk
theorem xc_ags_ok {P : ax_P} (hps : kw_ps P) {p f : Nat} : ∀ {i : Nat} {C : ax_I}, xc_nok C → xc_nok (xc_ags P p i f C) := by
  induction f with
  | zero => intro i C hk; exact hk
  | succ f ih => intro i C hk; exact ih (xc_ag_ok hps hk)

set_option maxRecDepth 20000 in
set_option maxHeartbeats 4000000 in
theorem ct_again1 (hps : kw_ps P) (hk0 : xc_nok C) {p : Nat} (hp : p < 2) : kw_C l D aC b yX7_sendAgainOrGiveUp cX7_sendAgainOrGiveUp 6 (some .int) 6 [.inr (.inl (57 + 6 * p)), .inr (.inl 2)] C M P (some (.inl (xc_agsn P p 0 4 C 0))) (xc_ags P p 0 4 C) M P := by
  refine ax_body (own := RX7) (ini := false) (by decide) rfl (fun h => by cases h) (Nat.le_of_ble_eq_true rfl) ?_
  have loop : ∀ i, i ≤ 4 → ∀ C1 : ax_I, ∀ n : Int32, xc_nok C1 → xc_ags P p i (4 - i) C1 = xc_ags P p 0 4 C → xc_agsn P p i (4 - i) C1 n = xc_agsn P p 0 4 C 0 → ax_G l D aC b RX7 cX7_sendAgainOrGiveUp 6 (some .int) false (kw_rm 6) 191 (ax_F D aC b 191 0 0 (kw_R (some (.inl (xc_agsn P p 0 4 C 0))) kw_K kw_L (kw_gl (xc_ags P p 0 4 C) M) P)) (fun _ => True) 4 [(3, .inl (nI i)), (2, .inl n), (0, .inr (.inl (57 + 6 * p))), (1, .inr (.inl 2))] [] 0 0 kw_K kw_L (kw_gl C1 M) P := by
    refine kw_loopB 4 (fun i hiN ih C1 n hk hf hg => ?_)
    refine qa_iload_n (pc1 := 5) dX7_sendAgainOrGiveUp_4 rfl rfl rfl ?_
    refine qa_iconst (pc1 := 6) dX7_sendAgainOrGiveUp_5 (v := (nI 4)) kc_i4N rfl ?_
    refine qn_ic_ge (tgt := 79) (pc1 := 9) dX7_sendAgainOrGiveUp_6 rfl rfl (by omega) (by omega) (fun h6 => ?_) (fun h6 => ?_)
    · refine qa_iload_n (pc1 := 80) dX7_sendAgainOrGiveUp_79 rfl rfl rfl ?_
      exact qa_iret dX7_sendAgainOrGiveUp_80 rfl (vp_nar_int _) (by rw [← hg, show 4 - i = 0 from by omega]; rfl) (by rw [← hf, show 4 - i = 0 from by omega]; rfl) rfl rfl
    · have hi : i < 4 := by omega
      refine qa_aload_n (pc1 := 10) dX7_sendAgainOrGiveUp_9 rfl rfl rfl ?_
      refine qa_getP (pc1 := 13) dX7_sendAgainOrGiveUp_10 rfl wf_X7_13 rfl (ko_pt _ (by assumption)) (by omega) (kp_lns hps (by assumption)) ?_
      refine qa_iload_n (pc1 := 14) dX7_sendAgainOrGiveUp_13 rfl rfl rfl ?_
      refine qa_aald (pc1 := 15) dX7_sendAgainOrGiveUp_14 rfl (ka_lns _ (by assumption)) rfl (by omega) (by omega) (kp_ln hps (by assumption) (by assumption)) ?_
      refine qa_astore (pc1 := 17) dX7_sendAgainOrGiveUp_15 (by decide) rfl ?_
      refine qa_aload_n (pc1 := 18) dX7_sendAgainOrGiveUp_17 rfl rfl rfl ?_
      refine qc_getI (pc1 := 21) dX7_sendAgainOrGiveUp_18 rfl wf_X7_57 rfl ko_net (by omega) (by omega) ?_
      refine qa_aload (pc1 := 23) dX7_sendAgainOrGiveUp_21 rfl rfl ?_
      refine qc_getI (pc1 := 26) dX7_sendAgainOrGiveUp_23 rfl wf_X7_62 rfl (ko_ln _ (by assumption) _ (by assumption)) (by omega) (by omega) ?_
      refine qa_isub (pc1 := 27) dX7_sendAgainOrGiveUp_26 rfl ?_
      refine qa_istore (pc1 := 29) dX7_sendAgainOrGiveUp_27 (by decide) rfl ?_
      refine qa_aload (pc1 := 31) dX7_sendAgainOrGiveUp_29 rfl rfl ?_
      refine qa_callVi (pc1 := 34) dX7_sendAgainOrGiveUp_31 rfl (ct_isPending (by assumption) (by assumption)) wc_X7_53 wy_X5_isPending rfl rfl (ci := k_ln) rfl (ko_ln _ (by assumption) _ (by assumption)) (by omega) rfl ?_
      refine qb_if_eq (tgt := 73) (pc1 := 37) dX7_sendAgainOrGiveUp_34 rfl rfl (fun h34 => ?_) (fun h34 => ?_)
      · refine qa_iincN (pc1 := 76) dX7_sendAgainOrGiveUp_73 rfl (by decide) rfl ?_
        refine qa_goto (tgt := 4) dX7_sendAgainOrGiveUp_76 rfl ?_
        have hnk : xc_nok (xc_ag C1 P p (59 + 6 * p + i)) := xc_ag_ok hps hk
        refine qa_memC (C1 := xc_ag C1 P p (59 + 6 * p + i)) (by simp only [xc_ag, xc_due]; grind) ?_
        exact qa_ls (by exact (kw_lsc rfl (kw_lsc rfl (kw_lsc rfl (kw_lsc rfl kw_lsn))))) (ih (by omega) _ _ hnk (by rw [← hf, show 4 - i = (4 - (i + 1)) + 1 from by omega, xc_ags]) (by rw [← hg, show 4 - i = (4 - (i + 1)) + 1 from by omega, xc_agsn]; congr 1; simp only [xc_agn, xc_due]; grind))
      · refine qa_iload (pc1 := 39) dX7_sendAgainOrGiveUp_37 rfl rfl ?_
        refine qa_iconst (pc1 := 40) dX7_sendAgainOrGiveUp_39 (v := 5) kc_i5 rfl ?_
        refine qa_ic_ge (tgt := 46) (pc1 := 43) dX7_sendAgainOrGiveUp_40 rfl rfl (fun h40 => ?_) (fun h40 => ?_)
        · refine qa_aload (pc1 := 48) dX7_sendAgainOrGiveUp_46 rfl rfl ?_
          refine qc_getI (pc1 := 51) dX7_sendAgainOrGiveUp_48 rfl wf_X7_38 rfl (ko_ln _ (by assumption) _ (by assumption)) (by omega) (by omega) ?_
          refine qa_iconst (pc1 := 52) dX7_sendAgainOrGiveUp_51 (v := 3) kc_i3 rfl ?_
          refine qa_ic_ge (tgt := 68) (pc1 := 55) dX7_sendAgainOrGiveUp_52 rfl rfl (fun h52 => ?_) (fun h52 => ?_)
          · refine qa_aload (pc1 := 70) dX7_sendAgainOrGiveUp_68 rfl rfl ?_
            refine qa_callVv (pc1 := 73) dX7_sendAgainOrGiveUp_70 rfl (ct_giveUp (by assumption) (by assumption)) wc_X7_103 wy_X5_giveUp rfl rfl (ci := k_ln) rfl (ko_ln _ (by assumption) _ (by assumption)) (by omega) rfl ?_
            refine qa_iincN (pc1 := 76) dX7_sendAgainOrGiveUp_73 rfl (by decide) rfl ?_
            refine qa_goto (tgt := 4) dX7_sendAgainOrGiveUp_76 rfl ?_
            have hnk : xc_nok (xc_ag C1 P p (59 + 6 * p + i)) := xc_ag_ok hps hk
            refine qa_memC (C1 := xc_ag C1 P p (59 + 6 * p + i)) (by simp only [xc_ag, xc_due]; grind) ?_
            exact qa_ls (by exact (kw_lsc rfl (kw_lsc rfl (kw_lsc rfl (kw_lsc rfl kw_lsn))))) (ih (by omega) _ _ hnk (by rw [← hf, show 4 - i = (4 - (i + 1)) + 1 from by omega, xc_ags]) (by rw [← hg, show 4 - i = (4 - (i + 1)) + 1 from by omega, xc_agsn]; congr 1; simp only [xc_agn, xc_due]; grind))
          · refine qa_aload_n (pc1 := 56) dX7_sendAgainOrGiveUp_55 rfl rfl rfl ?_
            refine qa_aload (pc1 := 58) dX7_sendAgainOrGiveUp_56 rfl rfl ?_
            refine qa_aload_n (pc1 := 59) dX7_sendAgainOrGiveUp_58 rfl rfl rfl ?_
            refine qa_callVv (pc1 := 62) dX7_sendAgainOrGiveUp_59 rfl (ct_sendFor hps (by assumption) (by assumption) (by assumption)) wc_X7_41 wy_X7_sendFor rfl rfl (ci := k_pt) rfl (ko_pt _ (by assumption)) (by omega) rfl ?_
            refine qa_iinc1 (pc1 := 65) dX7_sendAgainOrGiveUp_62 rfl (by decide) rfl ?_
            refine qa_goto (tgt := 73) dX7_sendAgainOrGiveUp_65 rfl ?_
            refine qa_iincN (pc1 := 76) dX7_sendAgainOrGiveUp_73 rfl (by decide) rfl ?_
            refine qa_goto (tgt := 4) dX7_sendAgainOrGiveUp_76 rfl ?_
            have hnk : xc_nok (xc_ag C1 P p (59 + 6 * p + i)) := xc_ag_ok hps hk
            refine qa_memC (C1 := xc_ag C1 P p (59 + 6 * p + i)) (by simp only [xc_ag, xc_due]; grind) ?_
            exact qa_ls (by exact (kw_lsc rfl (kw_lsc rfl (kw_lsc rfl (kw_lsc rfl kw_lsn))))) (ih (by omega) _ _ hnk (by rw [← hf, show 4 - i = (4 - (i + 1)) + 1 from by omega, xc_ags]) (by rw [← hg, show 4 - i = (4 - (i + 1)) + 1 from by omega, xc_agsn]; congr 1; simp only [xc_agn, xc_due]; grind))
        · refine qa_goto (tgt := 73) dX7_sendAgainOrGiveUp_43 rfl ?_
          refine qa_iincN (pc1 := 76) dX7_sendAgainOrGiveUp_73 rfl (by decide) rfl ?_
          refine qa_goto (tgt := 4) dX7_sendAgainOrGiveUp_76 rfl ?_
          have hnk : xc_nok (xc_ag C1 P p (59 + 6 * p + i)) := xc_ag_ok hps hk
          refine qa_memC (C1 := xc_ag C1 P p (59 + 6 * p + i)) (by simp only [xc_ag, xc_due]; grind) ?_
          exact qa_ls (by exact (kw_lsc rfl (kw_lsc rfl (kw_lsc rfl (kw_lsc rfl kw_lsn))))) (ih (by omega) _ _ hnk (by rw [← hf, show 4 - i = (4 - (i + 1)) + 1 from by omega, xc_ags]) (by rw [← hg, show 4 - i = (4 - (i + 1)) + 1 from by omega, xc_agsn]; congr 1; simp only [xc_agn, xc_due]; grind))
  refine qa_iconst (pc1 := 1) dX7_sendAgainOrGiveUp_0 (v := 0) kc_i0 rfl ?_
  refine qa_istore_n (pc1 := 2) dX7_sendAgainOrGiveUp_1 rfl (by decide) rfl ?_
  refine qa_iconst (pc1 := 3) dX7_sendAgainOrGiveUp_2 (v := (nI 0)) kc_i0N rfl ?_
  refine qa_istore_n (pc1 := 4) dX7_sendAgainOrGiveUp_3 rfl (by decide) rfl ?_
  exact qa_ls (by exact (kw_lsc rfl (kw_lsc rfl (kw_lsc rfl (kw_lsc rfl kw_lsn))))) (loop 0 (Nat.zero_le _) _ _ hk0 rfl rfl)
set_option maxRecDepth 20000 in
set_option maxHeartbeats 4000000 in
theorem ct_pforget (hps : kw_ps P) {p : Nat} (hp : p < 2) : kw_C l D aC b yX7_forgetAll cX7_forgetAll 2 none 1 [.inr (.inl (57 + 6 * p))] C M P none (ax_u (xc_fgl C p 0 4) (57 + 6 * p) 2 (-1)) M P := by
  refine ax_body (own := RX7) (ini := false) (by decide) rfl (fun h => by cases h) (Nat.le_of_ble_eq_true rfl) ?_
  have loop : ∀ i, i ≤ 4 → ∀ C1 : ax_I, xc_fgl C1 p i (4 - i) = xc_fgl C p 0 4 → ax_G l D aC b RX7 cX7_forgetAll 2 none false (kw_rm 1) 191 (ax_F D aC b 191 0 0 (kw_R none kw_K kw_L (kw_gl (ax_u (xc_fgl C p 0 4) (57 + 6 * p) 2 (-1)) M) P)) (fun _ => True) 2 [(1, .inl (nI i)), (0, .inr (.inl (57 + 6 * p)))] [] 0 0 kw_K kw_L (kw_gl C1 M) P := by
    refine kw_loopB 4 (fun i hiN ih C1 hf => ?_)
    refine qa_iload_n (pc1 := 3) dX7_forgetAll_2 rfl rfl rfl ?_
    refine qa_iconst (pc1 := 4) dX7_forgetAll_3 (v := (nI 4)) kc_i4N rfl ?_
    refine qn_ic_ge (tgt := 33) (pc1 := 7) dX7_forgetAll_4 rfl rfl (by omega) (by omega) (fun h4 => ?_) (fun h4 => ?_)
    · refine qa_aload_n (pc1 := 34) dX7_forgetAll_33 rfl rfl rfl ?_
      refine qa_iconst (pc1 := 35) dX7_forgetAll_34 (v := (-1)) kc_im1 rfl ?_
      refine qc_putI (pc1 := 38) dX7_forgetAll_35 rfl wp_X7_17 rfl rfl rfl (ko_pt _ (by assumption)) (by omega) (by omega) ?_
      exact qa_vret dX7_forgetAll_38 rfl rfl (by rw [← hf, show 4 - i = 0 from by omega]; rfl) rfl rfl
    · have hi : i < 4 := by omega
      refine qa_aload_n (pc1 := 8) dX7_forgetAll_7 rfl rfl rfl ?_
      refine qa_getP (pc1 := 11) dX7_forgetAll_8 rfl wf_X7_13 rfl (ko_pt _ (by assumption)) (by omega) (kp_lns hps (by assumption)) ?_
      refine qa_iload_n (pc1 := 12) dX7_forgetAll_11 rfl rfl rfl ?_
      refine qa_aald (pc1 := 13) dX7_forgetAll_12 rfl (ka_lns _ (by assumption)) rfl (by omega) (by omega) (kp_ln hps (by assumption) (by assumption)) ?_
      refine qa_iconst (pc1 := 14) dX7_forgetAll_13 (v := 0) kc_i0 rfl ?_
      refine qc_putI (pc1 := 17) dX7_forgetAll_14 rfl wp_X7_32 rfl rfl rfl (ko_ln _ (by assumption) _ (by assumption)) (by omega) (by omega) ?_
      refine qa_aload_n (pc1 := 18) dX7_forgetAll_17 rfl rfl rfl ?_
      refine qa_getP (pc1 := 21) dX7_forgetAll_18 rfl wf_X7_13 rfl (ko_pt _ (by assumption)) (by omega) (kp_lns hps (by assumption)) ?_
      refine qa_iload_n (pc1 := 22) dX7_forgetAll_21 rfl rfl rfl ?_
      refine qa_aald (pc1 := 23) dX7_forgetAll_22 rfl (ka_lns _ (by assumption)) rfl (by omega) (by omega) (kp_ln hps (by assumption) (by assumption)) ?_
      refine qa_iconst (pc1 := 24) dX7_forgetAll_23 (v := 0) kc_i0 rfl ?_
      refine qc_putI (pc1 := 27) dX7_forgetAll_24 rfl wp_X7_106 rfl rfl rfl (ko_ln _ (by assumption) _ (by assumption)) (by omega) (by omega) ?_
      refine qa_iincN (pc1 := 30) dX7_forgetAll_27 rfl (by decide) rfl ?_
      refine qa_goto (tgt := 2) dX7_forgetAll_30 rfl ?_
      exact qa_ls (by exact (kw_lsc rfl (kw_lsc rfl kw_lsn))) (ih (by omega) _ (by rw [← hf, show 4 - i = (4 - (i + 1)) + 1 from by omega]; rfl))
  refine qa_iconst (pc1 := 1) dX7_forgetAll_0 (v := (nI 0)) kc_i0N rfl ?_
  refine qa_istore_n (pc1 := 2) dX7_forgetAll_1 rfl (by decide) rfl ?_
  exact qa_ls (by exact (kw_lsc rfl (kw_lsc rfl kw_lsn))) (loop 0 (Nat.zero_le _) _ rfl)
end PT
