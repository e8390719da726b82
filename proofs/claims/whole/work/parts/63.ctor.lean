
/-- the first i elements of the array a are base, base + 1, .. -/
def xi_ar (B : ax_P) (a base i : Nat) : ax_P := fun n j => if n = a ∧ j < i then base + j else B n j
theorem xi_ar_0 {B : ax_P} {a base : Nat} : B = xi_ar B a base 0 := by
  funext n j; unfold xi_ar; rw [if_neg (by omega)]
theorem xi_ar_s {B : ax_P} {a base i : Nat} : ax_u (xi_ar B a base i) a i (base + i) = xi_ar B a base (i + 1) := by
  funext n j
  unfold ax_u xi_ar
  by_cases e : n = a
  · subst e
    by_cases e2 : j = i
    · subst e2; simp
    · by_cases e3 : j < i
      · have : j < i + 1 := by omega
        simp [e2, e3, this]
      · have : ¬ j < i + 1 := by omega
        simp [e2, e3, this]
  · simp [e]
theorem xi_ar_o {B : ax_P} {a base i n j : Nat} (h : ¬ n = a) : xi_ar B a base i n j = B n j := by unfold xi_ar; rw [if_neg (fun x => h x.1)]
/-- i datagrams are made and lie in the flight's array -/
def xi_nt (B : ax_P) (i : Nat) : ax_P := fun n j => if n = 5 ∧ j < i then 8 + 2 * j else if 8 ≤ n ∧ n < 8 + 2 * i ∧ n % 2 = 0 ∧ j = 0 then n + 1 else B n j
theorem xi_nt_0 {B : ax_P} : B = xi_nt B 0 := by
  funext n j; unfold xi_nt; rw [if_neg (by omega), if_neg (by omega)]
theorem xi_nt_s {B : ax_P} {i : Nat} : ax_u (ax_u (xi_nt B i) (8 + 2 * i) 0 (8 + 2 * i + 1)) 5 i (8 + 2 * i) = xi_nt B (i + 1) := by
  funext n j
  by_cases e : n = 5
  · subst e
    by_cases e2 : j = i
    · subst e2
      rw [ax_u_at]; unfold xi_nt; rw [if_pos (by omega)]
    · rw [ax_u_k e2, ax_u_n (by omega)]
      unfold xi_nt
      by_cases e3 : j < i
      · rw [if_pos (by omega), if_pos (by omega)]
      · rw [if_neg (by omega), if_neg (by omega), if_neg (by omega), if_neg (by omega)]
  · rw [ax_u_n e]
    by_cases e2 : n = 8 + 2 * i ∧ j = 0
    · obtain ⟨rfl, rfl⟩ := e2
      rw [ax_u_at]; unfold xi_nt; rw [if_neg (by omega), if_pos (by omega)]
    · have e3 : ax_u (xi_nt B i) (8 + 2 * i) 0 (8 + 2 * i + 1) n j = xi_nt B i n j := by
        by_cases e4 : n = 8 + 2 * i
        · rw [e4]; exact ax_u_k (fun x => e2 ⟨e4, x⟩)
        · exact ax_u_n e4
      rw [e3]
      have h1 : ¬ (n = 5 ∧ j < i) := fun x => e x.1
      have h2 : ¬ (n = 5 ∧ j < i + 1) := fun x => e x.1
      unfold xi_nt
      rw [if_neg h1, if_neg h2]
      by_cases e5 : 8 ≤ n ∧ n < 8 + 2 * i ∧ n % 2 = 0 ∧ j = 0
      · rw [if_pos e5, if_pos (show 8 ≤ n ∧ n < 8 + 2 * (i + 1) ∧ n % 2 = 0 ∧ j = 0 from by omega)]
      · rw [if_neg e5, if_neg (show ¬ (8 ≤ n ∧ n < 8 + 2 * (i + 1) ∧ n % 2 = 0 ∧ j = 0) from by omega)]
theorem xi_nt_o {B : ax_P} {i n j : Nat} (h5 : ¬ n = 5) (h : ¬ (8 ≤ n ∧ n < 8 + 2 * i)) : xi_nt B i n j = B n j := by
  unfold xi_nt; rw [if_neg (by omega), if_neg (by omega)]
def xi_net (P : ax_P) : ax_P := xi_nt (ax_u (ax_u (ax_u (ax_u (ax_u P 2 0 3) 2 1 4) 2 2 5) 6 0 7) 2 5 6) 24
def xi_pt (P : ax_P) (p : Nat) : ax_P := xi_ar (ax_u P (57 + 6 * p) 1 (58 + 6 * p)) (58 + 6 * p) (59 + 6 * p) 4
def xi_ptC (C : ax_I) (p : Nat) : ax_I := ax_u (ax_u C (57 + 6 * p) 2 (-1)) (57 + 6 * p) 0 (nI p)
def xi_rel (P : ax_P) : ax_P := xi_ar (ax_u P 69 0 70) 70 71 8
def xi_se (P : ax_P) (h : Nat) : ax_P := ax_u (ax_u (ax_u P (83 + 48 * h) 0 (84 + 48 * h)) (83 + 48 * h) 1 (85 + 48 * h)) (83 + 48 * h) 2 (86 + 48 * h)
def xi_hmB (P : ax_P) (h : Nat) : ax_P := ax_u (ax_u (xi_se (ax_u (ax_u P (80 + 48 * h) 1 (81 + 48 * h)) (80 + 48 * h) 2 (82 + 48 * h)) h) (80 + 48 * h) 3 (83 + 48 * h)) (80 + 48 * h) 4 (87 + 48 * h)
def xi_hm (P : ax_P) (h : Nat) : ax_P := xi_ar (xi_hmB P h) (87 + 48 * h) (88 + 48 * h) 40
def xi_lm (C : ax_I) (h i : Nat) : ax_I := fun n j => if n = 82 + 48 * h ∧ j < i then -1 else C n j
theorem xi_lm_0 {C : ax_I} {h : Nat} : C = xi_lm C h 0 := by
  funext n j; unfold xi_lm; rw [if_neg (by omega)]
theorem xi_lm_s {C : ax_I} {h i : Nat} : ax_u (xi_lm C h i) (82 + 48 * h) i (-1) = xi_lm C h (i + 1) := by
  funext n j
  by_cases e : n = 82 + 48 * h
  · subst e
    by_cases e2 : j = i
    · subst e2; rw [ax_u_at]; unfold xi_lm; rw [if_pos (by omega)]
    · rw [ax_u_k e2]; unfold xi_lm
      by_cases e3 : j < i
      · rw [if_pos (by omega), if_pos (by omega)]
      · rw [if_neg (by omega), if_neg (by omega)]
  · rw [ax_u_n e]; unfold xi_lm; rw [if_neg (by omega), if_neg (by omega)]
def xi_hmC (C : ax_I) (h : Nat) : ax_I := xi_lm (ax_u C (80 + 48 * h) 0 (nI (3 + h))) h 12

section CTOR
variable {l : Launch} {D : va_G} {aC : Nat → ClassId} {b : Nat} {C M : ax_I} {P : ax_P}
set_option maxRecDepth 20000 in
set_option maxHeartbeats 4000000 in
theorem ci_Entry {n N0 : Nat} (h0 : n ≠ 0) : ax_C l D aC b yX2_init cX2_init 1 none (kw_rmc 1 0 0) N0 0 0 [.inr (.inl n)] kw_K kw_L (kw_gl C M) P (kw_R none kw_K kw_L (kw_gl C M) P) := by
  refine ax_body (own := RX2) (ini := true) (by decide) rfl (fun _ => rfl) (Nat.le_of_ble_eq_true rfl) ?_
  refine qa_aload_n (pc1 := 1) dX2_init_0 rfl rfl rfl ?_
  refine qi_obj (pc1 := 4) dX2_init_1 rfl wo_X2_1 h0 (by decide) (by decide) ?_
  exact qa_vret dX2_init_4 rfl rfl rfl rfl rfl
set_option maxRecDepth 20000 in
set_option maxHeartbeats 4000000 in
theorem ci_Line {n N0 : Nat} (h0 : n ≠ 0) : ax_C l D aC b yX5_init cX5_init 1 none (kw_rmc 1 0 0) N0 0 0 [.inr (.inl n)] kw_K kw_L (kw_gl C M) P (kw_R none kw_K kw_L (kw_gl C M) P) := by
  refine ax_body (own := RX5) (ini := true) (by decide) rfl (fun _ => rfl) (Nat.le_of_ble_eq_true rfl) ?_
  refine qa_aload_n (pc1 := 1) dX5_init_0 rfl rfl rfl ?_
  refine qi_obj (pc1 := 4) dX5_init_1 rfl wo_X5_3 h0 (by decide) (by decide) ?_
  exact qa_vret dX5_init_4 rfl rfl rfl rfl rfl
set_option maxRecDepth 20000 in
set_option maxHeartbeats 4000000 in
theorem ci_JournalRecord {n N0 : Nat} (h0 : n ≠ 0) : ax_C l D aC b yX4_init cX4_init 1 none (kw_rmc 1 0 0) N0 0 0 [.inr (.inl n)] kw_K kw_L (kw_gl C M) P (kw_R none kw_K kw_L (kw_gl C M) P) := by
  refine ax_body (own := RX4) (ini := true) (by decide) rfl (fun _ => rfl) (Nat.le_of_ble_eq_true rfl) ?_
  refine qa_aload_n (pc1 := 1) dX4_init_0 rfl rfl rfl ?_
  refine qi_obj (pc1 := 4) dX4_init_1 rfl wo_X4_1 h0 (by decide) (by decide) ?_
  exact qa_vret dX4_init_4 rfl rfl rfl rfl rfl
set_option maxRecDepth 20000 in
set_option maxHeartbeats 4000000 in
theorem ci_dg {d : Nat} (hdg : kw_dg d) (hz : ∀ q, d < q → q < 176 → ∀ j, C q j = 0) (hzP : ∀ q, d < q → q < 176 → ∀ j, P q j = 0) : ax_C l D aC b yX1_init cX1_init 1 none (kw_rmc 2 1 8) d 1 8 [.inr (.inl d)] kw_K kw_L (kw_gl C M) P (kw_R none kw_K kw_L (kw_gl C M) (ax_u P d 0 (d + 1))) := by
  refine ax_body (own := RX1) (ini := true) (by decide) rfl (fun _ => rfl) (Nat.le_of_ble_eq_true rfl) ?_
  have hq1 := hdg.2.2
  have hq0 := hdg.2.1
  refine qa_aload_n (pc1 := 1) dX1_init_0 rfl rfl rfl ?_
  refine qi_obj (pc1 := 4) dX1_init_1 rfl wo_X1_1 (by omega) (by decide) (by decide) ?_
  refine qa_aload_n (pc1 := 5) dX1_init_4 rfl rfl rfl ?_
  refine qa_bipush (pc1 := 7) dX1_init_5 (v := (nI 8)) kc_b8N rfl ?_
  refine qi_newa (pc1 := 9) dX1_init_7 rfl (t := 0) rfl (by decide) rfl rfl wa_int (by decide) (by decide) (m := d + 1) (by omega) (ka_pa _ hdg).2.1 (ka_pa _ hdg).2.2.2.1 (fun j => by rw [kw_rC (by omega)]; exact hz _ (by omega) (by omega) j) (fun j => by (repeat rw [ax_u_n (by omega)]); exact hzP _ (by omega) (by omega) j) (by decide) (by decide) ?_
  refine qa_putPF (pc1 := 12) dX1_init_9 rfl wi_X1_9 rfl rfl (ko_dg _ (by assumption)) (by omega) ?_
  exact qa_vret dX1_init_12 rfl rfl rfl rfl rfl
theorem ci_dgN {d N0 : Nat} (hN : N0 = d) (hdg : kw_dg d) (hz : ∀ q, d < q → q < 176 → ∀ j, C q j = 0) (hzP : ∀ q, d < q → q < 176 → ∀ j, P q j = 0) : ax_C l D aC b yX1_init cX1_init 1 none (kw_rmc 2 1 8) N0 1 8 [.inr (.inl d)] kw_K kw_L (kw_gl C M) P (kw_R none kw_K kw_L (kw_gl C M) (ax_u P d 0 (d + 1))) := by subst hN; exact ci_dg hdg hz hzP
set_option maxRecDepth 20000 in
set_option maxHeartbeats 4000000 in
theorem ci_se {h : Nat} (hh : h < 2) (hz : ∀ q, 83 + 48 * h < q → q < 176 → ∀ j, C q j = 0) (hzP : ∀ q, 83 + 48 * h < q → q < 176 → ∀ j, P q j = 0) : ax_C l D aC b yX9_init cX9_init 1 none (kw_rmc 2 3 18) (83 + 48 * h) 3 18 [.inr (.inl (83 + 48 * h))] kw_K kw_L (kw_gl C M) P (kw_R none kw_K kw_L (kw_gl C M) (xi_se P h)) := by
  refine ax_body (own := RX9) (ini := true) (by decide) rfl (fun _ => rfl) (Nat.le_of_ble_eq_true rfl) ?_
  refine qa_aload_n (pc1 := 1) dX9_init_0 rfl rfl rfl ?_
  refine qi_obj (pc1 := 4) dX9_init_1 rfl wo_X9_3 (by omega) (by decide) (by decide) ?_
  refine qa_aload_n (pc1 := 5) dX9_init_4 rfl rfl rfl ?_
  refine qa_bipush (pc1 := 7) dX9_init_5 (v := (nI 6)) kc_b6N rfl ?_
  refine qi_newa (pc1 := 9) dX9_init_7 rfl (t := 1) rfl (by decide) rfl rfl wa_boolean (by decide) (by decide) (m := 84 + 48 * h) (by omega) (ka_op _ hh).2.1 (ka_op _ hh).2.2.2.1 (fun j => by rw [kw_rC (by omega)]; exact hz _ (by omega) (by omega) j) (fun j => by (repeat rw [ax_u_n (by omega)]); exact hzP _ (by omega) (by omega) j) (by decide) (by decide) ?_
  refine qa_putPF (pc1 := 12) dX9_init_9 rfl wi_X9_11 rfl rfl (ko_se _ (by assumption)) (by omega) ?_
  refine qa_aload_n (pc1 := 13) dX9_init_12 rfl rfl rfl ?_
  refine qa_bipush (pc1 := 15) dX9_init_13 (v := (nI 6)) kc_b6N rfl ?_
  refine qi_newa (pc1 := 17) dX9_init_15 rfl (t := 0) rfl (by decide) rfl rfl wa_int (by decide) (by decide) (m := 85 + 48 * h) (by omega) (ka_nu _ hh).2.1 (ka_nu _ hh).2.2.2.1 (fun j => by rw [kw_rC (by omega)]; exact hz _ (by omega) (by omega) j) (fun j => by (repeat rw [ax_u_n (by omega)]); exact hzP _ (by omega) (by omega) j) (by decide) (by decide) ?_
  refine qa_putPF (pc1 := 20) dX9_init_17 rfl wi_X9_15 rfl rfl (ko_se _ (by assumption)) (by omega) ?_
  refine qa_aload_n (pc1 := 21) dX9_init_20 rfl rfl rfl ?_
  refine qa_bipush (pc1 := 23) dX9_init_21 (v := (nI 6)) kc_b6N rfl ?_
  refine qi_newa (pc1 := 25) dX9_init_23 rfl (t := 0) rfl (by decide) rfl rfl wa_int (by decide) (by decide) (m := 86 + 48 * h) (by omega) (ka_us _ hh).2.1 (ka_us _ hh).2.2.2.1 (fun j => by rw [kw_rC (by omega)]; exact hz _ (by omega) (by omega) j) (fun j => by (repeat rw [ax_u_n (by omega)]); exact hzP _ (by omega) (by omega) j) (by decide) (by decide) ?_
  refine qa_putPF (pc1 := 28) dX9_init_25 rfl wi_X9_19 rfl rfl (ko_se _ (by assumption)) (by omega) ?_
  exact qa_vret dX9_init_28 rfl rfl rfl rfl rfl
theorem ci_seN {h N0 : Nat} (hN : N0 = 83 + 48 * h) (hh : h < 2) (hz : ∀ q, 83 + 48 * h < q → q < 176 → ∀ j, C q j = 0) (hzP : ∀ q, 83 + 48 * h < q → q < 176 → ∀ j, P q j = 0) : ax_C l D aC b yX9_init cX9_init 1 none (kw_rmc 2 3 18) N0 3 18 [.inr (.inl (83 + 48 * h))] kw_K kw_L (kw_gl C M) P (kw_R none kw_K kw_L (kw_gl C M) (xi_se P h)) := by subst hN; exact ci_se hh hz hzP
set_option maxRecDepth 20000 in
set_option maxHeartbeats 4000000 in
theorem ci_net (hz : ∀ q, 2 < q → q < 176 → ∀ j, C q j = 0) (hzP : ∀ q, 2 < q → q < 176 → ∀ j, P q j = 0) : ax_C l D aC b yX6_init cX6_init 2 none (kw_rmc 3 53 257) 2 53 257 [.inr (.inl 2)] kw_K kw_L (kw_gl C M) P (kw_R none kw_K kw_L (kw_gl C M) (xi_net P)) := by
  refine ax_body (own := RX6) (ini := true) (by decide) rfl (fun _ => rfl) (Nat.le_of_ble_eq_true rfl) ?_
  have loop : ∀ i, i ≤ 24 → ax_G l D aC b RX6 cX6_init 2 none true (kw_rmc 3 53 257) 2 (ax_F D aC b 2 53 257 (kw_R none kw_K kw_L (kw_gl C M) (xi_net P))) (fun _ => True) 40 [(1, .inl (nI i)), (0, .inr (.inl 2))] [] (5 + 2 * i) (41 + 9 * i) kw_K kw_L (kw_gl C M) (xi_nt (ax_u (ax_u (ax_u (ax_u (ax_u P 2 0 3) 2 1 4) 2 2 5) 6 0 7) 2 5 6) i) := by
    refine  kw_loopB 24 (fun i hiN ih => ?_)
    refine qa_iload_n (pc1 := 41) dX6_init_40 rfl rfl rfl ?_
    refine qa_bipush (pc1 := 43) dX6_init_41 (v := (nI 24)) kc_b24N rfl ?_
    refine qn_ic_ge (tgt := 65) (pc1 := 46) dX6_init_43 rfl rfl (by omega) (by omega) (fun h43 => ?_) (fun h43 => ?_)
    · have e24 : i = 24 := by omega
      subst e24
      exact qa_vret dX6_init_65 rfl rfl rfl rfl rfl
    · have hi : i < 24 := by omega
      have hdi : kw_dg (8 + 2 * i) := ⟨by omega, by omega, by omega⟩
      refine qa_aload_n (pc1 := 47) dX6_init_46 rfl rfl rfl ?_
      refine qa_getP (pc1 := 50) dX6_init_47 rfl wf_X6_20 rfl ko_net (by omega) (show _ = 5 from by rw [xi_nt_o (by omega) (by omega)]; rfl) ?_
      refine qa_iload_n (pc1 := 51) dX6_init_50 rfl rfl rfl ?_
      refine qi_new (pc1 := 54) dX6_init_51 rfl wn_X6_18 (ci := k_dg) rfl (m := 8 + 2 * i) (by omega) (ko_dg _ hdi).2 (kl_dg' hdi) (fun j => by rw [kw_rC (by omega)]; exact hz _ (by omega) (by omega) j) (fun j => by rw [xi_nt_o (by omega) (by omega)]; (repeat rw [ax_u_n (by omega)]); exact hzP _ (by omega) (by omega) j) (show _ ≤ _ from by show _ ≤ (_ : Nat); simp only [kw_rmc]; omega) (show _ ≤ _ from by show _ ≤ (_ : Nat); simp only [kw_rmc]; omega) ?_
      refine qa_dup (pc1 := 55) dX6_init_54 rfl ?_
      refine qi_callJ (pc1 := 58) dX6_init_55 rfl (ci_dgN (d := 8 + 2 * i) (by omega) hdi (fun q g1 g2 j => hz q (by omega) g2 j) (fun q g1 g2 j => by rw [xi_nt_o (by omega) (by omega)]; (repeat rw [ax_u_n (by omega)]); exact hzP q (by omega) g2 j)) wc_X6_24 wy_X1_init rfl (show _ ≤ _ from by show _ ≤ (_ : Nat); simp only [kw_rmc]; omega) (show _ ≤ _ from by show _ ≤ (_ : Nat); simp only [kw_rmc]; omega) rfl (by omega) rfl ?_
      refine qa_aast (pc1 := 59) dX6_init_58 rfl ka_fl (ci := k_dg) rfl rfl (by omega) (by omega) (ko_dg _ hdi) (by omega) ?_
      refine qa_iincN (pc1 := 62) dX6_init_59 rfl (by decide) rfl ?_
      refine qa_goto (tgt := 40) dX6_init_62 rfl ?_
      refine qa_memP xi_nt_s (qa_cs (c1 := 5 + 2 * (i + 1)) (s1 := 41 + 9 * (i + 1)) (by omega) (by omega) (qa_ls (by exact (kw_lsc rfl (kw_lsc rfl kw_lsn))) (ih (by omega))))
  refine qa_aload_n (pc1 := 1) dX6_init_0 rfl rfl rfl ?_
  refine qi_obj (pc1 := 4) dX6_init_1 rfl wo_X6_3 (by omega) (by decide) (by decide) ?_
  refine qa_aload_n (pc1 := 5) dX6_init_4 rfl rfl rfl ?_
  refine qa_iconst (pc1 := 6) dX6_init_5 (v := (nI 4)) kc_i4N rfl ?_
  refine qi_newa (pc1 := 8) dX6_init_6 rfl (t := 0) rfl (by decide) rfl rfl wa_int (by decide) (by decide) (m := 3) (by omega) rfl rfl (fun j => by rw [kw_rC (by omega)]; exact hz _ (by omega) (by omega) j) (fun j => by (repeat rw [ax_u_n (by omega)]); exact hzP _ (by omega) (by omega) j) (by decide) (by decide) ?_
  refine qa_putPF (pc1 := 11) dX6_init_8 rfl wi_X6_9 rfl rfl ko_net (by omega) ?_
  refine qa_aload_n (pc1 := 12) dX6_init_11 rfl rfl rfl ?_
  refine qa_iconst (pc1 := 13) dX6_init_12 (v := (nI 4)) kc_i4N rfl ?_
  refine qi_newa (pc1 := 15) dX6_init_13 rfl (t := 0) rfl (by decide) rfl rfl wa_int (by decide) (by decide) (m := 4) (by omega) rfl rfl (fun j => by rw [kw_rC (by omega)]; exact hz _ (by omega) (by omega) j) (fun j => by (repeat rw [ax_u_n (by omega)]); exact hzP _ (by omega) (by omega) j) (by decide) (by decide) ?_
  refine qa_putPF (pc1 := 18) dX6_init_15 rfl wi_X6_15 rfl rfl ko_net (by omega) ?_
  refine qa_aload_n (pc1 := 19) dX6_init_18 rfl rfl rfl ?_
  refine qa_bipush (pc1 := 21) dX6_init_19 (v := (nI 24)) kc_b24N rfl ?_
  refine qi_newq (pc1 := 24) dX6_init_21 rfl (t := 2) rfl (by decide) wq_X6_18 (by decide) (by decide) (by decide) (m := 5) (by omega) rfl rfl (fun j => by rw [kw_rC (by omega)]; exact hz _ (by omega) (by omega) j) (fun j => by (repeat rw [ax_u_n (by omega)]); exact hzP _ (by omega) (by omega) j) (by decide) (by decide) ?_
  refine qa_putPF (pc1 := 27) dX6_init_24 rfl wi_X6_20 rfl rfl ko_net (by omega) ?_
  refine qa_aload_n (pc1 := 28) dX6_init_27 rfl rfl rfl ?_
  refine qi_new (pc1 := 31) dX6_init_28 rfl wn_X6_18 (ci := k_dg) rfl (m := 6) (by omega) rfl rfl (fun j => by rw [kw_rC (by omega)]; exact hz _ (by omega) (by omega) j) (fun j => by (repeat rw [ax_u_n (by omega)]); exact hzP _ (by omega) (by omega) j) (by decide) (by decide) ?_
  refine qa_dup (pc1 := 32) dX6_init_31 rfl ?_
  refine qi_callJ (pc1 := 35) dX6_init_32 rfl (ci_dg (d := 6) ⟨by omega, by omega, by omega⟩ (fun q g1 g2 j => hz q (by omega) g2 j) (fun q g1 g2 j => by (repeat rw [ax_u_n (by omega)]); exact hzP q (by omega) g2 j)) wc_X6_24 wy_X1_init rfl (by decide) (by decide) rfl (by omega) rfl ?_
  refine qa_putP (pc1 := 38) dX6_init_35 rfl wp_X6_25 rfl ko_net (by omega) ?_
  refine qa_iconst (pc1 := 39) dX6_init_38 (v := (nI 0)) kc_i0N rfl ?_
  refine qa_istore_n (pc1 := 40) dX6_init_39 rfl (by decide) rfl ?_
  exact qa_memP xi_nt_0 (qa_cs (c1 := 5 + 2 * 0) (s1 := 41 + 9 * 0) rfl rfl (qa_ls (by exact (kw_lsc rfl (kw_lsc rfl kw_lsn))) (loop (0 : Nat) (Nat.zero_le _))))
set_option maxRecDepth 20000 in
set_option maxHeartbeats 4000000 in
theorem ci_pt {p : Nat} (hp : p < 2) (hz : ∀ q, 57 + 6 * p < q → q < 176 → ∀ j, C q j = 0) (hzP : ∀ q, 57 + 6 * p < q → q < 176 → ∀ j, P q j = 0) : ax_C l D aC b yX7_init cX7_init 3 none (kw_rmc 2 5 44) (57 + 6 * p) 5 44 [.inr (.inl (57 + 6 * p)), .inl (nI p)] kw_K kw_L (kw_gl C M) P (kw_R none kw_K kw_L (kw_gl (xi_ptC C p) M) (xi_pt P p)) := by
  refine ax_body (own := RX7) (ini := true) (by decide) rfl (fun _ => rfl) (Nat.le_of_ble_eq_true rfl) ?_
  have hzC1 : ∀ q, 58 + 6 * p < q → q < 176 → ∀ j, xi_ptC C p q j = 0 := fun q g1 g2 j => by
    unfold xi_ptC; rw [ax_u_n (by omega), ax_u_n (by omega)]; exact hz q (by omega) g2 j
  have hzP1 : ∀ q, 58 + 6 * p < q → q < 176 → ∀ j, (ax_u P (57 + 6 * p) 1 (58 + 6 * p)) q j = 0 := fun q g1 g2 j => by
    rw [ax_u_n (by omega)]; exact hzP q (by omega) g2 j
  have loop : ∀ i, i ≤ 4 → ax_G l D aC b RX7 cX7_init 3 none true (kw_rmc 2 5 44) (57 + 6 * p) (ax_F D aC b (57 + 6 * p) 5 44 (kw_R none kw_K kw_L (kw_gl (xi_ptC C p) M) (xi_pt P p))) (fun _ => True) 24 [(2, .inl (nI i)), (0, .inr (.inl (57 + 6 * p)))] [] (1 + i) (4 + 10 * i) kw_K kw_L (kw_gl (xi_ptC C p) M) (xi_ar (ax_u P (57 + 6 * p) 1 (58 + 6 * p)) (58 + 6 * p) (59 + 6 * p) i) := by
    refine  kw_loopB 4 (fun i hiN ih => ?_)
    refine qa_iload_n (pc1 := 25) dX7_init_24 rfl rfl rfl ?_
    refine qa_iconst (pc1 := 26) dX7_init_25 (v := (nI 4)) kc_i4N rfl ?_
    refine qn_ic_ge (tgt := 48) (pc1 := 29) dX7_init_26 rfl rfl (by omega) (by omega) (fun h26 => ?_) (fun h26 => ?_)
    · have e9 : i = 4 := by omega
      subst e9
      exact qa_vret dX7_init_48 rfl rfl rfl rfl rfl
    · have hi : i < 4 := by omega
      refine qa_aload_n (pc1 := 30) dX7_init_29 rfl rfl rfl ?_
      refine qa_getP (pc1 := 33) dX7_init_30 rfl wf_X7_13 rfl (ko_pt _ (by assumption)) (by omega) (show _ = 58 + 6 * p from by rw [xi_ar_o (by omega)]; exact ax_u_at) ?_
      refine qa_iload_n (pc1 := 34) dX7_init_33 rfl rfl rfl ?_
      refine qi_new (pc1 := 37) dX7_init_34 rfl wn_X7_11 (ci := k_ln) rfl (m := 59 + 6 * p + i) (by omega) (ko_ln _ hp _ hi).2 (kl_ln _ hp _ hi) (fun j => by rw [kw_rC (by omega)]; exact hzC1 _ (by omega) (by omega) j) (fun j => by rw [xi_ar_o (by omega)]; exact hzP1 _ (by omega) (by omega) j) (show _ ≤ _ from by show _ ≤ (_ : Nat); simp only [kw_rmc]; omega) (show _ ≤ _ from by show _ ≤ (_ : Nat); simp only [kw_rmc]; omega) ?_
      refine qa_dup (pc1 := 38) dX7_init_37 rfl ?_
      refine qi_callJ (pc1 := 41) dX7_init_38 rfl (ci_Line (by omega)) wc_X7_24 wy_X5_init rfl (show _ ≤ _ from by show _ ≤ (_ : Nat); simp only [kw_rmc]; omega) (show _ ≤ _ from by show _ ≤ (_ : Nat); simp only [kw_rmc]; omega) rfl (by omega) rfl ?_
      refine qa_aast (pc1 := 42) dX7_init_41 rfl (ka_lns _ (by assumption)) (ci := k_ln) rfl rfl (by omega) (by omega) (ko_ln _ hp _ hi) (by omega) ?_
      refine qa_iincN (pc1 := 45) dX7_init_42 rfl (by decide) rfl ?_
      refine qa_goto (tgt := 24) dX7_init_45 rfl ?_
      exact qa_memP xi_ar_s (qa_cs (c1 := 1 + (i + 1)) (s1 := 4 + 10 * (i + 1)) (by omega) (by omega) (qa_ls (by exact (kw_lsc rfl (kw_lsc rfl kw_lsn))) (ih (by omega))))
  refine qa_aload_n (pc1 := 1) dX7_init_0 rfl rfl rfl ?_
  refine qi_obj (pc1 := 4) dX7_init_1 rfl wo_X7_3 (by omega) (by decide) (by decide) ?_
  refine qa_aload_n (pc1 := 5) dX7_init_4 rfl rfl rfl ?_
  refine qa_iconst (pc1 := 6) dX7_init_5 (v := (nI 4)) kc_i4N rfl ?_
  refine qi_newq (pc1 := 9) dX7_init_6 rfl (t := 4) rfl (by decide) wq_X7_11 (by decide) (by decide) (by decide) (m := 58 + 6 * p) (by omega) (ka_lns _ hp).2.1 (ka_lns _ hp).2.2.2.1 (fun j => by rw [kw_rC (by omega)]; exact hz _ (by omega) (by omega) j) (fun j => by (repeat rw [ax_u_n (by omega)]); exact hzP _ (by omega) (by omega) j) (by decide) (by decide) ?_
  refine qa_putPF (pc1 := 12) dX7_init_9 rfl wi_X7_13 rfl rfl (ko_pt _ (by assumption)) (by omega) ?_
  refine qa_aload_n (pc1 := 13) dX7_init_12 rfl rfl rfl ?_
  refine qa_iconst (pc1 := 14) dX7_init_13 (v := (-1)) kc_im1 rfl ?_
  refine qc_putI (pc1 := 17) dX7_init_14 rfl wp_X7_17 rfl rfl rfl (ko_pt _ (by assumption)) (by omega) (by omega) ?_
  refine qa_aload_n (pc1 := 18) dX7_init_17 rfl rfl rfl ?_
  refine qa_iload_n (pc1 := 19) dX7_init_18 rfl rfl rfl ?_
  refine qc_putIF (pc1 := 22) dX7_init_19 rfl wi_X7_21 rfl rfl rfl rfl (ko_pt _ (by assumption)) (by omega) (by omega) ?_
  refine qa_iconst (pc1 := 23) dX7_init_22 (v := (nI 0)) kc_i0N rfl ?_
  refine qa_istore_n (pc1 := 24) dX7_init_23 rfl (by decide) rfl ?_
  exact qa_memP xi_ar_0 (qa_cs (c1 := 1 + 0) (s1 := 4 + 10 * 0) rfl rfl (qa_ls (by exact (kw_lsc rfl (kw_lsc rfl kw_lsn))) (loop (0 : Nat) (Nat.zero_le _))))
set_option maxRecDepth 20000 in
set_option maxHeartbeats 4000000 in
theorem ci_rel (hz : ∀ q, 69 < q → q < 176 → ∀ j, C q j = 0) (hzP : ∀ q, 69 < q → q < 176 → ∀ j, P q j = 0) : ax_C l D aC b yX8_init cX8_init 2 none (kw_rmc 2 9 64) 69 9 64 [.inr (.inl 69)] kw_K kw_L (kw_gl C M) P (kw_R none kw_K kw_L (kw_gl (ax_u C 69 1 (-1)) M) (xi_rel P)) := by
  refine ax_body (own := RX8) (ini := true) (by decide) rfl (fun _ => rfl) (Nat.le_of_ble_eq_true rfl) ?_
  have hzC1 : ∀ q, 70 < q → q < 176 → ∀ j, ax_u C 69 1 (-1) q j = 0 := fun q g1 g2 j => by
    rw [ax_u_n (by omega)]; exact hz q (by omega) g2 j
  have hzP1 : ∀ q, 70 < q → q < 176 → ∀ j, (ax_u P 69 0 70) q j = 0 := fun q g1 g2 j => by
    rw [ax_u_n (by omega)]; exact hzP q (by omega) g2 j
  have loop : ∀ i, i ≤ 8 → ax_G l D aC b RX8 cX8_init 2 none true (kw_rmc 2 9 64) 69 (ax_F D aC b 69 9 64 (kw_R none kw_K kw_L (kw_gl (ax_u C 69 1 (-1)) M) (xi_rel P))) (fun _ => True) 20 [(1, .inl (nI i)), (0, .inr (.inl 69))] [] (1 + i) (8 + 7 * i) kw_K kw_L (kw_gl (ax_u C 69 1 (-1)) M) (xi_ar (ax_u P 69 0 70) 70 71 i) := by
    refine  kw_loopB 8 (fun i hiN ih => ?_)
    refine qa_iload_n (pc1 := 21) dX8_init_20 rfl rfl rfl ?_
    refine qa_bipush (pc1 := 23) dX8_init_21 (v := (nI 8)) kc_b8N rfl ?_
    refine qn_ic_ge (tgt := 45) (pc1 := 26) dX8_init_23 rfl rfl (by omega) (by omega) (fun h23 => ?_) (fun h23 => ?_)
    · have e9 : i = 8 := by omega
      subst e9
      exact qa_vret dX8_init_45 rfl rfl rfl rfl rfl
    · have hi : i < 8 := by omega
      refine qa_aload_n (pc1 := 27) dX8_init_26 rfl rfl rfl ?_
      refine qa_getP (pc1 := 30) dX8_init_27 rfl wf_X8_13 rfl ko_rel (by omega) (show _ = 70 from by rw [xi_ar_o (by omega)]; exact ax_u_at) ?_
      refine qa_iload_n (pc1 := 31) dX8_init_30 rfl rfl rfl ?_
      refine qi_new (pc1 := 34) dX8_init_31 rfl wn_X8_11 (ci := k_en) rfl (m := 71 + i) (by omega) (ko_en _ hi).2 (kl_en _ hi) (fun j => by rw [kw_rC (by omega)]; exact hzC1 _ (by omega) (by omega) j) (fun j => by rw [xi_ar_o (by omega)]; exact hzP1 _ (by omega) (by omega) j) (show _ ≤ _ from by show _ ≤ (_ : Nat); simp only [kw_rmc]; omega) (show _ ≤ _ from by show _ ≤ (_ : Nat); simp only [kw_rmc]; omega) ?_
      refine qa_dup (pc1 := 35) dX8_init_34 rfl ?_
      refine qi_callJ (pc1 := 38) dX8_init_35 rfl (ci_Entry (by omega)) wc_X8_21 wy_X2_init rfl (show _ ≤ _ from by show _ ≤ (_ : Nat); simp only [kw_rmc]; omega) (show _ ≤ _ from by show _ ≤ (_ : Nat); simp only [kw_rmc]; omega) rfl (by omega) rfl ?_
      refine qa_aast (pc1 := 39) dX8_init_38 rfl ka_ens (ci := k_en) rfl rfl (by omega) (by omega) (ko_en _ hi) (by omega) ?_
      refine qa_iincN (pc1 := 42) dX8_init_39 rfl (by decide) rfl ?_
      refine qa_goto (tgt := 20) dX8_init_42 rfl ?_
      exact qa_memP xi_ar_s (qa_cs (c1 := 1 + (i + 1)) (s1 := 8 + 7 * (i + 1)) (by omega) (by omega) (qa_ls (by exact (kw_lsc rfl (kw_lsc rfl kw_lsn))) (ih (by omega))))
  refine qa_aload_n (pc1 := 1) dX8_init_0 rfl rfl rfl ?_
  refine qi_obj (pc1 := 4) dX8_init_1 rfl wo_X8_3 (by omega) (by decide) (by decide) ?_
  refine qa_aload_n (pc1 := 5) dX8_init_4 rfl rfl rfl ?_
  refine qa_bipush (pc1 := 7) dX8_init_5 (v := (nI 8)) kc_b8N rfl ?_
  refine qi_newq (pc1 := 10) dX8_init_7 rfl (t := 5) rfl (by decide) wq_X8_11 (by decide) (by decide) (by decide) (m := 70) (by omega) rfl rfl (fun j => by rw [kw_rC (by omega)]; exact hz _ (by omega) (by omega) j) (fun j => by (repeat rw [ax_u_n (by omega)]); exact hzP _ (by omega) (by omega) j) (by decide) (by decide) ?_
  refine qa_putPF (pc1 := 13) dX8_init_10 rfl wi_X8_13 rfl rfl ko_rel (by omega) ?_
  refine qa_aload_n (pc1 := 14) dX8_init_13 rfl rfl rfl ?_
  refine qa_iconst (pc1 := 15) dX8_init_14 (v := (-1)) kc_im1 rfl ?_
  refine qc_putI (pc1 := 18) dX8_init_15 rfl wp_X8_17 rfl rfl rfl ko_rel (by omega) (by omega) ?_
  refine qa_iconst (pc1 := 19) dX8_init_18 (v := (nI 0)) kc_i0N rfl ?_
  refine qa_istore_n (pc1 := 20) dX8_init_19 rfl (by decide) rfl ?_
  exact qa_memP xi_ar_0 (qa_cs (c1 := 1 + 0) (s1 := 8 + 7 * 0) rfl rfl (qa_ls (by exact (kw_lsc rfl (kw_lsc rfl kw_lsn))) (loop (0 : Nat) (Nat.zero_le _))))
set_option maxRecDepth 20000 in
set_option maxHeartbeats 4000000 in
theorem ci_hm {h : Nat} (hh : h < 2) (hz : ∀ q, 80 + 48 * h < q → q < 176 → ∀ j, C q j = 0) (hzP : ∀ q, 80 + 48 * h < q → q < 176 → ∀ j, P q j = 0) : ax_C l D aC b yX3_init cX3_init 3 none (kw_rmc 3 47 406) (80 + 48 * h) 47 406 [.inr (.inl (80 + 48 * h)), .inl (nI (3 + h))] kw_K kw_L (kw_gl C M) P (kw_R none kw_K kw_L (kw_gl (xi_hmC C h) M) (xi_hm P h)) := by
  refine ax_body (own := RX3) (ini := true) (by decide) rfl (fun _ => rfl) (Nat.le_of_ble_eq_true rfl) ?_
  have hzC1 : ∀ q, 87 + 48 * h < q → q < 176 → ∀ j, xi_hmC C h q j = 0 := fun q g1 g2 j => by
    unfold xi_hmC xi_lm; rw [if_neg (by omega), ax_u_n (by omega)]; exact hz q (by omega) g2 j
  have hzP1 : ∀ q, 87 + 48 * h < q → q < 176 → ∀ j, (xi_hmB P h) q j = 0 := fun q g1 g2 j => by
    unfold xi_hmB xi_se; rw [ax_u_n (by omega), ax_u_n (by omega), ax_u_n (by omega), ax_u_n (by omega), ax_u_n (by omega), ax_u_n (by omega), ax_u_n (by omega)]; exact hzP q (by omega) g2 j
  have loop : ∀ i, i ≤ 40 → ax_G l D aC b RX3 cX3_init 3 none true (kw_rmc 3 47 406) (80 + 48 * h) (ax_F D aC b (80 + 48 * h) 47 406 (kw_R none kw_K kw_L (kw_gl (xi_hmC C h) M) (xi_hm P h))) (fun _ => True) 68 [(2, .inl (nI i)), (0, .inr (.inl (80 + 48 * h)))] [] (7 + i) (86 + 8 * i) kw_K kw_L (kw_gl (xi_hmC C h) M) (xi_ar (xi_hmB P h) (87 + 48 * h) (88 + 48 * h) i) := by
    refine  kw_loopB 40 (fun i hiN ih => ?_)
    refine qa_iload_n (pc1 := 69) dX3_init_68 rfl rfl rfl ?_
    refine qa_bipush (pc1 := 71) dX3_init_69 (v := (nI 40)) kc_b40N rfl ?_
    refine qn_ic_ge (tgt := 93) (pc1 := 74) dX3_init_71 rfl rfl (by omega) (by omega) (fun h71 => ?_) (fun h71 => ?_)
    · have e9 : i = 40 := by omega
      subst e9
      exact qa_vret dX3_init_93 rfl rfl rfl rfl rfl
    · have hi : i < 40 := by omega
      refine qa_aload_n (pc1 := 75) dX3_init_74 rfl rfl rfl ?_
      refine qa_getP (pc1 := 78) dX3_init_75 rfl wf_X3_27 rfl (ko_hm _ (by assumption)) (by omega) (show _ = 87 + 48 * h from by rw [xi_ar_o (by omega)]; exact ax_u_at) ?_
      refine qa_iload_n (pc1 := 79) dX3_init_78 rfl rfl rfl ?_
      refine qi_new (pc1 := 82) dX3_init_79 rfl wn_X3_25 (ci := k_rc) rfl (m := 88 + 48 * h + i) (by omega) (ko_rc _ hh _ hi).2 (kl_rc _ hh _ hi) (fun j => by rw [kw_rC (by omega)]; exact hzC1 _ (by omega) (by omega) j) (fun j => by rw [xi_ar_o (by omega)]; exact hzP1 _ (by omega) (by omega) j) (show _ ≤ _ from by show _ ≤ (_ : Nat); simp only [kw_rmc]; omega) (show _ ≤ _ from by show _ ≤ (_ : Nat); simp only [kw_rmc]; omega) ?_
      refine qa_dup (pc1 := 83) dX3_init_82 rfl ?_
      refine qi_callJ (pc1 := 86) dX3_init_83 rfl (ci_JournalRecord (by omega)) wc_X3_35 wy_X4_init rfl (show _ ≤ _ from by show _ ≤ (_ : Nat); simp only [kw_rmc]; omega) (show _ ≤ _ from by show _ ≤ (_ : Nat); simp only [kw_rmc]; omega) rfl (by omega) rfl ?_
      refine qa_aast (pc1 := 87) dX3_init_86 rfl (ka_rcs _ (by assumption)) (ci := k_rc) rfl rfl (by omega) (by omega) (ko_rc _ hh _ hi) (by omega) ?_
      refine qa_iincN (pc1 := 90) dX3_init_87 rfl (by decide) rfl ?_
      refine qa_goto (tgt := 68) dX3_init_90 rfl ?_
      exact qa_memP xi_ar_s (qa_cs (c1 := 7 + (i + 1)) (s1 := 86 + 8 * (i + 1)) (by omega) (by omega) (qa_ls (by exact (kw_lsc rfl (kw_lsc rfl kw_lsn))) (ih (by omega))))
  have lp47 : ∀ i, i ≤ 12 → ax_G l D aC b RX3 cX3_init 3 none true (kw_rmc 3 47 406) (80 + 48 * h) (ax_F D aC b (80 + 48 * h) 47 406 (kw_R none kw_K kw_L (kw_gl (xi_hmC C h) M) (xi_hm P h))) (fun _ => True) 47 [(2, .inl (nI i)), (0, .inr (.inl (80 + 48 * h)))] [] 7 86 kw_K kw_L (kw_gl (xi_lm (ax_u C (80 + 48 * h) 0 (nI (3 + h))) h i) M) (xi_hmB P h) := by
    refine  kw_loopB 12 (fun i hiN ih => ?_)
    refine qa_iload_n (pc1 := 48) dX3_init_47 rfl rfl rfl ?_
    refine qa_bipush (pc1 := 50) dX3_init_48 (v := (nI 12)) kc_b12N rfl ?_
    refine qn_ic_ge (tgt := 66) (pc1 := 53) dX3_init_50 rfl rfl (by omega) (by omega) (fun h50 => ?_) (fun h50 => ?_)
    · refine qa_iconst (pc1 := 67) dX3_init_66 (v := (nI 0)) kc_i0N rfl ?_
      refine qa_istore_n (pc1 := 68) dX3_init_67 rfl (by decide) rfl ?_
      have e9 : i = 12 := by omega
      subst e9
      exact qa_memP xi_ar_0 (qa_cs (c1 := 7 + 0) (s1 := 86 + 8 * 0) rfl rfl (qa_ls (by exact (kw_lsc rfl (kw_lsc rfl kw_lsn))) (loop (0 : Nat) (Nat.zero_le _))))
    · have hi : i < 12 := by omega
      refine qa_aload_n (pc1 := 54) dX3_init_53 rfl rfl rfl ?_
      refine qa_getP (pc1 := 57) dX3_init_54 rfl wf_X3_15 rfl (ko_hm _ (by assumption)) (by omega) (show _ = 82 + 48 * h from by unfold xi_hmB xi_se; rw [ax_u_k (by omega), ax_u_k (by omega), ax_u_n (by omega), ax_u_n (by omega), ax_u_n (by omega)]; exact ax_u_at) ?_
      refine qa_iload_n (pc1 := 58) dX3_init_57 rfl rfl rfl ?_
      refine qa_iconst (pc1 := 59) dX3_init_58 (v := (-1)) kc_im1 rfl ?_
      refine qc_iast (pc1 := 60) dX3_init_59 rfl (ka_li _ (by assumption)) rfl (by omega) (by omega) (by omega) ?_
      refine qa_iincN (pc1 := 63) dX3_init_60 rfl (by decide) rfl ?_
      refine qa_goto (tgt := 47) dX3_init_63 rfl ?_
      exact qa_memC xi_lm_s (qa_ls (by exact (kw_lsc rfl (kw_lsc rfl kw_lsn))) (ih (by omega)))
  refine qa_aload_n (pc1 := 1) dX3_init_0 rfl rfl rfl ?_
  refine qi_obj (pc1 := 4) dX3_init_1 rfl wo_X3_3 (by omega) (by decide) (by decide) ?_
  refine qa_aload_n (pc1 := 5) dX3_init_4 rfl rfl rfl ?_
  refine qa_bipush (pc1 := 7) dX3_init_5 (v := (nI 12)) kc_b12N rfl ?_
  refine qi_newa (pc1 := 9) dX3_init_7 rfl (t := 0) rfl (by decide) rfl rfl wa_int (by decide) (by decide) (m := 81 + 48 * h) (by omega) (ka_pw _ hh).2.1 (ka_pw _ hh).2.2.2.1 (fun j => by rw [kw_rC (by omega)]; exact hz _ (by omega) (by omega) j) (fun j => by (repeat rw [ax_u_n (by omega)]); exact hzP _ (by omega) (by omega) j) (by decide) (by decide) ?_
  refine qa_putPF (pc1 := 12) dX3_init_9 rfl wi_X3_9 rfl rfl (ko_hm _ (by assumption)) (by omega) ?_
  refine qa_aload_n (pc1 := 13) dX3_init_12 rfl rfl rfl ?_
  refine qa_bipush (pc1 := 15) dX3_init_13 (v := (nI 12)) kc_b12N rfl ?_
  refine qi_newa (pc1 := 17) dX3_init_15 rfl (t := 0) rfl (by decide) rfl rfl wa_int (by decide) (by decide) (m := 82 + 48 * h) (by omega) (ka_li _ hh).2.1 (ka_li _ hh).2.2.2.1 (fun j => by rw [kw_rC (by omega)]; exact hz _ (by omega) (by omega) j) (fun j => by (repeat rw [ax_u_n (by omega)]); exact hzP _ (by omega) (by omega) j) (by decide) (by decide) ?_
  refine qa_putPF (pc1 := 20) dX3_init_17 rfl wi_X3_15 rfl rfl (ko_hm _ (by assumption)) (by omega) ?_
  refine qa_aload_n (pc1 := 21) dX3_init_20 rfl rfl rfl ?_
  refine qi_new (pc1 := 24) dX3_init_21 rfl wn_X3_18 (ci := k_se) rfl (m := 83 + 48 * h) (by omega) (ko_se _ hh).2 (kl_se _ hh) (fun j => by rw [kw_rC (by omega)]; exact hz _ (by omega) (by omega) j) (fun j => by (repeat rw [ax_u_n (by omega)]); exact hzP _ (by omega) (by omega) j) (by decide) (by decide) ?_
  refine qa_dup (pc1 := 25) dX3_init_24 rfl ?_
  refine qi_callJ (pc1 := 28) dX3_init_25 rfl (ci_seN (by omega) hh (fun q g1 g2 j => hz q (by omega) g2 j) (fun q g1 g2 j => by (repeat rw [ax_u_n (by omega)]); exact hzP q (by omega) g2 j)) wc_X3_20 wy_X9_init rfl (by decide) (by decide) rfl (by omega) rfl ?_
  refine qa_putPF (pc1 := 31) dX3_init_28 rfl wi_X3_21 rfl rfl (ko_hm _ (by assumption)) (by omega) ?_
  refine qa_aload_n (pc1 := 32) dX3_init_31 rfl rfl rfl ?_
  refine qa_bipush (pc1 := 34) dX3_init_32 (v := (nI 40)) kc_b40N rfl ?_
  refine qi_newq (pc1 := 37) dX3_init_34 rfl (t := 7) rfl (by decide) wq_X3_25 (by decide) (by decide) (by decide) (m := 87 + 48 * h) (by omega) (ka_rcs _ hh).2.1 (ka_rcs _ hh).2.2.2.1 (fun j => by rw [kw_rC (by omega)]; exact hz _ (by omega) (by omega) j) (fun j => by unfold xi_se; (repeat rw [ax_u_n (by omega)]); exact hzP _ (by omega) (by omega) j) (by decide) (by decide) ?_
  refine qa_putPF (pc1 := 40) dX3_init_37 rfl wi_X3_27 rfl rfl (ko_hm _ (by assumption)) (by omega) ?_
  refine qa_aload_n (pc1 := 41) dX3_init_40 rfl rfl rfl ?_
  refine qa_iload_n (pc1 := 42) dX3_init_41 rfl rfl rfl ?_
  refine qc_putIF (pc1 := 45) dX3_init_42 rfl wi_X3_31 rfl rfl rfl rfl (ko_hm _ (by assumption)) (by omega) (by omega) ?_
  refine qa_iconst (pc1 := 46) dX3_init_45 (v := (nI 0)) kc_i0N rfl ?_
  refine qa_istore_n (pc1 := 47) dX3_init_46 rfl (by decide) rfl ?_
  exact qa_memC xi_lm_0 (qa_cs (c1 := 7) (s1 := 86) rfl rfl (qa_ls (by exact (kw_lsc rfl (kw_lsc rfl kw_lsn))) (lp47 0 (Nat.zero_le _))))

def xi_s1 (P : ax_P) : ax_P := ax_u (xi_net P) 1 0 2
def xi_s2 (P : ax_P) : ax_P := ax_u (xi_s1 P) 1 1 56
def xi_s3 (P : ax_P) : ax_P := ax_u (xi_pt (xi_s2 P) 0) 56 0 57
def xi_s4 (P : ax_P) : ax_P := ax_u (xi_pt (xi_s3 P) 1) 56 1 63
def xi_s5 (P : ax_P) : ax_P := ax_u (xi_rel (xi_s4 P)) 1 2 69
def xi_s6 (P : ax_P) : ax_P := ax_u (xi_s5 P) 1 3 79
def xi_s7 (P : ax_P) : ax_P := ax_u (xi_hm (xi_s6 P) 0) 79 0 80
def xi_sF (P : ax_P) : ax_P := ax_u (xi_hm (xi_s7 P) 1) 79 1 128
def xi_c1 (C : ax_I) : ax_I := xi_ptC C 0
def xi_c2 (C : ax_I) : ax_I := xi_ptC (xi_c1 C) 1
def xi_c3 (C : ax_I) : ax_I := ax_u (xi_c2 C) 69 1 (-1)
def xi_c4 (C : ax_I) : ax_I := xi_hmC (xi_c3 C) 0
def xi_cF (C : ax_I) : ax_I := xi_hmC (xi_c4 C) 1
section XIZ
variable {C : ax_I} {P : ax_P}
theorem xi_z1 (hzP : ∀ q, 1 < q → q < 176 → ∀ j, P q j = 0) : ∀ q, 55 < q → q < 176 → ∀ j, xi_s1 P q j = 0 := fun q g1 g2 j => by
  unfold xi_s1 xi_net; rw [ax_u_n (by omega), xi_nt_o (by omega) (by omega), ax_u_n (by omega), ax_u_n (by omega), ax_u_n (by omega), ax_u_n (by omega), ax_u_n (by omega)]; exact hzP q (by omega) g2 j
theorem xi_z2 (hzP : ∀ q, 1 < q → q < 176 → ∀ j, P q j = 0) : ∀ q, 55 < q → q < 176 → ∀ j, xi_s2 P q j = 0 := fun q g1 g2 j => by
  unfold xi_s2; rw [ax_u_n (by omega)]; exact xi_z1 hzP q g1 g2 j
theorem xi_z3 (hzP : ∀ q, 1 < q → q < 176 → ∀ j, P q j = 0) : ∀ q, 62 < q → q < 176 → ∀ j, xi_s3 P q j = 0 := fun q g1 g2 j => by
  unfold xi_s3 xi_pt; rw [ax_u_n (by omega), xi_ar_o (by omega), ax_u_n (by omega)]; exact xi_z2 hzP q (by omega) g2 j
theorem xi_z4 (hzP : ∀ q, 1 < q → q < 176 → ∀ j, P q j = 0) : ∀ q, 68 < q → q < 176 → ∀ j, xi_s4 P q j = 0 := fun q g1 g2 j => by
  unfold xi_s4 xi_pt; rw [ax_u_n (by omega), xi_ar_o (by omega), ax_u_n (by omega)]; exact xi_z3 hzP q (by omega) g2 j
theorem xi_z5 (hzP : ∀ q, 1 < q → q < 176 → ∀ j, P q j = 0) : ∀ q, 78 < q → q < 176 → ∀ j, xi_s5 P q j = 0 := fun q g1 g2 j => by
  unfold xi_s5 xi_rel; rw [ax_u_n (by omega), xi_ar_o (by omega), ax_u_n (by omega)]; exact xi_z4 hzP q (by omega) g2 j
theorem xi_z6 (hzP : ∀ q, 1 < q → q < 176 → ∀ j, P q j = 0) : ∀ q, 78 < q → q < 176 → ∀ j, xi_s6 P q j = 0 := fun q g1 g2 j => by
  unfold xi_s6; rw [ax_u_n (by omega)]; exact xi_z5 hzP q (by omega) g2 j
theorem xi_z7 (hzP : ∀ q, 1 < q → q < 176 → ∀ j, P q j = 0) : ∀ q, 127 < q → q < 176 → ∀ j, xi_s7 P q j = 0 := fun q g1 g2 j => by
  unfold xi_s7 xi_hm xi_hmB xi_se; rw [ax_u_n (by omega), xi_ar_o (by omega), ax_u_n (by omega), ax_u_n (by omega), ax_u_n (by omega), ax_u_n (by omega), ax_u_n (by omega), ax_u_n (by omega), ax_u_n (by omega)]; exact xi_z6 hzP q (by omega) g2 j
theorem xi_zc1 (hz : ∀ q, 1 < q → q < 176 → ∀ j, C q j = 0) : ∀ q, 62 < q → q < 176 → ∀ j, xi_c1 C q j = 0 := fun q g1 g2 j => by
  unfold xi_c1 xi_ptC; rw [ax_u_n (by omega), ax_u_n (by omega)]; exact hz q (by omega) g2 j
theorem xi_zc2 (hz : ∀ q, 1 < q → q < 176 → ∀ j, C q j = 0) : ∀ q, 68 < q → q < 176 → ∀ j, xi_c2 C q j = 0 := fun q g1 g2 j => by
  unfold xi_c2 xi_ptC; rw [ax_u_n (by omega), ax_u_n (by omega)]; exact xi_zc1 hz q (by omega) g2 j
theorem xi_zc3 (hz : ∀ q, 1 < q → q < 176 → ∀ j, C q j = 0) : ∀ q, 69 < q → q < 176 → ∀ j, xi_c3 C q j = 0 := fun q g1 g2 j => by
  unfold xi_c3; rw [ax_u_n (by omega)]; exact xi_zc2 hz q (by omega) g2 j
theorem xi_zc4 (hz : ∀ q, 1 < q → q < 176 → ∀ j, C q j = 0) : ∀ q, 127 < q → q < 176 → ∀ j, xi_c4 C q j = 0 := fun q g1 g2 j => by
  unfold xi_c4 xi_hmC xi_lm; rw [if_neg (by omega), ax_u_n (by omega)]; exact xi_zc3 hz q (by omega) g2 j
end XIZ

set_option maxRecDepth 20000 in
set_option maxHeartbeats 4000000 in
theorem ci_rl (hz : ∀ q, 1 < q → q < 176 → ∀ j, C q j = 0) (hzP : ∀ q, 1 < q → q < 176 → ∀ j, P q j = 0) : ax_C l D aC b yX0_init cX0_init 2 none (kw_rmc 5 174 1254) 1 174 1254 [.inr (.inl 1)] kw_K kw_L (kw_gl C M) P (kw_R none kw_K kw_L (kw_gl (xi_cF C) M) (xi_sF P)) := by
  refine ax_body (own := RX0) (ini := true) (by decide) rfl (fun _ => rfl) (Nat.le_of_ble_eq_true rfl) ?_
  refine qa_aload_n (pc1 := 1) dX0_init_0 rfl rfl rfl ?_
  refine qi_obj (pc1 := 4) dX0_init_1 rfl wo_X0_1 (by decide) (by decide) (by decide) ?_
  have z0C := hz
  have z0P := hzP
  refine qa_aload_n (pc1 := 5) dX0_init_4 rfl rfl rfl ?_
  refine qi_new (pc1 := 8) dX0_init_5 rfl wn_X0_7 (ci := k_net) rfl (m := 2) rfl rfl rfl (fun j => by rw [kw_rC (by decide)]; exact hz _ (by decide) (by decide) j) (fun j => hzP _ (by decide) (by decide) j) (by decide) (by decide) ?_
  refine qa_dup (pc1 := 9) dX0_init_8 rfl ?_
  refine qi_callI (pc1 := 12) dX0_init_9 rfl (ci_net (fun q g1 g2 j => hz q (by omega) g2 j) (fun q g1 g2 j => hzP q (by omega) g2 j)) wc_X0_9 wy_X6_init rfl (by decide) (by decide) rfl (by decide) rfl ?_
  refine qa_putPF (pc1 := 15) dX0_init_12 rfl wi_X0_10 rfl rfl ko_rl (by omega) ?_
  refine qa_memP (P1 := xi_s1 P) rfl ?_
  refine qa_aload_n (pc1 := 16) dX0_init_15 rfl rfl rfl ?_
  refine qa_iconst (pc1 := 17) dX0_init_16 (v := (nI 2)) kc_i2N rfl ?_
  refine qi_newq (pc1 := 20) dX0_init_17 rfl (t := 3) rfl (by decide) wq_X0_16 (by decide) (by decide) (by decide) (m := 56) rfl rfl rfl (fun j => by rw [kw_rC (by decide)]; exact hz _ (by decide) (by decide) j) (fun j => (xi_z1 hzP) _ (by decide) (by decide) j) (by decide) (by decide) ?_
  refine qa_putPF (pc1 := 23) dX0_init_20 rfl wi_X0_18 rfl rfl ko_rl (by omega) ?_
  refine qa_memP (P1 := xi_s2 P) rfl ?_
  refine qa_iconst (pc1 := 24) dX0_init_23 (v := (nI 0)) kc_i0N rfl ?_
  refine qa_istore_n (pc1 := 25) dX0_init_24 rfl (by decide) rfl ?_
  refine qa_iload_n (pc1 := 26) dX0_init_25 rfl rfl rfl ?_
  refine qa_iconst (pc1 := 27) dX0_init_26 (v := 2) kc_i2 rfl ?_
  refine qf_ic_ge (tgt := 50) (pc1 := 30) dX0_init_27 rfl rfl (by decide) ?_
  refine qa_aload_n (pc1 := 31) dX0_init_30 rfl rfl rfl ?_
  refine qa_getP (pc1 := 34) dX0_init_31 rfl wf_X0_18 rfl ko_rl (by omega) (show _ = (56 : Nat) from rfl) ?_
  refine qa_iload_n (pc1 := 35) dX0_init_34 rfl rfl rfl ?_
  refine qi_new (pc1 := 38) dX0_init_35 rfl wn_X0_16 (ci := k_pt) rfl (m := 57) rfl rfl rfl (fun j => by rw [kw_rC (by decide)]; exact hz _ (by decide) (by decide) j) (fun j => (xi_z2 hzP) _ (by decide) (by decide) j) (by decide) (by decide) ?_
  refine qa_dup (pc1 := 39) dX0_init_38 rfl ?_
  refine qa_iload_n (pc1 := 40) dX0_init_39 rfl rfl rfl ?_
  refine qi_callI (pc1 := 43) dX0_init_40 rfl (ci_pt (p := 0) (by decide) (fun q g1 g2 j => hz q (by omega) g2 j) (fun q g1 g2 j => xi_z2 hzP q (by omega) g2 j)) wc_X0_22 wy_X7_init rfl (by decide) (by decide) rfl (by decide) rfl ?_
  refine qa_aast (pc1 := 44) dX0_init_43 rfl ka_pts (ci := k_pt) rfl rfl (by omega) (by omega) (by decide) (by omega) ?_
  refine qa_iincN (pc1 := 47) dX0_init_44 rfl (by decide) rfl ?_
  refine qa_goto (tgt := 25) dX0_init_47 rfl ?_
  refine qa_iload_n (pc1 := 26) dX0_init_25 rfl rfl rfl ?_
  refine qa_iconst (pc1 := 27) dX0_init_26 (v := 2) kc_i2 rfl ?_
  refine qf_ic_ge (tgt := 50) (pc1 := 30) dX0_init_27 rfl rfl (by decide) ?_
  refine qa_aload_n (pc1 := 31) dX0_init_30 rfl rfl rfl ?_
  refine qa_getP (pc1 := 34) dX0_init_31 rfl wf_X0_18 rfl ko_rl (by omega) (show _ = (56 : Nat) from rfl) ?_
  refine qa_iload_n (pc1 := 35) dX0_init_34 rfl rfl rfl ?_
  refine qi_new (pc1 := 38) dX0_init_35 rfl wn_X0_16 (ci := k_pt) rfl (m := 63) rfl rfl rfl (fun j => by rw [kw_rC (by decide)]; exact (xi_zc1 hz) _ (by decide) (by decide) j) (fun j => (xi_z3 hzP) _ (by decide) (by decide) j) (by decide) (by decide) ?_
  refine qa_dup (pc1 := 39) dX0_init_38 rfl ?_
  refine qa_iload_n (pc1 := 40) dX0_init_39 rfl rfl rfl ?_
  refine qi_callI (pc1 := 43) dX0_init_40 rfl (ci_pt (p := 1) (by decide) (fun q g1 g2 j => xi_zc1 hz q (by omega) g2 j) (fun q g1 g2 j => xi_z3 hzP q (by omega) g2 j)) wc_X0_22 wy_X7_init rfl (by decide) (by decide) rfl (by decide) rfl ?_
  refine qa_aast (pc1 := 44) dX0_init_43 rfl ka_pts (ci := k_pt) rfl rfl (by omega) (by omega) (by decide) (by omega) ?_
  refine qa_iincN (pc1 := 47) dX0_init_44 rfl (by decide) rfl ?_
  refine qa_goto (tgt := 25) dX0_init_47 rfl ?_
  refine qa_iload_n (pc1 := 26) dX0_init_25 rfl rfl rfl ?_
  refine qa_iconst (pc1 := 27) dX0_init_26 (v := 2) kc_i2 rfl ?_
  refine qt_ic_ge (tgt := 50) dX0_init_27 rfl (by decide) ?_
  refine qa_memP (P1 := xi_s4 P) rfl (qa_memC (C1 := xi_c2 C) rfl ?_)
  refine qa_aload_n (pc1 := 51) dX0_init_50 rfl rfl rfl ?_
  refine qi_new (pc1 := 54) dX0_init_51 rfl wn_X0_25 (ci := k_rel) rfl (m := 69) rfl rfl rfl (fun j => by rw [kw_rC (by decide)]; exact (xi_zc2 hz) _ (by decide) (by decide) j) (fun j => (xi_z4 hzP) _ (by decide) (by decide) j) (by decide) (by decide) ?_
  refine qa_dup (pc1 := 55) dX0_init_54 rfl ?_
  refine qi_callI (pc1 := 58) dX0_init_55 rfl (ci_rel (fun q g1 g2 j => xi_zc2 hz q (by omega) g2 j) (fun q g1 g2 j => xi_z4 hzP q (by omega) g2 j)) wc_X0_27 wy_X8_init rfl (by decide) (by decide) rfl (by decide) rfl ?_
  refine qa_putPF (pc1 := 61) dX0_init_58 rfl wi_X0_28 rfl rfl ko_rl (by omega) ?_
  refine qa_memP (P1 := xi_s5 P) rfl (qa_memC (C1 := xi_c3 C) rfl ?_)
  refine qa_aload_n (pc1 := 62) dX0_init_61 rfl rfl rfl ?_
  refine qa_iconst (pc1 := 63) dX0_init_62 (v := (nI 2)) kc_i2N rfl ?_
  refine qi_newq (pc1 := 66) dX0_init_63 rfl (t := 6) rfl (by decide) wq_X0_32 (by decide) (by decide) (by decide) (m := 79) rfl rfl rfl (fun j => by rw [kw_rC (by decide)]; exact (xi_zc3 hz) _ (by decide) (by decide) j) (fun j => (xi_z5 hzP) _ (by decide) (by decide) j) (by decide) (by decide) ?_
  refine qa_putPF (pc1 := 69) dX0_init_66 rfl wi_X0_34 rfl rfl ko_rl (by omega) ?_
  refine qa_memP (P1 := xi_s6 P) rfl ?_
  refine qa_iconst (pc1 := 70) dX0_init_69 (v := (nI 0)) kc_i0N rfl ?_
  refine qa_istore_n (pc1 := 71) dX0_init_70 rfl (by decide) rfl ?_
  refine qa_iload_n (pc1 := 72) dX0_init_71 rfl rfl rfl ?_
  refine qa_iconst (pc1 := 73) dX0_init_72 (v := 2) kc_i2 rfl ?_
  refine qf_ic_ge (tgt := 98) (pc1 := 76) dX0_init_73 rfl rfl (by decide) ?_
  refine qa_aload_n (pc1 := 77) dX0_init_76 rfl rfl rfl ?_
  refine qa_getP (pc1 := 80) dX0_init_77 rfl wf_X0_34 rfl ko_rl (by omega) (show _ = (79 : Nat) from rfl) ?_
  refine qa_iload_n (pc1 := 81) dX0_init_80 rfl rfl rfl ?_
  refine qi_new (pc1 := 84) dX0_init_81 rfl wn_X0_32 (ci := k_hm) rfl (m := 80) rfl rfl rfl (fun j => by rw [kw_rC (by decide)]; exact (xi_zc3 hz) _ (by decide) (by decide) j) (fun j => (xi_z6 hzP) _ (by decide) (by decide) j) (by decide) (by decide) ?_
  refine qa_dup (pc1 := 85) dX0_init_84 rfl ?_
  refine qa_iconst (pc1 := 86) dX0_init_85 (v := 3) kc_i3 rfl ?_
  refine qa_iload_n (pc1 := 87) dX0_init_86 rfl rfl rfl ?_
  refine qa_iadd (pc1 := 88) dX0_init_87 rfl ?_
  refine qi_callI (pc1 := 91) dX0_init_88 rfl (ci_hm (h := 0) (by decide) (fun q g1 g2 j => xi_zc3 hz q (by omega) g2 j) (fun q g1 g2 j => xi_z6 hzP q (by omega) g2 j)) wc_X0_38 wy_X3_init rfl (by decide) (by decide) rfl (by decide) rfl ?_
  refine qa_aast (pc1 := 92) dX0_init_91 rfl ka_hms (ci := k_hm) rfl rfl (by omega) (by omega) (by decide) (by omega) ?_
  refine qa_iincN (pc1 := 95) dX0_init_92 rfl (by decide) rfl ?_
  refine qa_goto (tgt := 71) dX0_init_95 rfl ?_
  refine qa_iload_n (pc1 := 72) dX0_init_71 rfl rfl rfl ?_
  refine qa_iconst (pc1 := 73) dX0_init_72 (v := 2) kc_i2 rfl ?_
  refine qf_ic_ge (tgt := 98) (pc1 := 76) dX0_init_73 rfl rfl (by decide) ?_
  refine qa_aload_n (pc1 := 77) dX0_init_76 rfl rfl rfl ?_
  refine qa_getP (pc1 := 80) dX0_init_77 rfl wf_X0_34 rfl ko_rl (by omega) (show _ = (79 : Nat) from rfl) ?_
  refine qa_iload_n (pc1 := 81) dX0_init_80 rfl rfl rfl ?_
  refine qi_new (pc1 := 84) dX0_init_81 rfl wn_X0_32 (ci := k_hm) rfl (m := 128) rfl rfl rfl (fun j => by rw [kw_rC (by decide)]; exact (xi_zc4 hz) _ (by decide) (by decide) j) (fun j => (xi_z7 hzP) _ (by decide) (by decide) j) (by decide) (by decide) ?_
  refine qa_dup (pc1 := 85) dX0_init_84 rfl ?_
  refine qa_iconst (pc1 := 86) dX0_init_85 (v := 3) kc_i3 rfl ?_
  refine qa_iload_n (pc1 := 87) dX0_init_86 rfl rfl rfl ?_
  refine qa_iadd (pc1 := 88) dX0_init_87 rfl ?_
  refine qi_callI (pc1 := 91) dX0_init_88 rfl (ci_hm (h := 1) (by decide) (fun q g1 g2 j => xi_zc4 hz q (by omega) g2 j) (fun q g1 g2 j => xi_z7 hzP q (by omega) g2 j)) wc_X0_38 wy_X3_init rfl (by decide) (by decide) rfl (by decide) rfl ?_
  refine qa_aast (pc1 := 92) dX0_init_91 rfl ka_hms (ci := k_hm) rfl rfl (by omega) (by omega) (by decide) (by omega) ?_
  refine qa_iincN (pc1 := 95) dX0_init_92 rfl (by decide) rfl ?_
  refine qa_goto (tgt := 71) dX0_init_95 rfl ?_
  refine qa_iload_n (pc1 := 72) dX0_init_71 rfl rfl rfl ?_
  refine qa_iconst (pc1 := 73) dX0_init_72 (v := 2) kc_i2 rfl ?_
  refine qt_ic_ge (tgt := 98) dX0_init_73 rfl (by decide) ?_
  exact qa_vret dX0_init_98 rfl rfl rfl rfl rfl
def xi_mo (P : ax_P) : ax_P := (ax_u (ax_u (ax_u (ax_u (ax_u (ax_u (ax_u (ax_u (ax_u (ax_u (ax_u (ax_u (ax_u (ax_u (ax_u P 176 0 177) 176 1 178) 176 2 179) 176 3 180) 176 4 181) 176 6 182) 176 8 183) 176 9 184) 176 10 185) 176 11 186) 176 14 187) 176 15 188) 176 16 189) 176 17 190) 176 18 191)
set_option maxRecDepth 20000 in
set_option maxHeartbeats 4000000 in
theorem ci_mo (hz : ∀ q, 176 < q → ∀ j, M q j = 0) (hzP : ∀ q, 176 < q → ∀ j, P q j = 0) : ax_C l D aC b yX10_init cX10_init 1 none (kw_rmc 1 15 4214) 176 15 4214 [.inr (.inl 176)] kw_K kw_L (kw_gl C M) P (kw_R none kw_K kw_L (kw_gl C (ax_u (ax_u M 185 0 7) 185 1 7)) (xi_mo P)) := by
  refine ax_body (own := RX10) (ini := true) (by decide) rfl (fun _ => rfl) (Nat.le_of_ble_eq_true rfl) ?_
  refine qa_aload_n (pc1 := 1) dX10_init_0 rfl rfl rfl ?_
  refine qi_obj (pc1 := 4) dX10_init_1 rfl wo_X10_1 (by decide) (by decide) (by decide) ?_
  refine qa_aload_n (pc1 := 5) dX10_init_4 rfl rfl rfl ?_
  refine qa_iconst (pc1 := 6) dX10_init_5 (v := (nI 4)) kc_i4N rfl ?_
  refine qi_newa (pc1 := 8) dX10_init_6 rfl (t := 0) rfl (by decide) rfl rfl wa_int (by decide) (by decide) (m := 177) rfl rfl rfl (fun j => by rw [kw_rM (by decide)]; exact hz _ (by decide) j) (fun j => by (repeat rw [ax_u_n (by decide)]); exact hzP _ (by decide) j) (by decide) (by decide) ?_
  refine qa_putPF (pc1 := 11) dX10_init_8 rfl wi_X10_7 rfl rfl ko_mo (by decide) ?_
  refine qa_aload_n (pc1 := 12) dX10_init_11 rfl rfl rfl ?_
  refine qa_iconst (pc1 := 13) dX10_init_12 (v := (nI 4)) kc_i4N rfl ?_
  refine qi_newa (pc1 := 15) dX10_init_13 rfl (t := 0) rfl (by decide) rfl rfl wa_int (by decide) (by decide) (m := 178) rfl rfl rfl (fun j => by rw [kw_rM (by decide)]; exact hz _ (by decide) j) (fun j => by (repeat rw [ax_u_n (by decide)]); exact hzP _ (by decide) j) (by decide) (by decide) ?_
  refine qa_putPF (pc1 := 18) dX10_init_15 rfl wi_X10_13 rfl rfl ko_mo (by decide) ?_
  refine qa_aload_n (pc1 := 19) dX10_init_18 rfl rfl rfl ?_
  refine qa_bipush (pc1 := 21) dX10_init_19 (v := (nI 12)) kc_b12N rfl ?_
  refine qi_newa (pc1 := 23) dX10_init_21 rfl (t := 1) rfl (by decide) rfl rfl wa_boolean (by decide) (by decide) (m := 179) rfl rfl rfl (fun j => by rw [kw_rM (by decide)]; exact hz _ (by decide) j) (fun j => by (repeat rw [ax_u_n (by decide)]); exact hzP _ (by decide) j) (by decide) (by decide) ?_
  refine qa_putPF (pc1 := 26) dX10_init_23 rfl wi_X10_16 rfl rfl ko_mo (by decide) ?_
  refine qa_aload_n (pc1 := 27) dX10_init_26 rfl rfl rfl ?_
  refine qa_bipush (pc1 := 29) dX10_init_27 (v := (nI 12)) kc_b12N rfl ?_
  refine qi_newa (pc1 := 31) dX10_init_29 rfl (t := 0) rfl (by decide) rfl rfl wa_int (by decide) (by decide) (m := 180) rfl rfl rfl (fun j => by rw [kw_rM (by decide)]; exact hz _ (by decide) j) (fun j => by (repeat rw [ax_u_n (by decide)]); exact hzP _ (by decide) j) (by decide) (by decide) ?_
  refine qa_putPF (pc1 := 34) dX10_init_31 rfl wi_X10_20 rfl rfl ko_mo (by decide) ?_
  refine qa_aload_n (pc1 := 35) dX10_init_34 rfl rfl rfl ?_
  refine qa_bipush (pc1 := 37) dX10_init_35 (v := (nI 12)) kc_b12N rfl ?_
  refine qi_newa (pc1 := 39) dX10_init_37 rfl (t := 0) rfl (by decide) rfl rfl wa_int (by decide) (by decide) (m := 181) rfl rfl rfl (fun j => by rw [kw_rM (by decide)]; exact hz _ (by decide) j) (fun j => by (repeat rw [ax_u_n (by decide)]); exact hzP _ (by decide) j) (by decide) (by decide) ?_
  refine qa_putPF (pc1 := 42) dX10_init_39 rfl wi_X10_23 rfl rfl ko_mo (by decide) ?_
  refine qa_aload_n (pc1 := 43) dX10_init_42 rfl rfl rfl ?_
  refine qa_sipush (pc1 := 46) dX10_init_43 (v := (nI 192)) kc_s192N rfl ?_
  refine qi_newa (pc1 := 48) dX10_init_46 rfl (t := 0) rfl (by decide) rfl rfl wa_int (by decide) (by decide) (m := 182) rfl rfl rfl (fun j => by rw [kw_rM (by decide)]; exact hz _ (by decide) j) (fun j => by (repeat rw [ax_u_n (by decide)]); exact hzP _ (by decide) j) (by decide) (by decide) ?_
  refine qa_putPF (pc1 := 51) dX10_init_48 rfl wi_X10_26 rfl rfl ko_mo (by decide) ?_
  refine qa_aload_n (pc1 := 52) dX10_init_51 rfl rfl rfl ?_
  refine qa_bipush (pc1 := 54) dX10_init_52 (v := (nI 8)) kc_b8N rfl ?_
  refine qi_newa (pc1 := 56) dX10_init_54 rfl (t := 0) rfl (by decide) rfl rfl wa_int (by decide) (by decide) (m := 183) rfl rfl rfl (fun j => by rw [kw_rM (by decide)]; exact hz _ (by decide) j) (fun j => by (repeat rw [ax_u_n (by decide)]); exact hzP _ (by decide) j) (by decide) (by decide) ?_
  refine qa_putPF (pc1 := 59) dX10_init_56 rfl wi_X10_29 rfl rfl ko_mo (by decide) ?_
  refine qa_aload_n (pc1 := 60) dX10_init_59 rfl rfl rfl ?_
  refine qa_bipush (pc1 := 62) dX10_init_60 (v := (nI 80)) kc_b80N rfl ?_
  refine qi_newa (pc1 := 64) dX10_init_62 rfl (t := 0) rfl (by decide) rfl rfl wa_int (by decide) (by decide) (m := 184) rfl rfl rfl (fun j => by rw [kw_rM (by decide)]; exact hz _ (by decide) j) (fun j => by (repeat rw [ax_u_n (by decide)]); exact hzP _ (by decide) j) (by decide) (by decide) ?_
  refine qa_putPF (pc1 := 67) dX10_init_64 rfl wi_X10_32 rfl rfl ko_mo (by decide) ?_
  refine qa_aload_n (pc1 := 68) dX10_init_67 rfl rfl rfl ?_
  refine qa_iconst (pc1 := 69) dX10_init_68 (v := (nI 2)) kc_i2N rfl ?_
  refine qi_newa (pc1 := 71) dX10_init_69 rfl (t := 0) rfl (by decide) rfl rfl wa_int (by decide) (by decide) (m := 185) rfl rfl rfl (fun j => by rw [kw_rM (by decide)]; exact hz _ (by decide) j) (fun j => by (repeat rw [ax_u_n (by decide)]); exact hzP _ (by decide) j) (by decide) (by decide) ?_
  refine qa_putPF (pc1 := 74) dX10_init_71 rfl wi_X10_35 rfl rfl ko_mo (by decide) ?_
  refine qa_aload_n (pc1 := 75) dX10_init_74 rfl rfl rfl ?_
  refine qa_sipush (pc1 := 78) dX10_init_75 (v := (nI 3072)) kc_s3072N rfl ?_
  refine qi_newa (pc1 := 80) dX10_init_78 rfl (t := 0) rfl (by decide) rfl rfl wa_int (by decide) (by decide) (m := 186) rfl rfl rfl (fun j => by rw [kw_rM (by decide)]; exact hz _ (by decide) j) (fun j => by (repeat rw [ax_u_n (by decide)]); exact hzP _ (by decide) j) (by decide) (by decide) ?_
  refine qa_putPF (pc1 := 83) dX10_init_80 rfl wi_X10_38 rfl rfl ko_mo (by decide) ?_
  refine qa_aload_n (pc1 := 84) dX10_init_83 rfl rfl rfl ?_
  refine qa_sipush (pc1 := 87) dX10_init_84 (v := (nI 800)) kc_s800N rfl ?_
  refine qi_newa (pc1 := 89) dX10_init_87 rfl (t := 0) rfl (by decide) rfl rfl wa_int (by decide) (by decide) (m := 187) rfl rfl rfl (fun j => by rw [kw_rM (by decide)]; exact hz _ (by decide) j) (fun j => by (repeat rw [ax_u_n (by decide)]); exact hzP _ (by decide) j) (by decide) (by decide) ?_
  refine qa_putPF (pc1 := 92) dX10_init_89 rfl wi_X10_41 rfl rfl ko_mo (by decide) ?_
  refine qa_aload_n (pc1 := 93) dX10_init_92 rfl rfl rfl ?_
  refine qa_iconst (pc1 := 94) dX10_init_93 (v := (nI 2)) kc_i2N rfl ?_
  refine qi_newa (pc1 := 96) dX10_init_94 rfl (t := 0) rfl (by decide) rfl rfl wa_int (by decide) (by decide) (m := 188) rfl rfl rfl (fun j => by rw [kw_rM (by decide)]; exact hz _ (by decide) j) (fun j => by (repeat rw [ax_u_n (by decide)]); exact hzP _ (by decide) j) (by decide) (by decide) ?_
  refine qa_putPF (pc1 := 99) dX10_init_96 rfl wi_X10_44 rfl rfl ko_mo (by decide) ?_
  refine qa_aload_n (pc1 := 100) dX10_init_99 rfl rfl rfl ?_
  refine qa_iconst (pc1 := 101) dX10_init_100 (v := (nI 2)) kc_i2N rfl ?_
  refine qi_newa (pc1 := 103) dX10_init_101 rfl (t := 0) rfl (by decide) rfl rfl wa_int (by decide) (by decide) (m := 189) rfl rfl rfl (fun j => by rw [kw_rM (by decide)]; exact hz _ (by decide) j) (fun j => by (repeat rw [ax_u_n (by decide)]); exact hzP _ (by decide) j) (by decide) (by decide) ?_
  refine qa_putPF (pc1 := 106) dX10_init_103 rfl wi_X10_47 rfl rfl ko_mo (by decide) ?_
  refine qa_aload_n (pc1 := 107) dX10_init_106 rfl rfl rfl ?_
  refine qa_bipush (pc1 := 109) dX10_init_107 (v := (nI 6)) kc_b6N rfl ?_
  refine qi_newa (pc1 := 111) dX10_init_109 rfl (t := 0) rfl (by decide) rfl rfl wa_int (by decide) (by decide) (m := 190) rfl rfl rfl (fun j => by rw [kw_rM (by decide)]; exact hz _ (by decide) j) (fun j => by (repeat rw [ax_u_n (by decide)]); exact hzP _ (by decide) j) (by decide) (by decide) ?_
  refine qa_putPF (pc1 := 114) dX10_init_111 rfl wi_X10_50 rfl rfl ko_mo (by decide) ?_
  refine qa_aload_n (pc1 := 115) dX10_init_114 rfl rfl rfl ?_
  refine qa_bipush (pc1 := 117) dX10_init_115 (v := (nI 6)) kc_b6N rfl ?_
  refine qi_newa (pc1 := 119) dX10_init_117 rfl (t := 0) rfl (by decide) rfl rfl wa_int (by decide) (by decide) (m := 191) rfl rfl rfl (fun j => by rw [kw_rM (by decide)]; exact hz _ (by decide) j) (fun j => by (repeat rw [ax_u_n (by decide)]); exact hzP _ (by decide) j) (by decide) (by decide) ?_
  refine qa_putPF (pc1 := 122) dX10_init_119 rfl wi_X10_53 rfl rfl ko_mo (by decide) ?_
  refine qa_aload_n (pc1 := 123) dX10_init_122 rfl rfl rfl ?_
  refine qa_getP (pc1 := 126) dX10_init_123 rfl wf_X10_35 rfl ko_mo (by decide) (show _ = (185 : Nat) from rfl) ?_
  refine qa_iconst (pc1 := 127) dX10_init_126 (v := (nI 0)) kc_i0N rfl ?_
  refine qa_bipush (pc1 := 129) dX10_init_127 (v := 7) kc_b7 rfl ?_
  refine qr_iast (pc1 := 130) dX10_init_129 rfl ka_m185 rfl (by decide) (by decide) (by decide) ?_
  refine qa_aload_n (pc1 := 131) dX10_init_130 rfl rfl rfl ?_
  refine qa_getP (pc1 := 134) dX10_init_131 rfl wf_X10_35 rfl ko_mo (by decide) (show _ = (185 : Nat) from rfl) ?_
  refine qa_iconst (pc1 := 135) dX10_init_134 (v := (nI 1)) kc_i1N rfl ?_
  refine qa_bipush (pc1 := 137) dX10_init_135 (v := 7) kc_b7 rfl ?_
  refine qr_iast (pc1 := 138) dX10_init_137 rfl ka_m185 rfl (by decide) (by decide) (by decide) ?_
  exact qa_vret dX10_init_138 rfl rfl rfl rfl rfl
end CTOR
