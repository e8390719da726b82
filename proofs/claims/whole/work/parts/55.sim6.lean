/-! CLASS AGAINST REFERENCE: the relay. c entries were made, s0 of them before its last crash. -/
def sm_R (C M : ax_I) (c s0 : Nat) : Prop :=
  M 176 12 = nI c ∧ M 176 13 = nI s0 ∧ s0 ≤ c ∧ C 69 2 = nI c ∧ (C 69 1 = if c = s0 then -1 else nI ((c - 1 - s0) % 8))
  ∧ (∀ e, s0 ≤ e → e < c → c ≤ e + 8 → C (71 + (e - s0) % 8) 0 = 1 ∧ C (71 + (e - s0) % 8) 1 = M 186 (6 * e) ∧ C (71 + (e - s0) % 8) 2 = M 186 (6 * e + 1) ∧ C (71 + (e - s0) % 8) 3 = M 186 (6 * e + 2) ∧ C (71 + (e - s0) % 8) 4 = M 186 (6 * e + 3) ∧ C (71 + (e - s0) % 8) 5 = M 186 (6 * e + 4) ∧ C (71 + (e - s0) % 8) 6 = M 186 (6 * e + 5))
  ∧ (∀ q, q < 8 → c - s0 ≤ q → C (71 + q) 0 = 0)
  ∧ (∀ e, s0 ≤ e → e < c → (M 186 (6 * e) = 0 ∨ M 186 (6 * e) = 1) ∧ (M 186 (6 * e + 4) = 3 ∨ M 186 (6 * e + 4) = 4))
  ∧ (∀ e e', s0 ≤ e → e < e' → e' < c → c ≤ e + 8 → ¬ (M 186 (6 * e) = M 186 (6 * e') ∧ M 186 (6 * e + 1) = M 186 (6 * e' + 1) ∧ M 186 (6 * e + 2) = M 186 (6 * e' + 2) ∧ M 186 (6 * e + 3) = M 186 (6 * e' + 3)))
/-- what the relay leaves alone: the homes of both -/
def sm_fh (C C' M M' : ax_I) : Prop := (∀ q, 79 ≤ q → q < 176 → C' q = C q) ∧ M' 179 = M 179 ∧ M' 180 = M 180 ∧ M' 181 = M 181 ∧ M' 187 = M 187 ∧ M' 188 = M 188 ∧ M' 189 = M 189
section SMR
variable {C C' M M' M2 C2 : ax_I} {P : ax_P} {n d c s0 : Nat} {x : Int32}
theorem sm_fh_of (h : sm_fr C C' M M') : sm_fh C C' M M' := ⟨fun q g1 g2 => h.1 q (by omega) g2, h.2.1, h.2.2.1, h.2.2.2.1, h.2.2.2.2.2.1, h.2.2.2.2.2.2.1, h.2.2.2.2.2.2.2.1⟩
theorem sm_fh_trans (h1 : sm_fh C C' M M') (h2 : sm_fh C' C2 M' M2) : sm_fh C C2 M M2 := by
  obtain ⟨a0, a1, a2, a3, a5, a6, a7⟩ := h1
  obtain ⟨b0, b1, b2, b3, b5, b6, b7⟩ := h2
  exact ⟨fun q g1 g2 => (b0 q g1 g2).trans (a0 q g1 g2), b1.trans a1, b2.trans a2, b3.trans a3, b5.trans a5, b6.trans a6, b7.trans a7⟩
theorem sm_R_fr (hC : ∀ q, 69 ≤ q → q ≤ 78 → C' q = C q) (h1 : M' 186 = M 186) (h2 : M' 176 12 = M 176 12) (h3 : M' 176 13 = M 176 13) (h : sm_R C M c s0) : sm_R C' M' c s0 := by
  obtain ⟨a1, a2, a3, a4, a5, a6, a7, a8, a9⟩ := h
  refine ⟨h2.trans a1, h3.trans a2, a3, by rw [hC 69 (by omega) (by omega)]; exact a4, by rw [hC 69 (by omega) (by omega)]; exact a5, fun e g1 g2 g3 => ?_, fun q g1 g2 => ?_, ?_, ?_⟩
  · rw [hC _ (by omega) (by omega), h1]; exact a6 e g1 g2 g3
  · rw [hC _ (by omega) (by omega)]; exact a7 q g1 g2
  · rw [h1]; exact a8
  · rw [h1]; exact a9
theorem sm_R_frr (h : sm_fr C C' M M') (hR : sm_R C M c s0) : sm_R C' M' c s0 := sm_R_fr (fun q g1 g2 => h.1 q g1 (by omega)) h.2.2.2.2.1 h.2.2.2.2.2.2.2.2.1 h.2.2.2.2.2.2.2.2.2 hR
/-- a sending of both, with all that stays -/
theorem sm_sendA (hps : kw_ps P) (hA : sm_A C P M n) (hW : sm_W M 8) {s r kind id y a b : Int32} (hs : sm_st s r) :
    (∃ n', sm_A (xc_snd C P s r kind id y a b) P (xr_snd M s r kind id y a b) n') ∧ sm_W (xr_snd M s r kind id y a b) 8 ∧ sm_fr C (xc_snd C P s r kind id y a b) M (xr_snd M s r kind id y a b) := by
  obtain ⟨hK, hF, hL⟩ := hA
  have hF2 := sm_send hps hK hF hs (kind := kind) (id := id) (x := y) (a := a) (b := b)
  have co : ∀ q, ¬ q = 2 → (q < 6 ∨ 56 ≤ q) → xc_snd C P s r kind id y a b q = C q := fun q g1 g2 => xc_snd_o hps g1 g2
  have mo : ∀ q j, ¬ q = 182 → ¬ (q = 176 ∧ j = 7) → xr_snd M s r kind id y a b q j = M q j := fun q j g1 g2 => xr_snd_o g1 g2
  have c24 : xc_snd C P s r kind id y a b 2 4 = C 2 4 := by
    unfold xc_snd
    split
    · have hd := kp_fd hps (i := xc_n C) (by assumption)
      have d1 := hd.2.1
      have e2 : ¬ 2 = P 5 (xc_n C) + 1 := by omega
      simp [xc_send, ax_u, e2]
    · rfl
  refine ⟨⟨_, sm_K_fr (co 3 (by omega) (by omega)) (co 4 (by omega) (by omega)) (funext fun j => mo 177 j (by omega) (by omega)) (funext fun j => mo 178 j (by omega) (by omega)) hK, hF2, sm_L_fr (fun q g1 g2 => co q (by omega) (by omega)) c24 (funext fun j => mo 184 j (by omega) (by omega)) (funext fun j => mo 185 j (by omega) (by omega)) (mo 176 5 (by omega) (by omega)) hL⟩, sm_W_fr (funext fun j => mo 184 j (by omega) (by omega)) (mo 176 5 (by omega) (by omega)) hW, ?_⟩
  exact sm_fr_of (fun q g1 g2 => co q (by omega) (by omega)) (fun q j _ g1 _ _ g2 _ => mo q j g1 g2)
theorem sm_win {e : Nat} (he : e < c) (hc : c ≤ 512) : ¬ nI e < nI c - 8 ↔ c ≤ e + 8 := by
  by_cases h : 8 ≤ c
  · rw [show (8 : Int32) = nI 8 from rfl, kw_sub h, nI_ltI (by omega) (by omega)]
    omega
  · have h1 : nI c - 8 < 0 := by
      have : c = 0 ∨ c = 1 ∨ c = 2 ∨ c = 3 ∨ c = 4 ∨ c = 5 ∨ c = 6 ∨ c = 7 := by omega
      rcases this with rfl | rfl | rfl | rfl | rfl | rfl | rfl | rfl <;> decide
    constructor
    · intro _; omega
    · intro _ h2
      exact nI_pos (n := e) (by omega) (Int32.lt_trans h2 h1)
theorem kw_lst_spec {f : Nat → Bool} {k : Nat} : ∀ {s : Nat} {acc : Int32}, (∃ e, s ≤ e ∧ e < s + k ∧ f e = true ∧ kw_lst f s k acc = nI e) ∨ ((∀ e, s ≤ e → e < s + k → ¬ f e = true) ∧ kw_lst f s k acc = acc) := by
  induction k with
  | zero => intro s acc; exact Or.inr ⟨fun e g1 g2 => by omega, rfl⟩
  | succ k ih =>
    intro s acc
    rw [kw_lst_s]
    by_cases h : f (s + k) = true
    · rw [if_pos h]; exact Or.inl ⟨s + k, by omega, by omega, h, rfl⟩
    · rw [if_neg h]
      rcases ih (s := s) (acc := acc) with ⟨e, g1, g2, g3, g4⟩ | ⟨g1, g2⟩
      · exact Or.inl ⟨e, g1, by omega, g3, g4⟩
      · refine Or.inr ⟨fun e h1 h2 => ?_, g2⟩
        by_cases e2 : e = s + k
        · rw [e2]; exact h
        · exact g1 e h1 (by omega)
/-- the entry of a place that is there -/
theorem sm_place_e (hR : sm_R C M c s0) {q : Nat} (hq : q < 8) (h0 : ¬ C (71 + q) 0 = 0) : ∃ e, s0 ≤ e ∧ e < c ∧ c ≤ e + 8 ∧ (e - s0) % 8 = q := by
  obtain ⟨a1, a2, a3, a4, a5, a6, a7, a8, a9⟩ := hR
  have h1 : q < c - s0 := by
    by_cases g : c - s0 ≤ q
    · exact absurd (a7 q hq g) h0
    · omega
  exact ⟨c - 1 - (c - 1 - s0 - q) % 8, by omega, by omega, by omega, by omega⟩
/-- the entry for a request, found by both -/
theorem sm_find_e (hR : sm_R C M c s0) (hc : c ≤ 512) (hG : sm_G C M d) (hx : M 183 6 = x) :
    (∃ e, s0 ≤ e ∧ e < c ∧ c ≤ e + 8 ∧ kw_lst (xr_fc M x) s0 (c - s0) (-1) = nI e ∧ xc_place C (d + 1) = some ((e - s0) % 8) ∧ M 186 (6 * e) = x ∧ M 186 (6 * e + 1) = M 183 0 ∧ M 186 (6 * e + 2) = M 183 1 ∧ M 186 (6 * e + 3) = M 183 2)
    ∨ (kw_lst (xr_fc M x) s0 (c - s0) (-1) = -1 ∧ xc_place C (d + 1) = none ∧ ∀ e, s0 ≤ e → e < c → c ≤ e + 8 → ¬ (M 186 (6 * e) = x ∧ M 186 (6 * e + 1) = M 183 0 ∧ M 186 (6 * e + 2) = M 183 1 ∧ M 186 (6 * e + 3) = M 183 2)) := by
  have hR' := hR
  obtain ⟨a1, a2, a3, a4, a5, a6, a7, a8, a9⟩ := hR
  have hfc : ∀ e, s0 ≤ e → e < c → (xr_fc M x e = true ↔ c ≤ e + 8 ∧ M 186 (6 * e) = x ∧ M 186 (6 * e + 1) = M 183 0 ∧ M 186 (6 * e + 2) = M 183 1 ∧ M 186 (6 * e + 3) = M 183 2) := fun e g1 g2 => by
    unfold xr_fc
    rw [decide_eq_true_eq, a1, sm_win g2 hc]
    constructor
    · rintro ⟨k1, k2, k3, k4, k5⟩; exact ⟨k5, k1, k2, k3, k4⟩
    · rintro ⟨k5, k1, k2, k3, k4⟩; exact ⟨k1, k2, k3, k4, k5⟩
  have hec : ∀ e, s0 ≤ e → e < c → c ≤ e + 8 → (xc_ec C (d + 1) ((e - s0) % 8) = true ↔ M 186 (6 * e) = x ∧ M 186 (6 * e + 1) = M 183 0 ∧ M 186 (6 * e + 2) = M 183 1 ∧ M 186 (6 * e + 3) = M 183 2) := fun e g1 g2 g3 => by
    obtain ⟨k0, k1, k2, k3, k4, k5, k6⟩ := a6 e g1 g2 g3
    unfold xc_ec
    rw [decide_eq_true_eq, k0, k1, k2, k3, k4, hG.1 6 (by omega), hG.1 0 (by omega), hG.1 1 (by omega), hG.1 2 (by omega), hx]
    constructor
    · rintro ⟨_, h⟩; exact h
    · intro h; exact ⟨by decide, h⟩
  rcases kw_lst_spec (f := xr_fc M x) (k := c - s0) (s := s0) (acc := -1) with ⟨e, g1, g2, g3, g4⟩ | ⟨g1, g2⟩
  · left
    have ge : e < c := by omega
    obtain ⟨k0, k1, k2, k3, k4⟩ := (hfc e g1 ge).mp g3
    refine ⟨e, g1, ge, k0, g4, ?_, k1, k2, k3, k4⟩
    have hm := (hec e g1 ge k0).mpr ⟨k1, k2, k3, k4⟩
    unfold xc_place
    cases e2 : kw_first (xc_ec C (d + 1)) 0 8 with
    | none => exact absurd hm (kw_first_none e2 _ (by omega) (by omega))
    | some q =>
      obtain ⟨-, j2, j3, -⟩ := kw_first_some e2
      have h0 : ¬ C (71 + q) 0 = 0 := by
        unfold xc_ec at j3
        rw [decide_eq_true_eq] at j3
        exact j3.1
      obtain ⟨e', m1, m2, m3, m4⟩ := sm_place_e hR' (by omega) h0
      rw [← m4] at j3
      obtain ⟨p1, p2, p3, p4⟩ := (hec e' m1 m2 m3).mp j3
      have : e' = e := by
        rcases Nat.lt_trichotomy e' e with h | h | h
        · exact absurd ⟨p1.trans k1.symm, p2.trans k2.symm, p3.trans k3.symm, p4.trans k4.symm⟩ (a9 e' e m1 h ge m3)
        · exact h
        · exact absurd ⟨k1.trans p1.symm, k2.trans p2.symm, k3.trans p3.symm, k4.trans p4.symm⟩ (a9 e e' g1 h m2 k0)
      rw [← m4, this]
  · right
    have hno : ∀ e, s0 ≤ e → e < c → c ≤ e + 8 → ¬ (M 186 (6 * e) = x ∧ M 186 (6 * e + 1) = M 183 0 ∧ M 186 (6 * e + 2) = M 183 1 ∧ M 186 (6 * e + 3) = M 183 2) := fun e h1 h2 h3 h4 => g1 e h1 (by omega) ((hfc e h1 h2).mpr ⟨h3, h4⟩)
    refine ⟨g2, ?_, hno⟩
    unfold xc_place
    cases e2 : kw_first (xc_ec C (d + 1)) 0 8 with
    | none => rfl
    | some q =>
      exfalso
      obtain ⟨-, j2, j3, -⟩ := kw_first_some e2
      have h0 : ¬ C (71 + q) 0 = 0 := by
        unfold xc_ec at j3
        rw [decide_eq_true_eq] at j3
        exact j3.1
      obtain ⟨e', m1, m2, m3, m4⟩ := sm_place_e hR' (by omega) h0
      rw [← m4] at j3
      exact hno e' m1 m2 m3 ((hec e' m1 m2 m3).mp j3)
theorem sm_st2 {y : Int32} (h : y = 0 ∨ y = 1 ∨ y = 3 ∨ y = 4) : sm_st 2 y := Or.inr ⟨rfl, h⟩
/-- a request is handed on -/
theorem sm_ho (hps : kw_ps P) (hA : sm_A C P M n) (hW : sm_W M 8) (hR : sm_R C M c s0) (hG : sm_G C M d) {e : Nat} (h1 : s0 ≤ e) (h2 : e < c) (h3 : c ≤ e + 8) (k1 : M 186 (6 * e) = x) (k2 : M 186 (6 * e + 1) = M 183 0) (k4 : M 186 (6 * e + 3) = M 183 2) :
    (∃ n', sm_A (xc_ho C P (d + 1) ((e - s0) % 8)) P (xr_ho M x e s0) n') ∧ sm_W (xr_ho M x e s0) 8 ∧ sm_fr C (xc_ho C P (d + 1) ((e - s0) % 8)) M (xr_ho M x e s0) := by
  have hK := hA.1
  obtain ⟨a1, a2, a3, a4, a5, a6, a7, a8, a9⟩ := hR
  obtain ⟨m0, m1, m2, m3, m4, m5, m6⟩ := a6 e h1 h2 h3
  obtain ⟨q1, q2⟩ := a8 e h1 h2
  have hx2 : sm_st 2 x := sm_st2 (by rw [← k1]; rcases q1 with h | h; exact Or.inl h; exact Or.inr (Or.inl h))
  have hh2 : sm_st 2 (M 186 (6 * e + 4)) := sm_st2 (by rcases q2 with h | h; exact Or.inr (Or.inr (Or.inl h)); exact Or.inr (Or.inr (Or.inr h)))
  have hb : xc_hb C (d + 1) (71 + (e - s0) % 8) = xr_hb M x e := by
    unfold xc_hb xr_hb
    rw [m2, m1, m4, m5, m6, k1, k2, k4, hG.1 4 (by omega), sm_key hK hx2, sm_key hK hh2]
    split
    · rw [Int32.xor_assoc]
    · rfl
  unfold xc_ho xr_ho
  rw [hb, m2, m5, m6, k2, hG.1 3 (by omega)]
  exact sm_sendA hps hA hW hh2
/-- a new entry -/
theorem sm_me (hps : kw_ps P) (hA : sm_A C P M n) (hW : sm_W M 8) (hR : sm_R C M c s0) (hG : sm_G C M d) (hdg : kw_dg d) (hx : M 183 6 = x) (hx01 : x = 0 ∨ x = 1) (hno : ∀ e, s0 ≤ e → e < c → c ≤ e + 8 → ¬ (M 186 (6 * e) = x ∧ M 186 (6 * e + 1) = M 183 0 ∧ M 186 (6 * e + 2) = M 183 1 ∧ M 186 (6 * e + 3) = M 183 2)) :
    sm_A (xc_me C (d + 1) ((c - s0) % 8)) P (xr_mk M x c) n ∧ sm_W (xr_mk M x c) 8 ∧ sm_R (xc_me C (d + 1) ((c - s0) % 8)) (xr_mk M x c) (c + 1) s0 ∧ sm_G (xc_me C (d + 1) ((c - s0) % 8)) (xr_mk M x c) d ∧ sm_fh C (xc_me C (d + 1) ((c - s0) % 8)) M (xr_mk M x c)
    ∧ xr_mk M x c 183 = M 183 ∧ xr_mk M x c 186 (6 * c) = x ∧ xr_mk M x c 186 (6 * c + 1) = M 183 0 ∧ xr_mk M x c 186 (6 * c + 3) = M 183 2 ∧ (xr_mk M x c 186 (6 * c + 4) = 3 ∨ xr_mk M x c 186 (6 * c + 4) = 4) := by
  obtain ⟨hK, hF, hL⟩ := hA
  obtain ⟨a1, a2, a3, a4, a5, a6, a7, a8, a9⟩ := hR
  have d1 := hdg.2.1
  have d2 := hdg.2.2
  have hj8 : (c - s0) % 8 < 8 := by omega
  generalize hj : (c - s0) % 8 = j at *
  have co : ∀ q, ¬ q = 69 → ¬ q = 71 + j → xc_me C (d + 1) j q = C q := fun q g1 g2 => by funext k; simp [xc_me, ax_u, g1, g2]
  have mo : ∀ q k, ¬ q = 186 → ¬ (q = 176 ∧ k = 12) → xr_mk M x c q k = M q k := fun q k g1 g2 => by
    unfold xr_mk
    by_cases e : q = 176
    · have : ¬ k = 12 := fun y => g2 ⟨e, y⟩
      simp [ax_u, e, this]
    · simp [ax_u, g1, e]
  have m6 : ∀ k, ¬ (6 * c ≤ k ∧ k < 6 * c + 6) → xr_mk M x c 186 k = M 186 k := fun k g => by
    have g0 : ¬ k = 6 * c := by omega
    have g1 : ¬ k = 6 * c + 1 := by omega
    have g2 : ¬ k = 6 * c + 2 := by omega
    have g3 : ¬ k = 6 * c + 3 := by omega
    have g4 : ¬ k = 6 * c + 4 := by omega
    have g5 : ¬ k = 6 * c + 5 := by omega
    simp [xr_mk, ax_u, g0, g1, g2, g3, g4, g5]
  have n0 : xr_mk M x c 186 (6 * c) = x := by simp [xr_mk, ax_u]
  have n1 : xr_mk M x c 186 (6 * c + 1) = M 183 0 := by simp [xr_mk, ax_u]
  have n2 : xr_mk M x c 186 (6 * c + 2) = M 183 1 := by simp [xr_mk, ax_u]
  have n3 : xr_mk M x c 186 (6 * c + 3) = M 183 2 := by simp [xr_mk, ax_u]
  have n4 : xr_mk M x c 186 (6 * c + 4) = 3 + (M 183 3 &&& 1) := by simp [xr_mk, ax_u]
  have n5 : xr_mk M x c 186 (6 * c + 5) = xa_mix (M 183 2) (nI c) := by simp [xr_mk, ax_u]
  have h183 : xr_mk M x c 183 = M 183 := funext fun k => mo 183 k (by omega) (by omega)
  have g69 : ¬ 71 + j = 69 := by omega
  have g69' : ¬ 69 = 71 + j := by omega
  have c0 : xc_me C (d + 1) j (71 + j) 0 = 1 := by simp [xc_me, ax_u, g69]
  have c1 : xc_me C (d + 1) j (71 + j) 1 = C (d + 1) 6 := by simp [xc_me, ax_u, g69]
  have c2 : xc_me C (d + 1) j (71 + j) 2 = C (d + 1) 0 := by simp [xc_me, ax_u, g69]
  have c3 : xc_me C (d + 1) j (71 + j) 3 = C (d + 1) 1 := by simp [xc_me, ax_u, g69]
  have c4 : xc_me C (d + 1) j (71 + j) 4 = C (d + 1) 2 := by simp [xc_me, ax_u, g69]
  have c5 : xc_me C (d + 1) j (71 + j) 5 = 3 + (C (d + 1) 3 &&& 1) := by simp [xc_me, ax_u, g69]
  have c6 : xc_me C (d + 1) j (71 + j) 6 = xa_mix (C (d + 1) 2) (C 69 2) := by simp [xc_me, ax_u, g69]
  have c69 : xc_me C (d + 1) j 69 1 = nI j := by simp [xc_me, ax_u, g69']
  have c692 : xc_me C (d + 1) j 69 2 = C 69 2 + 1 := by simp [xc_me, ax_u]
  have h34 : xr_mk M x c 186 (6 * c + 4) = 3 ∨ xr_mk M x c 186 (6 * c + 4) = 4 := by
    rw [n4]
    obtain ⟨z, hz, e⟩ := pk_andE (M 183 3) (m := 1) 1 (by decide)
    rw [e]
    have : z = 0 ∨ z = 1 := by omega
    rcases this with rfl | rfl
    · exact Or.inl rfl
    · exact Or.inr rfl
  have hKF := sm_KF (C' := xc_me C (d + 1) j) (M' := xr_mk M x c) hps (fun q g k _ => by rw [co q (by omega) (by omega)]) (funext fun k => mo 177 k (by omega) (by omega)) (funext fun k => mo 178 k (by omega) (by omega)) (funext fun k => mo 182 k (by omega) (by omega)) (mo 176 7 (by omega) (by omega)) hK hF
  refine ⟨⟨hKF.1, hKF.2, sm_L_fr (fun q g1 g2 => co q (by omega) (by omega)) (by rw [co 2 (by omega) (by omega)]) (funext fun k => mo 184 k (by omega) (by omega)) (funext fun k => mo 185 k (by omega) (by omega)) (mo 176 5 (by omega) (by omega)) hL⟩, sm_W_fr (funext fun k => mo 184 k (by omega) (by omega)) (mo 176 5 (by omega) (by omega)) hW, ?_, ⟨fun f hf => ?_, ?_⟩, ?_, h183, n0, n1, n3, h34⟩
  · refine ⟨by simp [xr_mk, ax_u], (mo 176 13 (by omega) (by omega)).trans a2, by omega, by rw [c692, a4, nI_1], ?_, fun e g1 g2 g3 => ?_, fun q g1 g2 => ?_, fun e g1 g2 => ?_, fun e e' g1 g2 g3 g4 => ?_⟩
    · rw [c69, if_neg (by omega), show c + 1 - 1 - s0 = c - s0 from by omega, hj]
    · by_cases ec : e = c
      · subst ec
        rw [hj, c0, c1, c2, c3, c4, c5, c6, n0, n1, n2, n3, n4, n5, hG.1 6 (by omega), hG.1 0 (by omega), hG.1 1 (by omega), hG.1 2 (by omega), hG.1 3 (by omega), hx, a4]
        exact ⟨rfl, rfl, rfl, rfl, rfl, rfl, rfl⟩
      · have hne : ¬ 71 + (e - s0) % 8 = 71 + j := by omega
        rw [co _ (by omega) hne, m6 (6 * e) (by omega), m6 (6 * e + 1) (by omega), m6 (6 * e + 2) (by omega), m6 (6 * e + 3) (by omega), m6 (6 * e + 4) (by omega), m6 (6 * e + 5) (by omega)]
        exact a6 e g1 (by omega) (by omega)
    · rw [co _ (by omega) (by omega)]; exact a7 q g1 (by omega)
    · by_cases ec : e = c
      · subst ec
        rw [n0]; exact ⟨hx01, h34⟩
      · rw [m6 (6 * e) (by omega), m6 (6 * e + 4) (by omega)]; exact a8 e g1 (by omega)
    · by_cases ec : e' = c
      · subst ec
        rw [n0, n1, n2, n3, m6 (6 * e) (by omega), m6 (6 * e + 1) (by omega), m6 (6 * e + 2) (by omega), m6 (6 * e + 3) (by omega)]
        exact hno e g1 g2 (by omega)
      · rw [m6 (6 * e) (by omega), m6 (6 * e + 1) (by omega), m6 (6 * e + 2) (by omega), m6 (6 * e + 3) (by omega), m6 (6 * e') (by omega), m6 (6 * e' + 1) (by omega), m6 (6 * e' + 2) (by omega), m6 (6 * e' + 3) (by omega)]
        exact a9 e e' g1 g2 (by omega) (by omega)
  · rw [co _ (by omega) (by omega), h183]; exact hG.1 f hf
  · rw [h183]; exact hG.2
  · exact ⟨fun q g1 g2 => co q (by omega) (by omega), funext fun k => mo 179 k (by omega) (by omega), funext fun k => mo 180 k (by omega) (by omega), funext fun k => mo 181 k (by omega) (by omega), funext fun k => mo 187 k (by omega) (by omega), funext fun k => mo 188 k (by omega) (by omega), funext fun k => mo 189 k (by omega) (by omega)⟩
theorem sm_nxp (hR : sm_R C M c s0) : xc_nx (C 69 1) = nI ((c - s0) % 8) := by
  obtain ⟨a1, a2, a3, a4, a5, a6, a7, a8, a9⟩ := hR
  rw [a5]
  by_cases e : c = s0
  · subst e
    rw [if_pos rfl, Nat.sub_self]; rfl
  · rw [if_neg e, sm_nx (by omega)]
    congr 1
    omega
/-- an answer at the relay: both hand it on, or both drop it -/
theorem sm_ha (hps : kw_ps P) (hA : sm_A C P M n) (hW : sm_W M 8) (hR : sm_R C M c s0) (hc : c ≤ 512) (hG : sm_G C M d) (hx : M 183 6 = x) {j : Nat} (hj : j < 8) (hpl : M 183 1 = nI j) :
    (∃ n', sm_A (xc_ha C P d j) P (xr_fhm M x s0 c) n') ∧ sm_W (xr_fhm M x s0 c) 8 ∧ sm_fr C (xc_ha C P d j) M (xr_fhm M x s0 c) ∧ kw_b (xc_hac C d j) = xr_fhn M x s0 c := by
  have hR' := hR
  have hK := hA.1
  obtain ⟨a1, a2, a3, a4, a5, a6, a7, a8, a9⟩ := hR
  have hhc : ∀ e, s0 ≤ e → e < c → (xr_hc M x s0 e = true ↔ c ≤ e + 8 ∧ (e - s0) % 8 = j ∧ M 186 (6 * e + 4) = x ∧ xr_right M (M 186 (6 * e + 5))) := fun e g1 g2 => by
    unfold xr_hc
    rw [decide_eq_true_eq, a1, sm_win g2 hc, hpl, nI_eq (by omega) (by omega)]
  unfold xr_fhm xr_fhn
  cases e : kw_first (xr_hc M x s0) s0 (c - s0) with
  | none =>
    have hn : ¬ xc_hac C d j := by
      rintro ⟨h1, h2, h3⟩
      obtain ⟨e', m1, m2, m3, m4⟩ := sm_place_e hR' hj h1
      obtain ⟨k0, k1, k2, k3, k4, k5, k6⟩ := a6 e' m1 m2 m3
      rw [m4] at k5 k6
      refine kw_first_none e e' m1 (by omega) ((hhc e' m1 m2).mpr ⟨m3, m4, ?_, ?_⟩)
      · rw [← k5, h2, hG.1 6 (by omega), hx]
      · rw [k6] at h3; exact (sm_right hK hG).mp h3
    refine ⟨⟨n, ?_⟩, hW, ?_, kw_bf hn⟩
    · unfold xc_ha; rw [if_neg hn]; exact hA
    · unfold xc_ha; rw [if_neg hn]; exact sm_fr_refl
  | some e' =>
    obtain ⟨g1, g2, g3, g4⟩ := kw_first_some e
    have g2' : e' < c := by omega
    obtain ⟨h1, h2, h3, h4⟩ := (hhc e' g1 g2').mp g3
    obtain ⟨k0, k1, k2, k3, k4, k5, k6⟩ := a6 e' g1 g2' h1
    rw [h2] at k0 k1 k2 k3 k4 k5 k6
    have hy : xc_hac C d j := by
      refine ⟨by rw [k0]; decide, by rw [k5, h3, hG.1 6 (by omega), hx], ?_⟩
      rw [k6]; exact (sm_right hK hG).mpr h4
    have hst : sm_st 2 (M 186 (6 * e')) := sm_st2 (by rcases (a8 e' g1 g2').1 with h | h; exact Or.inl h; exact Or.inr (Or.inl h))
    have he : xc_ha C P d j = xc_snd C P 2 (M 186 (6 * e')) (M 183 0) (M 186 (6 * e' + 2)) (M 186 (6 * e' + 3)) (M 183 3) (M 183 4) := by
      unfold xc_ha
      rw [if_pos hy, k1, k3, k4, hG.1 0 (by omega), hG.1 3 (by omega), hG.1 4 (by omega)]
    rw [he]
    obtain ⟨z1, z2, z3⟩ := sm_sendA hps hA hW hst (kind := M 183 0) (id := M 186 (6 * e' + 2)) (y := M 186 (6 * e' + 3)) (a := M 183 3) (b := M 183 4)
    exact ⟨z1, z2, z3, kw_bt hy⟩
/-- the relay crashes -/
theorem sm_fe0 {f : Nat} : ∀ {i : Nat} {C : ax_I} {q : Nat}, xc_fe C i f q 0 = (if 71 + i ≤ q ∧ q < 71 + i + f then 0 else C q 0) ∧ (∀ k, ¬ k = 0 → xc_fe C i f q k = C q k) ∧ (¬ (71 + i ≤ q ∧ q < 71 + i + f) → xc_fe C i f q = C q) := by
  induction f with
  | zero => intro i C q; exact ⟨by rw [if_neg (by omega)]; rfl, fun k _ => rfl, fun _ => rfl⟩
  | succ f ih =>
    intro i C q
    obtain ⟨h1, h2, h3⟩ := ih (i := i + 1) (C := ax_u C (71 + i) 0 0) (q := q)
    unfold xc_fe
    refine ⟨?_, fun k hk => ?_, fun hq => ?_⟩
    · rw [h1]
      by_cases e : q = 71 + i
      · subst e
        rw [if_neg (by omega), if_pos (by omega)]
        simp [ax_u]
      · by_cases e2 : 71 + (i + 1) ≤ q ∧ q < 71 + (i + 1) + f
        · rw [if_pos e2, if_pos (by omega)]
        · rw [if_neg e2, if_neg (by omega), ax_u_n e]
    · rw [h2 k hk, ax_u_k hk]
    · rw [h3 (by omega)]
      funext k
      exact ax_u_n (by omega)
theorem sm_crashR (hps : kw_ps P) (hA : sm_A C P M n) (hW : sm_W M 8) (hR : sm_R C M c s0) :
    sm_A (ax_u (xc_fe C 0 8) 69 1 (-1)) P (ax_u M 176 13 (M 176 12)) n ∧ sm_W (ax_u M 176 13 (M 176 12)) 8 ∧ sm_R (ax_u (xc_fe C 0 8) 69 1 (-1)) (ax_u M 176 13 (M 176 12)) c c ∧ sm_fh C (ax_u (xc_fe C 0 8) 69 1 (-1)) M (ax_u M 176 13 (M 176 12)) := by
  obtain ⟨hK, hF, hL⟩ := hA
  obtain ⟨a1, a2, a3, a4, a5, a6, a7, a8, a9⟩ := hR
  have co : ∀ q, ¬ (69 ≤ q ∧ q ≤ 78) → ax_u (xc_fe C 0 8) 69 1 (-1) q = C q := fun q g => by
    have h3 := (sm_fe0 (f := 8) (i := 0) (C := C) (q := q)).2.2 (by omega)
    funext k
    rw [ax_u_n (by omega), h3]
  have mo : ∀ q k, ¬ (q = 176 ∧ k = 13) → ax_u M 176 13 (M 176 12) q k = M q k := fun q k g => by
    unfold ax_u
    by_cases e : q = 176
    · have : ¬ k = 13 := fun y => g ⟨e, y⟩
      simp [e, this]
    · simp [e]
  have hKF := sm_KF (C' := ax_u (xc_fe C 0 8) 69 1 (-1)) (M' := ax_u M 176 13 (M 176 12)) hps (fun q g k _ => by rw [co q (by omega)]) (funext fun k => mo 177 k (by omega)) (funext fun k => mo 178 k (by omega)) (funext fun k => mo 182 k (by omega)) (mo 176 7 (by omega)) hK hF
  refine ⟨⟨hKF.1, hKF.2, sm_L_fr (fun q g1 g2 => co q (by omega)) (by rw [co 2 (by omega)]) (funext fun k => mo 184 k (by omega)) (funext fun k => mo 185 k (by omega)) (mo 176 5 (by omega)) hL⟩, sm_W_fr (funext fun k => mo 184 k (by omega)) (mo 176 5 (by omega)) hW, ?_, ?_⟩
  · refine ⟨(mo 176 12 (by omega)).trans a1, by rw [ax_u_at]; exact a1, Nat.le_refl _, ?_, by rw [ax_u_at, if_pos rfl], fun e g1 g2 => by omega, fun q g1 g2 => ?_, fun e g1 g2 => by omega, fun e e' g1 g2 g3 => by omega⟩
    · rw [ax_u_k (by omega), (sm_fe0 (f := 8) (i := 0) (C := C) (q := 69)).2.1 2 (by omega)]; exact a4
    · rw [ax_u_n (by omega), (sm_fe0 (f := 8) (i := 0) (C := C) (q := 71 + q)).1, if_pos (by omega)]
  · exact ⟨fun q g1 g2 => co q (by omega), funext fun k => mo 179 k (by omega), funext fun k => mo 180 k (by omega), funext fun k => mo 181 k (by omega), funext fun k => mo 187 k (by omega), funext fun k => mo 188 k (by omega), funext fun k => mo 189 k (by omega)⟩
end SMR
