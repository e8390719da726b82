/-! CLASS AGAINST REFERENCE: a home hears, syncs, crashes, evicts. -/
section SMN
variable {C C' M M' : ax_I} {P : ax_P} {n d h k u r c s0 : Nat}
/-- two homes, the relay, the flight, the lines: all alike behind c entries -/
def sm_All (C : ax_I) (P : ax_P) (M : ax_I) (cN : Nat) : Prop := kw_ps P ∧ (∃ n, sm_A C P M n) ∧ sm_W M 8 ∧ (∃ c s0, c ≤ cN ∧ sm_R C M c s0) ∧ (∃ k u, sm_H C M 0 k u) ∧ (∃ k u, sm_H C M 1 k u)
theorem sm_All_H {cN : Nat} (h2 : h < 2) (hA : sm_All C P M cN) : ∃ k u, sm_H C M h k u := by
  rcases h with _ | _ | h
  · exact hA.2.2.2.2.1
  · exact hA.2.2.2.2.2
  · omega
/-- one home changed, the other stays -/
theorem sm_All_home {cN : Nat} (hh : h < 2) (hA : sm_All C P M cN) (hA' : ∃ n, sm_A C' P M' n) (hW' : sm_W M' 8) (hre : ∀ q, 69 ≤ q → q ≤ 78 → C' q = C q) (h186 : M' 186 = M 186) (h12 : M' 176 12 = M 176 12) (h13 : M' 176 13 = M 176 13)
    (hC : ∀ q, 80 ≤ q → q < 176 → ¬ (80 + 48 * h ≤ q ∧ q < 128 + 48 * h) → C' q = C q) (hb : ∀ j, j < 800 → ¬ (400 * h ≤ j ∧ j < 400 * h + 400) → M' 187 j = M 187 j) (h9 : M' 179 = M 179) (h0 : M' 180 = M 180) (h1 : M' 181 = M 181) (h8 : ∀ h', ¬ h' = h → M' 188 h' = M 188 h') (h89 : ∀ h', ¬ h' = h → M' 189 h' = M 189 h') (hH : ∃ k u, sm_H C' M' h k u) : sm_All C' P M' cN := by
  obtain ⟨hps, -, -, ⟨c, s0, hc, hR⟩, hH0, hH1⟩ := hA
  refine ⟨hps, hA', hW', ⟨c, s0, hc, sm_R_fr hre h186 h12 h13 hR⟩, ?_, ?_⟩
  · by_cases e : h = 0
    · subst e; exact hH
    · obtain ⟨k, u, hk⟩ := hH0
      exact ⟨k, u, sm_H_fr (fun q g1 g2 => hC q (by omega) (by omega) (by omega)) (fun j g1 g2 => hb j (by omega) (by omega)) h9 h0 h1 (h8 0 (by omega)) (h89 0 (by omega)) hk⟩
  · by_cases e : h = 1
    · subst e; exact hH
    · obtain ⟨k, u, hk⟩ := hH1
      exact ⟨k, u, sm_H_fr (fun q g1 g2 => hC q (by omega) (by omega) (by omega)) (fun j g1 g2 => hb j (by omega) (by omega)) h9 h0 h1 (h8 1 (by omega)) (h89 1 (by omega)) hk⟩
/-- flight, lines and relay alike, homes untouched -/
theorem sm_All_fr {cN : Nat} (hA : sm_All C P M cN) (hA' : ∃ n, sm_A C' P M' n) (hW' : sm_W M' 8) (hf : sm_fr C C' M M') : sm_All C' P M' cN := by
  obtain ⟨hps, -, -, ⟨c, s0, hc, hR⟩, ⟨k0, u0, hH0⟩, ⟨k1, u1, hH1⟩⟩ := hA
  exact ⟨hps, hA', hW', ⟨c, s0, hc, sm_R_frr hf hR⟩, ⟨k0, u0, sm_H_fh (by omega) (sm_fh_of hf) hH0⟩, ⟨k1, u1, sm_H_fh (by omega) (sm_fh_of hf) hH1⟩⟩
/-- a change of the reference's own scratch cells alone -/
theorem sm_All_scratch {cN : Nat} (hA : sm_All C P M cN) (hM : ∀ q j, ¬ q = 190 → ¬ q = 191 → ¬ q = 183 → ¬ (q = 176 ∧ j = 19) → M' q j = M q j) : sm_All C P M' cN := by
  obtain ⟨n, hK, hF, hL⟩ := hA.2.1
  have r : ∀ q, ¬ q = 190 → ¬ q = 191 → ¬ q = 183 → ¬ q = 176 → M' q = M q := fun q g1 g2 g3 g4 => funext fun j => hM q j g1 g2 g3 (by omega)
  refine sm_All_fr hA ⟨n, sm_K_fr rfl rfl (r 177 (by omega) (by omega) (by omega) (by omega)) (r 178 (by omega) (by omega) (by omega) (by omega)) hK, sm_F_fr hA.1 (fun _ _ _ => rfl) rfl (r 182 (by omega) (by omega) (by omega) (by omega)) (hM 176 7 (by omega) (by omega) (by omega) (by omega)) hF, sm_L_fr (fun _ _ _ => rfl) rfl (r 184 (by omega) (by omega) (by omega) (by omega)) (r 185 (by omega) (by omega) (by omega) (by omega)) (hM 176 5 (by omega) (by omega) (by omega) (by omega)) hL⟩ (sm_W_fr (r 184 (by omega) (by omega) (by omega) (by omega)) (hM 176 5 (by omega) (by omega) (by omega) (by omega)) hA.2.2.1) ?_
  exact ⟨fun _ _ _ => rfl, r 179 (by omega) (by omega) (by omega) (by omega), r 180 (by omega) (by omega) (by omega) (by omega), r 181 (by omega) (by omega) (by omega) (by omega), r 186 (by omega) (by omega) (by omega) (by omega), r 187 (by omega) (by omega) (by omega) (by omega), r 188 (by omega) (by omega) (by omega) (by omega), r 189 (by omega) (by omega) (by omega) (by omega), hM 176 12 (by omega) (by omega) (by omega) (by omega), hM 176 13 (by omega) (by omega) (by omega) (by omega)⟩
/-- the class's rows that a record's carrying out leaves -/
theorem xc_sa_o {R q : Nat} {x a b : Int32} (g : ¬ q = R) : xc_sa C R x a b q = C q := by funext j; simp [xc_sa, ax_u, g]
theorem xc_tr_o {R q z : Nat} {now : Int32} (g : ¬ q = R) : xc_tr C R z now q = C q := by funext j; simp [xc_tr, ax_u, g]
theorem xc_new_o {q : Nat} (g : ¬ q = 88 + 48 * h + k) : xc_new C h k d q = C q := by
  unfold xc_new xc_ask
  (repeat' split) <;> rw [xc_sa_o g, xc_tr_o g]
theorem xc_ev_o {q : Nat} {a : Int32} (g : ¬ q = 88 + 48 * h + k) : xc_ev C h k a q = C q := by
  unfold xc_ev
  rw [xc_sa_o g]; funext j; exact ax_u_n g
theorem xc_sa_6 {R : Nat} {x a b : Int32} : xc_sa C R x a b R 6 = a := by simp [xc_sa, ax_u]
theorem xc_sa_k {R j : Nat} {x a b : Int32} (hj : j < 5) : xc_sa C R x a b R j = C R j := by
  have g5 : ¬ j = 5 := by omega
  have g6 : ¬ j = 6 := by omega
  have g7 : ¬ j = 7 := by omega
  simp [xc_sa, ax_u, g5, g6, g7]
/-- a record is added: its two rows fit, then the home has k + 1 of them -/
theorem sm_add {C1 M1 : ax_I} (hh : h < 2) (hk : k < 40) (hH : sm_H C M h k u) (hC : ∀ q, 80 + 48 * h ≤ q → q < 128 + 48 * h → ¬ q = 88 + 48 * h + k → C1 q = C q) (hb : ∀ j, 400 * h ≤ j → j < 400 * h + 400 → ¬ (400 * h + 10 * k ≤ j ∧ j < 400 * h + 10 * k + 10) → M1 187 j = M 187 j)
    (h9 : M1 179 = M 179) (h0 : M1 180 = M 180) (h1 : M1 181 = M 181) (h8 : M1 188 h = nI (k + 1)) (h89 : M1 189 h = M 189 h) (hrec : sm_rec C1 (M1 187) h k) : sm_H (xc_add C1 h k) M1 h (k + 1) u := by
  obtain ⟨a1, a2, a3, a4, a5, a6, a7, a8, a9, a10⟩ := hH
  have co : ∀ q, ¬ q = 80 + 48 * h → ¬ q = 83 + 48 * h → ¬ q = 84 + 48 * h → ¬ q = 85 + 48 * h → ¬ q = 86 + 48 * h → xc_add C1 h k q = C1 q := fun q g0 g1 g2 g3 g4 => by
    unfold xc_add; funext j; rw [ax_u_n g0, xc_carry_o g1 g2 g3 g4]
  have co80 : ∀ j, ¬ j = 5 → xc_add C1 h k (80 + 48 * h) j = C (80 + 48 * h) j := fun j g => by
    unfold xc_add; rw [ax_u_k g, xc_carry_o (by omega) (by omega) (by omega) (by omega), hC _ (by omega) (by omega) (by omega)]
  refine ⟨by omega, by omega, by unfold xc_add; exact ax_u_at, h8, by rw [co80 6 (by omega)]; exact a5, h89.trans a6, by rw [co80 0 (by omega)]; exact a7, ?_, fun r hr => ?_, ?_⟩
  · unfold sm_U at a8 ⊢
    rw [co _ (by omega) (by omega) (by omega) (by omega) (by omega), co _ (by omega) (by omega) (by omega) (by omega) (by omega), hC _ (by omega) (by omega) (by omega), hC _ (by omega) (by omega) (by omega), h9, h0, h1]
    exact a8
  · by_cases e : r = k
    · subst e
      exact sm_rec_fr (co _ (by omega) (by omega) (by omega) (by omega) (by omega)) (fun _ _ _ => rfl) hrec
    · exact sm_rec_fr ((co _ (by omega) (by omega) (by omega) (by omega) (by omega)).trans (hC _ (by omega) (by omega) (by omega))) (fun j g1 g2 => hb j g1 (by omega) (by omega)) (a9 r (by omega))
  · have hS1 : sm_S C1 (M1 187) h k := sm_S_fr (fun q g1 g2 => hC q (by omega) (by omega) (by omega)) (fun j g1 g2 => hb j g1 (by omega) (by omega)) a10
    have hS2 := sm_carry (C1 := C1) (C := C1) hk hS1 rfl hrec
    refine sm_S_fr (fun q g1 g2 => ?_) (fun _ _ _ => rfl) hS2
    unfold xc_add; funext j; exact ax_u_n (by omega)
/-- answers that became durable are sent -/
theorem sm_dur (hps : kw_ps P) (hh : h < 2) {cN : Nat} : ∀ {f i : Nat} {C M : ax_I}, i + f = k → sm_All C P M cN → sm_H C M h k u →
    sm_All (xc_md P h i f C) P (xr_sy h i f M) cN ∧ sm_H (xc_md P h i f C) (xr_sy h i f M) h k u := by
  intro f
  induction f with
  | zero => intro i C M _ hA hH; exact ⟨hA, hH⟩
  | succ f ih =>
    intro i C M hif hA hH
    unfold xc_md xr_sy
    obtain ⟨n, hAn⟩ := hA.2.1
    rcases hH.2.2.2.2.2.2.2.2.1 i (by omega) with ⟨h0, h5, hb0, -⟩ | ⟨h0, hb0, -, -, -, -, -, -, hh5⟩
    · rw [if_pos h5, if_pos (by rw [hb0]; decide)]
      exact ih (by omega) hA hH
    · have hq : ¬ C (88 + 48 * h + i) 0 = 5 := by rcases h0 with e | e <;> (rw [e]; decide)
      have h5 : ¬ C (88 + 48 * h + i) 5 = -1 := by
        rcases hh5 with ⟨e, -⟩ | ⟨e, -⟩ | ⟨e, -⟩ <;> (rw [e]; decide)
      have hb : ¬ M 187 (400 * h + 10 * i) < 0 := by
        rw [hb0]; rcases h0 with e | e <;> (rw [e]; decide)
      rw [if_neg h5, if_neg hb]
      obtain ⟨z1, z2, z3⟩ := sm_answer hps hh hAn hA.2.2.1 hH (show i < k from by omega) hq
      exact ih (by omega) (sm_All_fr hA z1 z2 z3) (sm_H_fh hh (sm_fh_of z3) hH)
theorem sm_sync {cN : Nat} (hh : h < 2) (hA : sm_All C P M cN) (hH : sm_H C M h k u) : sm_All (ax_u (xc_md P h u (k - u) C) (80 + 48 * h) 6 (nI k)) P (xr_sy h u (k - u) (ax_u M 189 h (nI k))) cN := by
  -- the reference writes 'durable' first: do it there, with the class's behind it
  have hswap : ∀ f i (M : ax_I), xr_sy h i f (ax_u M 189 h (nI k)) = ax_u (xr_sy h i f M) 189 h (nI k) := by
    intro f
    induction f with
    | zero => intro i M; rfl
    | succ f ih =>
      intro i M
      unfold xr_sy
      rw [← ih]
      congr 1
      have e187 : ∀ j, ax_u M 189 h (nI k) 187 j = M 187 j := fun j => ax_u_n (by omega)
      rw [e187]
      split
      · rfl
      · unfold xr_ans
        simp only [e187]
        unfold xr_snd
        have e7 : xr_n (ax_u M 189 h (nI k)) = xr_n M := by unfold xr_n; rw [ax_u_n (by omega)]
        rw [e7]
        split
        · have ek : ∀ s o, xr_key (ax_u M 189 h (nI k)) s o = xr_key M s o := fun s o => by
            unfold xr_key; rw [ax_u_n (by omega), ax_u_n (by omega)]
          unfold xr_put
          rw [ek]
          funext q j
          by_cases e : q = 189
          · subst e; simp [ax_u]
          · simp [ax_u, e]
        · rfl
  rw [hswap]
  obtain ⟨g1, g2⟩ := sm_dur (f := k - u) (i := u) hA.1 hh (by have := hH.1; omega) hA hH
  generalize xc_md P h u (k - u) C = C1 at *
  generalize xr_sy h u (k - u) M = M1 at *
  obtain ⟨n, hK, hF, hL⟩ := g1.2.1
  obtain ⟨a1, a2, a3, a4, a5, a6, a7, a8, a9, a10⟩ := g2
  have mo : ∀ q, ¬ q = 189 → ax_u M1 189 h (nI k) q = M1 q := fun q g => funext fun j => ax_u_n g
  have co : ∀ q, ¬ q = 80 + 48 * h → ax_u C1 (80 + 48 * h) 6 (nI k) q = C1 q := fun q g => funext fun j => ax_u_n g
  have hKF := sm_KF (C' := ax_u C1 (80 + 48 * h) 6 (nI k)) (M' := ax_u M1 189 h (nI k)) hA.1 (fun q g j _ => by rw [co q (by omega)]) (mo 177 (by omega)) (mo 178 (by omega)) (mo 182 (by omega)) (by rw [mo 176 (by omega)]) hK hF
  refine sm_All_home hh g1 ⟨n, hKF.1, hKF.2, sm_L_fr (fun q g1 g2 => co q (by omega)) (by rw [co 2 (by omega)]) (mo 184 (by omega)) (mo 185 (by omega)) (by rw [mo 176 (by omega)]) hL⟩ (sm_W_fr (mo 184 (by omega)) (by rw [mo 176 (by omega)]) g1.2.2.1) (fun q k1 k2 => co q (by omega)) (mo 186 (by omega)) (by rw [mo 176 (by omega)]) (by rw [mo 176 (by omega)]) (fun q k1 k2 k3 => co q (by omega)) (fun j _ _ => by rw [mo 187 (by omega)]) (mo 179 (by omega)) (mo 180 (by omega)) (mo 181 (by omega)) (fun h' _ => by rw [mo 188 (by omega)]) (fun h' g => ax_u_k g) ⟨k, k, ?_⟩
  refine ⟨Nat.le_refl _, a2, by rw [ax_u_k (by omega)]; exact a3, by rw [mo 188 (by omega)]; exact a4, ax_u_at, ax_u_at, by rw [ax_u_k (by omega)]; exact a7, ?_, fun r hr => ?_, ?_⟩
  · unfold sm_U at a8 ⊢
    rw [co _ (by omega), co _ (by omega), mo 179 (by omega), mo 180 (by omega), mo 181 (by omega)]
    exact a8
  · exact sm_rec_fr (co _ (by omega)) (fun j _ _ => by rw [mo 187 (by omega)]) (a9 r hr)
  · exact sm_S_fr (fun q k1 k2 => co q (by omega)) (fun j _ _ => by rw [mo 187 (by omega)]) a10
/-- the sessions are made anew out of the records -/
theorem sm_redo {bk : Nat → Int32} {C0 : ax_I} (hr : ∀ r, r < u → sm_rec C0 bk h r) (hu : u ≤ 40) : ∀ {f i : Nat} {C : ax_I}, i + f = u → (∀ q, 88 + 48 * h ≤ q → q < 128 + 48 * h → C q = C0 q) → sm_S C bk h i → sm_S (xc_rp h i f C) bk h u ∧ (∀ q, ¬ (83 + 48 * h ≤ q ∧ q ≤ 86 + 48 * h) → xc_rp h i f C q = C q) := by
  intro f
  induction f with
  | zero => intro i C hi _ hS; rw [show u = i from by omega]; exact ⟨hS, fun _ _ => rfl⟩
  | succ f ih =>
    intro i C hi hrow hS
    unfold xc_rp
    have hS1 := sm_carry (C1 := C) (C := C0) (r := i) (by omega) hS (hrow _ (by omega) (by omega)) (hr i (by omega))
    have ho : ∀ q, ¬ (83 + 48 * h ≤ q ∧ q ≤ 86 + 48 * h) → xc_carry C h (88 + 48 * h + i) q = C q := fun q g => xc_carry_o (by omega) (by omega) (by omega) (by omega)
    obtain ⟨z1, z2⟩ := ih (i := i + 1) (by omega) (fun q g1 g2 => (ho q (by omega)).trans (hrow q g1 g2)) hS1
    exact ⟨z1, fun q g => (z2 q g).trans (ho q g)⟩
theorem xc_sfg_84 {f : Nat} : ∀ {i a : Nat} {C : ax_I}, i ≤ a → a < i + f → xc_sfg h i f C (84 + 48 * h) a = 0 := by
  induction f with
  | zero => intro i a C g1 g2; omega
  | succ f ih =>
    intro i a C g1 g2
    unfold xc_sfg
    by_cases e : a = i
    · subst e
      have : ∀ g b (C : ax_I), a < b → xc_sfg h b g C (84 + 48 * h) a = C (84 + 48 * h) a := by
        intro g
        induction g with
        | zero => intro b C _; rfl
        | succ g ihg =>
          intro b C hb
          unfold xc_sfg
          rw [ihg (b + 1) _ (by omega), ax_u_k (by omega)]
      rw [this f (a + 1) _ (by omega), ax_u_at]
    · exact ih (by omega) (by omega)
theorem sm_crashH {cN : Nat} (hh : h < 2) (hA : sm_All C P M cN) (hH : sm_H C M h k u) : sm_All (xc_rp h 0 u (xc_sf (ax_u C (80 + 48 * h) 5 (nI u)) h)) P (ax_u M 188 h (M 189 h)) cN := by
  obtain ⟨a1, a2, a3, a4, a5, a6, a7, a8, a9, a10⟩ := hH
  have hC0 : ∀ q, ¬ q = 80 + 48 * h → ¬ q = 83 + 48 * h → ¬ q = 84 + 48 * h → xc_sf (ax_u C (80 + 48 * h) 5 (nI u)) h q = C q := fun q g0 g1 g2 => by
    rw [xc_sf_o g1 g2]; funext j; exact ax_u_n g0
  have hS0 : sm_S (xc_sf (ax_u C (80 + 48 * h) 5 (nI u)) h) (M 187) h 0 := by
    refine ⟨fun a ha => Or.inl ⟨rfl, ?_⟩, ?_, fun a b _ _ _ hn => absurd rfl hn⟩
    · unfold xc_sf
      rw [ax_u_n (by omega)]; exact xc_sfg_84 (by omega) (by omega)
    · unfold xc_sf; rw [ax_u_at]; rfl
  obtain ⟨z1, z2⟩ := sm_redo (u := u) (C0 := C) (fun r hr => a9 r (by omega)) (by omega) (f := u) (i := 0) (by omega) (fun q g1 g2 => hC0 q (by omega) (by omega) (by omega)) hS0
  have e80 : ∀ j, ¬ j = 5 → xc_rp h 0 u (xc_sf (ax_u C (80 + 48 * h) 5 (nI u)) h) (80 + 48 * h) j = C (80 + 48 * h) j := fun j g => by
    rw [z2 _ (by omega), xc_sf_o (by omega) (by omega)]; exact ax_u_k g
  have e85 : xc_rp h 0 u (xc_sf (ax_u C (80 + 48 * h) 5 (nI u)) h) (80 + 48 * h) 5 = nI u := by
    rw [z2 _ (by omega), xc_sf_o (by omega) (by omega)]; exact ax_u_at
  have co : ∀ q, ¬ (80 + 48 * h = q) → ¬ (83 + 48 * h ≤ q ∧ q ≤ 86 + 48 * h) → xc_rp h 0 u (xc_sf (ax_u C (80 + 48 * h) 5 (nI u)) h) q = C q := fun q g0 g => by
    rw [z2 q g]; exact hC0 q (by omega) (by omega) (by omega)
  have mo : ∀ q, ¬ q = 188 → ax_u M 188 h (M 189 h) q = M q := fun q g => funext fun j => ax_u_n g
  obtain ⟨n, hK, hF, hL⟩ := hA.2.1
  generalize xc_rp h 0 u (xc_sf (ax_u C (80 + 48 * h) 5 (nI u)) h) = C1 at *
  have hKF := sm_KF (C' := C1) (M' := ax_u M 188 h (M 189 h)) hA.1 (fun q g j _ => by rw [co q (by omega) (by omega)]) (mo 177 (by omega)) (mo 178 (by omega)) (mo 182 (by omega)) (by rw [mo 176 (by omega)]) hK hF
  refine sm_All_home hh hA ⟨n, hKF.1, hKF.2, sm_L_fr (fun q g1 g2 => co q (by omega) (by omega)) (by rw [co 2 (by omega) (by omega)]) (mo 184 (by omega)) (mo 185 (by omega)) (by rw [mo 176 (by omega)]) hL⟩ (sm_W_fr (mo 184 (by omega)) (by rw [mo 176 (by omega)]) hA.2.2.1) (fun q k1 k2 => co q (by omega) (by omega)) (mo 186 (by omega)) (by rw [mo 176 (by omega)]) (by rw [mo 176 (by omega)]) (fun q k1 k2 k3 => co q (by omega) (by omega)) (fun j _ _ => by rw [mo 187 (by omega)]) (mo 179 (by omega)) (mo 180 (by omega)) (mo 181 (by omega)) (fun h' g => ax_u_k g) (fun h' _ => by rw [mo 189 (by omega)]) ⟨u, u, ?_⟩
  refine ⟨Nat.le_refl _, by omega, e85, by rw [ax_u_at]; exact a6, by rw [e80 6 (by omega)]; exact a5, by rw [mo 189 (by omega)]; exact a6, by rw [e80 0 (by omega)]; exact a7, ?_, fun r hr => ?_, ?_⟩
  · unfold sm_U at a8 ⊢
    rw [co _ (by omega) (by omega), co _ (by omega) (by omega), mo 179 (by omega), mo 180 (by omega), mo 181 (by omega)]
    exact a8
  · exact sm_rec_fr (co _ (by omega) (by omega)) (fun j _ _ => by rw [mo 187 (by omega)]) (a9 r (by omega))
  · exact sm_S_fr (fun _ _ _ => rfl) (fun j _ _ => by rw [mo 187 (by omega)]) z1
end SMN
