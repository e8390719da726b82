/-! CLASS AGAINST REFERENCE: a point hears, a point crashes, a line is told of. -/
section SMH
variable {C C' M M' : ax_I} {P : ax_P} {n p i d : Nat}
/-- a row of a line is changed and the line is not pending behind it -/
theorem sm_line (hps : kw_ps P) (hA : sm_A C P M n) (hW : sm_W M 8) (hp : p < 2) (hi : i < 4) (hC : ∀ q, ¬ q = 59 + 6 * p + i → C' q = C q) (hM : ∀ q j, ¬ (q = 184 ∧ 10 * (4 * p + i) ≤ j ∧ j < 10 * (4 * p + i) + 10) → M' q j = M q j)
    (hr : ∀ k, k < 10 → C' (59 + 6 * p + i) k = M' 184 (10 * (4 * p + i) + sm_o k)) (h0 : M' 184 (10 * (4 * p + i)) = 0 ∨ M' 184 (10 * (4 * p + i)) = 2) : sm_A C' P M' n ∧ sm_W M' 8 ∧ sm_fr C C' M M' := by
  obtain ⟨hK, hF, b1, b2, b3, b4, b5⟩ := hA
  have hng : ¬ xr_pg M' (4 * p + i) := by
    unfold xr_pg
    rcases h0 with h | h <;> (rw [h]; decide)
  have hKF := sm_KF (C' := C') (M' := M') hps (fun q g j _ => by rw [hC q (by omega)]) (funext fun j => hM 177 j (by omega)) (funext fun j => hM 178 j (by omega)) (funext fun j => hM 182 j (by omega)) (hM 176 7 (by omega)) hK hF
  have hrow : ∀ j, ¬ (10 * (4 * p + i) ≤ j ∧ j < 10 * (4 * p + i) + 10) → M' 184 j = M 184 j := fun j g => hM 184 j (fun x => g x.2)
  refine ⟨⟨hKF.1, hKF.2, sm_Mi_row b1 hp hi (fun q _ _ _ _ g5 => hC q g5) hrow hr, ?_, fun p' hp' => ?_, fun p' hp' => ?_, ?_⟩, ?_, sm_fr_of (fun q g1 g2 => hC q (by omega)) (fun q j _ _ g1 _ _ _ => hM q j (fun x => g1 x.1))⟩
  · rw [hC 2 (by omega), hM 176 5 (by omega)]; exact b2
  · rw [hC _ (by omega)]; exact b3 p' hp'
  · rw [hC _ (by omega), hM 185 p' (by omega)]; exact b4 p' hp'
  · refine sm_V_row b5 hp hi hrow ?_ (fun g => absurd g hng)
    rcases h0 with h | h
    · exact Or.inl h
    · exact Or.inr (Or.inr (Or.inl h))
  · exact sm_W_row hW hp hi (hM 176 5 (by omega)) hrow (Or.inl rfl) (fun g => absurd g hng)
theorem sm_settle (hps : kw_ps P) (hA : sm_A C P M n) (hW : sm_W M 8) (hp : p < 2) (hi : i < 4) (hG : sm_G C M d) (hk : M 183 0 = 1 ∨ M 183 0 = 2 ∨ M 183 0 = 4) :
    sm_A (xc_settle C (59 + 6 * p + i) (C (d + 1) 0) (C (d + 1) 3) (C (d + 1) 4)) P (xr_settle M (4 * p + i)) n ∧ sm_W (xr_settle M (4 * p + i)) 8 ∧ sm_fr C (xc_settle C (59 + 6 * p + i) (C (d + 1) 0) (C (d + 1) 3) (C (d + 1) 4)) M (xr_settle M (4 * p + i)) := by
  rw [hG.1 0 (by omega), hG.1 3 (by omega), hG.1 4 (by omega)]
  have mk := hA.2.2.1 p hp i hi
  refine sm_line hps hA hW hp hi (fun q g => ?_) (fun q j g => ?_) (fun k hkk => ?_) ?_
  · unfold xc_settle
    (repeat' split) <;> (funext j; simp [ax_u, g])
  · have h0 : ¬ (q = 184 ∧ j = 10 * (4 * p + i)) := by omega
    have h1 : ¬ (q = 184 ∧ j = 10 * (4 * p + i) + 1) := by omega
    have h6 : ¬ (q = 184 ∧ j = 10 * (4 * p + i) + 6) := by omega
    have h7 : ¬ (q = 184 ∧ j = 10 * (4 * p + i) + 7) := by omega
    unfold xr_settle xr_se1 xr_se0
    by_cases e : q = 184
    · subst e
      have g0 : ¬ j = 10 * (4 * p + i) := fun x => h0 ⟨rfl, x⟩
      have g1 : ¬ j = 10 * (4 * p + i) + 1 := fun x => h1 ⟨rfl, x⟩
      have g6 : ¬ j = 10 * (4 * p + i) + 6 := fun x => h6 ⟨rfl, x⟩
      have g7 : ¬ j = 10 * (4 * p + i) + 7 := fun x => h7 ⟨rfl, x⟩
      split <;> simp [ax_u, g0, g1, g6, g7]
    · split <;> simp [ax_u, e]
  · have h5 := mk k hkk
    generalize 59 + 6 * p + i = L at *
    generalize 4 * p + i = r at *
    have hk' : k = 0 ∨ k = 1 ∨ k = 2 ∨ k = 3 ∨ k = 4 ∨ k = 5 ∨ k = 6 ∨ k = 7 ∨ k = 8 ∨ k = 9 := by omega
    rcases hk with e | e | e <;> rcases hk' with rfl | rfl | rfl | rfl | rfl | rfl | rfl | rfl | rfl | rfl <;> simp [xc_settle, xr_settle, xr_se1, xr_se0, ax_u, sm_o, e] at h5 ⊢ <;> exact h5
  · rcases hk with e | e | e <;> simp [xr_settle, xr_se1, xr_se0, ax_u, e]
/-- a point hears what was taken out -/
theorem sm_ph (hps : kw_ps P) (hA : sm_A C P M n) (hW : sm_W M 8) (hp : p < 2) (hG : sm_G C M d) :
    sm_A (xc_ph C p d) P (xr_ap M p) n ∧ sm_W (xr_ap M p) 8 ∧ sm_fr C (xc_ph C p d) M (xr_ap M p) ∧ kw_b (xc_phc C p d) = xr_apn M p := by
  have hK := hA.1
  have hmi := hA.2.2.1
  have hV := hA.2.2.2.2.2.2
  have hac : ∀ j, j < 4 → (xr_ac M (4 * p + j) = true ↔ xc_wf C (59 + 6 * p + j) (C (d + 1) 0) ∧ xc_pc C p (C (d + 1) 1) j = true ∧ xc_right C d (C (59 + 6 * p + j) 3)) := fun j hj => by
    rw [sm_pc hmi hp hj, sm_right hK hG, hG.1 0 (by omega), hG.1 1 (by omega), sm_mi hmi hp hj (k := 3) (by omega)]
    unfold xr_ac xr_fit xc_wf xr_pg
    rw [sm_mi0 hmi hp hj, decide_eq_true_eq]
    constructor
    · rintro ⟨h1, h2, h3⟩
      refine ⟨h1, ⟨?_, h2⟩, h3⟩
      rcases h1 with h1 | h1
      · exact Or.inl h1.1
      · exact Or.inr h1.1
    · rintro ⟨h1, ⟨_, h2⟩, h3⟩
      exact ⟨h1, h2, h3⟩
  have huniq : ∀ i j, i < 4 → j < 4 → xc_pc C p (C (d + 1) 1) i = true → xc_pc C p (C (d + 1) 1) j = true → i = j := fun i j hi hj h1 h2 => by
    rw [sm_pc hmi hp hi] at h1
    rw [sm_pc hmi hp hj] at h2
    exact hV.2 p hp i hi j hj h1.1 h2.1 (h1.2.trans h2.2.symm)
  unfold xr_ap xr_apn
  cases e : kw_first (xr_ac M) (4 * p) 4 with
  | none =>
    have hn : ¬ xc_phc C p d := by
      rintro ⟨h1, h2, h3⟩
      obtain ⟨i, hi, hLi, hf⟩ := xc_pend_ne h1
      rw [hLi] at h2 h3
      exact kw_first_none e (4 * p + i) (by omega) (by omega) ((hac i hi).mpr ⟨h2, (kw_first_some hf).2.2.1, h3⟩)
    refine ⟨?_, hW, ?_, kw_bf hn⟩
    · unfold xc_ph; rw [if_neg hn]; exact hA
    · unfold xc_ph; rw [if_neg hn]; exact sm_fr_refl
  | some r =>
    obtain ⟨g1, g2, g3, g4⟩ := kw_first_some e
    obtain ⟨i, rfl⟩ : ∃ i, r = 4 * p + i := ⟨r - 4 * p, by omega⟩
    have hi : i < 4 := by omega
    obtain ⟨k1, k2, k3⟩ := (hac i hi).mp g3
    have hf : kw_first (xc_pc C p (C (d + 1) 1)) 0 4 = some i := by
      cases e2 : kw_first (xc_pc C p (C (d + 1) 1)) 0 4 with
      | none => exact absurd k2 (kw_first_none e2 i (by omega) (by omega))
      | some j =>
        obtain ⟨-, j2, j3, -⟩ := kw_first_some e2
        rw [huniq i j hi (by omega) k2 j3]
    have hLi : xc_pend C p (C (d + 1) 1) = 59 + 6 * p + i := by unfold xc_pend; rw [hf]; rfl
    have hy : xc_phc C p d := by
      unfold xc_phc; rw [hLi]; exact ⟨by omega, k1, k3⟩
    have hkind : M 183 0 = 1 ∨ M 183 0 = 2 ∨ M 183 0 = 4 := by
      rw [← hG.1 0 (by omega)]
      rcases k1 with ⟨_, h | h⟩ | ⟨_, h⟩
      · exact Or.inl h
      · exact Or.inr (Or.inl h)
      · exact Or.inr (Or.inr h)
    have := sm_settle hps hA hW hp hi hG hkind
    refine ⟨?_, this.2.1, ?_, kw_bt hy⟩
    · unfold xc_ph; rw [if_pos hy, hLi]; exact this.1
    · unfold xc_ph; rw [if_pos hy, hLi]; exact this.2.2
/-- the lines of a point that crashes, from i on -/
theorem sm_pf (hps : kw_ps P) (hp : p < 2) {f : Nat} : ∀ {i : Nat} {C M : ax_I}, i + f ≤ 4 → sm_A C P M n → sm_W M 8 →
    sm_A (xc_fgl C p i f) P (xr_cp4 (4 * p + i) f M) n ∧ sm_W (xr_cp4 (4 * p + i) f M) 8 ∧ sm_fr C (xc_fgl C p i f) M (xr_cp4 (4 * p + i) f M) := by
  induction f with
  | zero => intro i C M _ hA hW; exact ⟨hA, hW, sm_fr_refl⟩
  | succ f ih =>
    intro i C M hif hA hW
    have mk := hA.2.2.1 p hp i (by omega)
    have h1 := sm_line (C' := ax_u (ax_u C (59 + 6 * p + i) 0 0) (59 + 6 * p + i) 1 0) (M' := ax_u (ax_u M 184 (10 * (4 * p + i)) 0) 184 (10 * (4 * p + i) + 1) 0) hps hA hW hp (show i < 4 from by omega) (fun q g => by funext j; simp [ax_u, g]) (fun q j g => by
        by_cases e : q = 184
        · subst e
          have g0 : ¬ j = 10 * (4 * p + i) := by omega
          have g1 : ¬ j = 10 * (4 * p + i) + 1 := by omega
          simp [ax_u, g0, g1]
        · simp [ax_u, e]) (fun k hk => by
        have h5 := mk k hk
        generalize 59 + 6 * p + i = L at *
        generalize 4 * p + i = r at *
        have hk' : k = 0 ∨ k = 1 ∨ k = 2 ∨ k = 3 ∨ k = 4 ∨ k = 5 ∨ k = 6 ∨ k = 7 ∨ k = 8 ∨ k = 9 := by omega
        rcases hk' with rfl | rfl | rfl | rfl | rfl | rfl | rfl | rfl | rfl | rfl <;> simp [ax_u, sm_o] at h5 ⊢ <;> exact h5) (Or.inl (by simp [ax_u]))
    obtain ⟨k1, k2, k3⟩ := ih (i := i + 1) (by omega) h1.1 h1.2.1
    exact ⟨k1, k2, sm_fr_trans h1.2.2 k3⟩
/-- a point crashes -/
theorem sm_crashP (hps : kw_ps P) (hA : sm_A C P M n) (hW : sm_W M 8) (hp : p < 2) :
    sm_A (ax_u (xc_fgl C p 0 4) (57 + 6 * p) 2 (-1)) P (xr_cp4 (4 * p) 4 (ax_u M 185 p 7)) n ∧ sm_W (xr_cp4 (4 * p) 4 (ax_u M 185 p 7)) 8 ∧ sm_fr C (ax_u (xc_fgl C p 0 4) (57 + 6 * p) 2 (-1)) M (xr_cp4 (4 * p) 4 (ax_u M 185 p 7)) := by
  -- the latest ids first, on both sides
  have hswap : ∀ f i (C : ax_I), xc_fgl (ax_u C (57 + 6 * p) 2 (-1)) p i f = ax_u (xc_fgl C p i f) (57 + 6 * p) 2 (-1) := by
    intro f
    induction f with
    | zero => intro i C; rfl
    | succ f ih =>
      intro i C
      unfold xc_fgl
      rw [← ih]
      congr 1
      funext q j
      by_cases e : q = 57 + 6 * p
      · have : ¬ q = 59 + 6 * p + i := by omega
        simp [ax_u, this]
      · have g : ¬ 59 + 6 * p + i = 57 + 6 * p := by omega
        by_cases e2 : q = 59 + 6 * p + i
        · subst e2; simp [ax_u, g]
        · simp [ax_u, e, e2]
  have hA1 : sm_A (ax_u C (57 + 6 * p) 2 (-1)) P (ax_u M 185 p 7) n := by
    obtain ⟨hK, hF, b1, b2, b3, b4, b5⟩ := hA
    have mo : ∀ q, ¬ q = 185 → ax_u M 185 p 7 q = M q := fun q g => funext fun j => ax_u_n g
    have hKF := sm_KF (C' := ax_u C (57 + 6 * p) 2 (-1)) (M' := ax_u M 185 p 7) hps (fun q g j _ => ax_u_n (by omega)) (mo 177 (by omega)) (mo 178 (by omega)) (mo 182 (by omega)) (by rw [mo 176 (by omega)]) hK hF
    refine ⟨hKF.1, hKF.2, fun p' hp' i hi k hk => ?_, ?_, fun p' hp' => ?_, fun p' hp' => ?_, ?_⟩
    · rw [ax_u_n (by omega), mo 184 (by omega)]; exact b1 p' hp' i hi k hk
    · rw [ax_u_n (by omega), mo 176 (by omega)]; exact b2
    · rw [ax_u_k (by omega)]; exact b3 p' hp'
    · by_cases e : p' = p
      · subst e
        exact ⟨7, by omega, by rw [ax_u_at]; rfl, Or.inr ⟨rfl, ax_u_at⟩⟩
      · rw [show ax_u C (57 + 6 * p) 2 (-1) (57 + 6 * p') 2 = C (57 + 6 * p') 2 from ax_u_n (by omega), show ax_u M 185 p 7 185 p' = M 185 p' from ax_u_k e]; exact b4 p' hp'
    · unfold sm_V xr_pg at b5 ⊢; rw [mo 184 (by omega)]; exact b5
  have hW1 : sm_W (ax_u M 185 p 7) 8 := sm_W_fr (funext fun j => ax_u_n (by omega)) (ax_u_n (by omega)) hW
  have := sm_pf (f := 4) (i := 0) hps hp (by omega) hA1 hW1
  rw [hswap] at this
  refine ⟨this.1, this.2.1, sm_fr_trans (sm_fr_of (fun q g1 g2 => funext fun j => ax_u_n (by omega)) (fun q j _ _ _ g _ _ => ax_u_n g)) this.2.2⟩
/-- what a line tells -/
theorem sm_ltell (hA : sm_A C P M n) (hp : p < 2) (hi : i < 4) {w : Nat} (hw : w < 5) : xc_ltell C (59 + 6 * p + i) (nI w) = xr_ltell M (4 * p + i) w := by
  obtain ⟨hK, hF, b1, b2, b3, b4, b5⟩ := hA
  have m0 := sm_mi0 b1 hp hi
  have m1 := sm_mi b1 hp hi (k := 1) (by omega)
  have m2 := sm_mi b1 hp hi (k := 2) (by omega)
  have m6 := sm_mi b1 hp hi (k := 6) (by omega)
  have m7 := sm_mi b1 hp hi (k := 7) (by omega)
  have hs := b5.1 (4 * p + i) (by omega)
  have hlt : M 184 (10 * (4 * p + i)) < 2 ↔ ¬ (M 184 (10 * (4 * p + i)) = 2 ∨ M 184 (10 * (4 * p + i)) = 3) := by
    rcases hs with h | h | h | h <;> (rw [h]; decide)
  unfold xc_ltell xr_ltell xc_pg xr_pg
  rw [m0, m1, m2, m6, m7]
  have hw' : w = 0 ∨ w = 1 ∨ w = 2 ∨ w = 3 ∨ w = 4 := by omega
  rcases hw' with rfl | rfl | rfl | rfl | rfl
  · rw [show nI 0 = 0 from rfl]; simp
  · rw [show nI 1 = 1 from rfl]; simp
  · rw [show nI 2 = 2 from rfl]; simp
  · rw [show nI 3 = 3 from rfl]
    by_cases e : M 184 (10 * (4 * p + i)) = 2 ∨ M 184 (10 * (4 * p + i)) = 3
    · have e2 := fun g => hlt.mp g e
      simp [e]
      exact fun g => (e2 g).elim
    · have e2 := hlt.mpr e
      simp [e, e2]
  · rw [show nI 4 = 4 from rfl]
    by_cases e : M 184 (10 * (4 * p + i)) = 2 ∨ M 184 (10 * (4 * p + i)) = 3
    · have e2 := fun g => hlt.mp g e
      simp [e]
      exact fun g => (e2 g).elim
    · have e2 := hlt.mpr e
      simp [e, e2]
end SMH
