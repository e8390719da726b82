/-! CLASS AGAINST REFERENCE, the lines: new ids, pending lines, ticks, answers heard. -/
/-- what points, ticks and the flight leave alone: relay and homes of both -/
def sm_fr (C C' M M' : ax_I) : Prop := (∀ q, 69 ≤ q → q < 176 → C' q = C q) ∧ M' 179 = M 179 ∧ M' 180 = M 180 ∧ M' 181 = M 181 ∧ M' 186 = M 186 ∧ M' 187 = M 187 ∧ M' 188 = M 188 ∧ M' 189 = M 189 ∧ M' 176 12 = M 176 12 ∧ M' 176 13 = M 176 13
section SMP
variable {C C' C2 M M' M2 : ax_I} {P : ax_P} {n p i t : Nat}
theorem sm_fr_refl : sm_fr C C M M := ⟨fun _ _ _ => rfl, rfl, rfl, rfl, rfl, rfl, rfl, rfl, rfl, rfl⟩
theorem sm_fr_trans (h1 : sm_fr C C' M M') (h2 : sm_fr C' C2 M' M2) : sm_fr C C2 M M2 := by
  obtain ⟨a0, a1, a2, a3, a4, a5, a6, a7, a8, a9⟩ := h1
  obtain ⟨b0, b1, b2, b3, b4, b5, b6, b7, b8, b9⟩ := h2
  exact ⟨fun q g1 g2 => (b0 q g1 g2).trans (a0 q g1 g2), b1.trans a1, b2.trans a2, b3.trans a3, b4.trans a4, b5.trans a5, b6.trans a6, b7.trans a7, b8.trans a8, b9.trans a9⟩
theorem sm_fr_of (hC : ∀ q, 69 ≤ q → q < 176 → C' q = C q) (hM : ∀ q j, 176 ≤ q → ¬ q = 182 → ¬ q = 184 → ¬ q = 185 → ¬ (q = 176 ∧ j = 7) → ¬ (q = 176 ∧ j = 5) → M' q j = M q j) : sm_fr C C' M M' :=
  ⟨hC, funext fun j => hM 179 j (by omega) (by omega) (by omega) (by omega) (by omega) (by omega), funext fun j => hM 180 j (by omega) (by omega) (by omega) (by omega) (by omega) (by omega), funext fun j => hM 181 j (by omega) (by omega) (by omega) (by omega) (by omega) (by omega), funext fun j => hM 186 j (by omega) (by omega) (by omega) (by omega) (by omega) (by omega), funext fun j => hM 187 j (by omega) (by omega) (by omega) (by omega) (by omega) (by omega), funext fun j => hM 188 j (by omega) (by omega) (by omega) (by omega) (by omega) (by omega), funext fun j => hM 189 j (by omega) (by omega) (by omega) (by omega) (by omega) (by omega), hM 176 12 (by omega) (by omega) (by omega) (by omega) (by omega) (by omega), hM 176 13 (by omega) (by omega) (by omega) (by omega) (by omega) (by omega)⟩
theorem sm_KF (hps : kw_ps P) (hC : ∀ q, q < 57 → ∀ j, ¬ (q = 2 ∧ j = 4) → C' q j = C q j) (h1 : M' 177 = M 177) (h2 : M' 178 = M 178) (h3 : M' 182 = M 182) (h4 : M' 176 7 = M 176 7) (hK : sm_K C M) (hF : sm_F C P M n) : sm_K C' M' ∧ sm_F C' P M' n :=
  ⟨sm_K_fr (funext fun j => hC 3 (by omega) j (by omega)) (funext fun j => hC 4 (by omega) j (by omega)) h1 h2 hK, sm_F_fr hps (fun d g1 g2 => funext fun j => hC d (by omega) j (by omega)) (hC 2 (by omega) 3 (by omega)) h3 h4 hF⟩
/-- a line gives up -/
theorem sm_give (hps : kw_ps P) (hK : sm_K C M) (hF : sm_F C P M n) (hL : sm_L C M) (hp : p < 2) (hi : i < 4) :
    sm_K (xc_give C (59 + 6 * p + i)) (xr_gv M (4 * p + i)) ∧ sm_F (xc_give C (59 + 6 * p + i)) P (xr_gv M (4 * p + i)) n ∧ sm_L (xc_give C (59 + 6 * p + i)) (xr_gv M (4 * p + i)) ∧ sm_fr C (xc_give C (59 + 6 * p + i)) M (xr_gv M (4 * p + i))
    ∧ xr_gv M (4 * p + i) 176 5 = M 176 5 ∧ (∀ j, ¬ j = 10 * (4 * p + i) → ¬ j = 10 * (4 * p + i) + 1 → xr_gv M (4 * p + i) 184 j = M 184 j) ∧ xr_gv M (4 * p + i) 184 (10 * (4 * p + i)) = 0 := by
  obtain ⟨b1, b2, b3, b4, b5⟩ := hL
  have m0 := sm_mi0 b1 hp hi
  have m1 := sm_mi b1 hp hi (k := 1) (by omega)
  have mk := b1 p hp i hi
  generalize hLe : 59 + 6 * p + i = L at *
  generalize hre : 4 * p + i = r at *
  have co : ∀ q, ¬ q = L → xc_give C L q = C q := fun q hq => by
    unfold xc_give; split <;> (funext j; simp [ax_u, hq])
  have mo : ∀ q j, ¬ q = 184 → xr_gv M r q j = M q j := fun q j hq => by simp [xr_gv, ax_u, hq]
  have m184 : ∀ j, ¬ j = 10 * r → ¬ j = 10 * r + 1 → xr_gv M r 184 j = M 184 j := fun j g1 g2 => by simp [xr_gv, ax_u, g1, g2]
  have z0 : xr_gv M r 184 (10 * r) = 0 := by simp [xr_gv, ax_u]
  have z1 : xr_gv M r 184 (10 * r + 1) = if M 184 (10 * r) = 1 then 3 else M 184 (10 * r + 1) := by simp [xr_gv, ax_u]
  have hKF := sm_KF (C' := xc_give C L) (M' := xr_gv M r) hps (fun q g j _ => by rw [co q (by omega)]) (funext fun j => mo 177 j (by omega)) (funext fun j => mo 178 j (by omega)) (funext fun j => mo 182 j (by omega)) (mo 176 7 (by omega)) hK hF
  refine ⟨hKF.1, hKF.2, ⟨?_, ?_, fun p' hp' => ?_, fun p' hp' => ?_, ?_⟩, sm_fr_of (fun q g1 g2 => co q (by omega)) (fun q j _ _ g _ _ _ => mo q j g), mo 176 5 (by omega), m184, z0⟩
  · have hmi : sm_Mi (xc_give C (59 + 6 * p + i)) (xr_gv M (4 * p + i)) := by
      refine sm_Mi_row b1 hp hi (fun q g1 g2 g3 g4 g5 => ?_) (fun j g => ?_) (fun k hk => ?_)
      · rw [hLe] at g5 ⊢; exact co q g5
      · rw [hre] at g ⊢; exact m184 j (by omega) (by omega)
      · rw [hLe, hre]
        have ho := sm_o_lt hk
        by_cases k0 : k = 0
        · subst k0
          rw [show sm_o 0 = 0 from rfl, Nat.add_zero, z0]
          unfold xc_give; split <;> simp [ax_u]
        · by_cases k1 : k = 1
          · subst k1
            rw [show sm_o 1 = 1 from rfl, z1]
            unfold xc_give
            rw [m0]
            split
            · simp [ax_u]
            · rw [ax_u_k (by omega)]; exact m1
          · have o0 : ¬ sm_o k = 0 := by unfold sm_o; split <;> (try split) <;> omega
            have o1 : ¬ sm_o k = 1 := by unfold sm_o; split <;> (try split) <;> omega
            rw [m184 _ (by omega) (by omega), ← mk k hk]
            unfold xc_give; split <;> simp [ax_u, k0, k1]
    rw [hLe, hre] at hmi; exact hmi
  · rw [co 2 (by omega), mo 176 5 (by omega)]; exact b2
  · rw [co _ (by omega)]; exact b3 p' hp'
  · rw [co _ (by omega), mo 185 p' (by omega)]; exact b4 p' hp'
  · have hv : sm_V (xr_gv M (4 * p + i)) := by
      refine sm_V_row b5 hp hi (fun j g => ?_) ?_ (fun g => ?_)
      · rw [hre] at g ⊢; exact m184 j (by omega) (by omega)
      · rw [hre]; exact Or.inl z0
      · exfalso
        rw [hre] at g
        unfold xr_pg at g
        rw [z0] at g
        rcases g with g | g <;> exact absurd g (by decide)
    rw [hre] at hv; exact hv
/-- id b is one of a pending line of point p -/
def sm_us (M : ax_I) (p : Nat) (x : Int32) : Prop := ∃ i, i < 4 ∧ xr_pg M (4 * p + i) ∧ M 184 (10 * (4 * p + i) + 2) = x
theorem sm_pc (h : sm_Mi C M) (hp : p < 2) (hi : i < 4) {x : Int32} : xc_pc C p x i = true ↔ xr_pg M (4 * p + i) ∧ M 184 (10 * (4 * p + i) + 2) = x := by
  unfold xc_pc xc_pg xr_pg
  rw [sm_mi0 h hp hi, sm_mi h hp hi (k := 2) (by omega), decide_eq_true_eq]
theorem sm_pend (h : sm_Mi C M) (hp : p < 2) {x : Int32} : xc_pend C p x = 0 ↔ ¬ sm_us M p x := by
  unfold xc_pend
  cases e : kw_first (xc_pc C p x) 0 4 with
  | none =>
    refine ⟨fun _ ⟨i, hi, h1, h2⟩ => ?_, fun _ => rfl⟩
    exact kw_first_none e i (by omega) (by omega) ((sm_pc h hp hi).mpr ⟨h1, h2⟩)
  | some j =>
    obtain ⟨-, h2, h3, -⟩ := kw_first_some e
    refine ⟨fun h4 => ?_, fun h4 => ?_⟩
    · have : 59 + 6 * p + j = 0 := h4
      omega
    · exact absurd ⟨j, by omega, ((sm_pc h hp (by omega)).mp h3).1, ((sm_pc h hp (by omega)).mp h3).2⟩ h4
theorem sm_uf {x : Int32} {f : Nat} : ∀ {o : Nat} {u : Int32}, xr_uf M x o f u = 0 ↔ (f = 0 ∧ u = 0) ∨ (0 < f ∧ u = 0 ∧ ∀ j, j < f → ¬ (xr_pg M (o + j) ∧ M 184 (10 * (o + j) + 2) = x)) := by
  induction f with
  | zero =>
    intro o u
    simp [xr_uf]
  | succ f ih =>
    intro o u
    unfold xr_uf
    rw [ih]
    by_cases hu : u = 0
    · by_cases hc : xr_pg M o ∧ M 184 (10 * o + 2) = x
      · rw [if_pos (Or.inr hc)]
        have h1 : ¬ (1 : Int32) = 0 := by decide
        constructor
        · intro h; rcases h with ⟨_, h⟩ | ⟨_, h, _⟩ <;> exact absurd h h1
        · intro h; rcases h with ⟨h, _⟩ | ⟨_, _, h⟩
          · omega
          · exact absurd hc (h 0 (by omega))
      · rw [if_neg (fun h => h.elim (fun h => h hu) hc)]
        constructor
        · intro h
          refine Or.inr ⟨by omega, hu, fun j hj => ?_⟩
          rcases j with _ | j
          · exact hc
          · rcases h with ⟨h0, _⟩ | ⟨_, _, h⟩
            · omega
            · have := h j (by omega)
              rw [show o + 1 + j = o + (j + 1) from by omega] at this
              exact this
        · intro h
          rcases h with ⟨h, _⟩ | ⟨_, _, h⟩
          · omega
          · rcases f with _ | f
            · exact Or.inl ⟨rfl, rfl⟩
            · refine Or.inr ⟨by omega, rfl, fun j hj => ?_⟩
              have := h (j + 1) (by omega)
              rw [show o + (j + 1) = o + 1 + j from by omega] at this
              exact this
    · rw [if_pos (Or.inl hu)]
      have h1 : ¬ (1 : Int32) = 0 := by decide
      constructor
      · intro h; rcases h with ⟨_, h⟩ | ⟨_, h, _⟩ <;> exact absurd h h1
      · intro h; rcases h with ⟨_, h⟩ | ⟨_, h, _⟩ <;> exact absurd h hu
theorem sm_uf4 {x : Int32} : xr_uf M x (4 * p) 4 0 = 0 ↔ ¬ sm_us M p x := by
  rw [sm_uf]
  constructor
  · intro h ⟨i, hi, h1, h2⟩
    rcases h with ⟨h, _⟩ | ⟨_, _, h⟩
    · omega
    · exact h i hi ⟨h1, h2⟩
  · intro h
    exact Or.inr ⟨by omega, rfl, fun j hj hc => h ⟨j, hj, hc.1, hc.2⟩⟩
/-- the reference's search is the class's -/
theorem sm_fi (h : sm_Mi C M) (hp : p < 2) {f : Nat} : ∀ {x : Int32}, xr_fi M p f x (xr_uf M x (4 * p) 4 0) = xc_find C p f x := by
  induction f with
  | zero => intro x; rfl
  | succ f ih =>
    intro x
    unfold xr_fi xc_find
    by_cases e : sm_us M p x
    · rw [if_neg (fun g => sm_uf4.mp g e), if_neg (fun g => (sm_pend h hp).mp g e)]
      exact ih
    · rw [if_pos (sm_uf4.mpr e), if_pos ((sm_pend h hp).mpr e)]
theorem sm_nx {b : Nat} (hb : b < 8) : xc_nx (nI b) = nI ((b + 1) % 8) := by
  unfold xc_nx
  rw [nI_1]
  exact kw_rem (a := b + 1) (b := 8) (by omega) (by decide)
/-- five ids in a row are never all used: a point has four lines -/
theorem sm_free {b : Nat} (h : ∀ s, s < 5 → sm_us M p (nI ((b + s) % 8))) : False := by
  obtain ⟨i0, g0, -, e0⟩ := h 0 (by omega)
  obtain ⟨i1, g1, -, e1⟩ := h 1 (by omega)
  obtain ⟨i2, g2, -, e2⟩ := h 2 (by omega)
  obtain ⟨i3, g3, -, e3⟩ := h 3 (by omega)
  obtain ⟨i4, g4, -, e4⟩ := h 4 (by omega)
  have key : ∀ {i j s s' : Nat}, s < 5 → s' < 5 → M 184 (10 * (4 * p + i) + 2) = nI ((b + s) % 8) → M 184 (10 * (4 * p + j) + 2) = nI ((b + s') % 8) → ¬ s = s' → ¬ i = j := by
    intro i j s s' hs hs' h1 h2 hne hij
    subst hij
    have := (nI_eq (a := (b + s) % 8) (b := (b + s') % 8) (by omega) (by omega)).mp (h1.symm.trans h2)
    omega
  have k01 := key (by omega) (by omega) e0 e1 (by omega)
  have k02 := key (by omega) (by omega) e0 e2 (by omega)
  have k03 := key (by omega) (by omega) e0 e3 (by omega)
  have k04 := key (by omega) (by omega) e0 e4 (by omega)
  have k12 := key (by omega) (by omega) e1 e2 (by omega)
  have k13 := key (by omega) (by omega) e1 e3 (by omega)
  have k14 := key (by omega) (by omega) e1 e4 (by omega)
  have k23 := key (by omega) (by omega) e2 e3 (by omega)
  have k24 := key (by omega) (by omega) e2 e4 (by omega)
  have k34 := key (by omega) (by omega) e3 e4 (by omega)
  omega
theorem sm_find (h : sm_Mi C M) (hp : p < 2) : ∀ {t f b : Nat}, b < 8 → t ≤ f → (∀ s, s < t → sm_us M p (nI ((b + s) % 8))) → ¬ sm_us M p (nI ((b + t) % 8)) → xc_find C p (f + 1) (nI b) = nI ((b + t) % 8) := by
  intro t
  induction t with
  | zero =>
    intro f b hb _ _ h2
    have e : (b + 0) % 8 = b := by omega
    rw [e] at h2 ⊢
    unfold xc_find
    rw [if_pos ((sm_pend h hp).mpr h2)]
  | succ t ih =>
    intro f b hb htf h1 h2
    have u0 := h1 0 (by omega)
    rw [Nat.add_zero, Nat.mod_eq_of_lt hb] at u0
    obtain ⟨g, rfl⟩ : ∃ g, f = g + 1 := ⟨f - 1, by omega⟩
    have e1 : (b + (t + 1)) % 8 = ((b + 1) % 8 + t) % 8 := by omega
    rw [e1] at h2 ⊢
    have := ih (f := g) (b := (b + 1) % 8) (by omega) (by omega) (fun s hs => by
      have := h1 (s + 1) (by omega)
      rw [show (b + (s + 1)) % 8 = ((b + 1) % 8 + s) % 8 from by omega] at this
      exact this) h2
    rw [← this, ← sm_nx hb]
    conv => lhs; unfold xc_find
    rw [if_neg (fun g => (sm_pend h hp).mp g u0)]
/-- both find the same new id, which no pending line of the point has -/
theorem sm_newId (hL : sm_L C M) (hp : p < 2) : ∃ b, b < 8 ∧ xc_nid C p = nI b ∧ xr_sid M p = nI b ∧ ¬ sm_us M p (nI b) := by
  obtain ⟨b1, b2, b3, b4, b5⟩ := hL
  obtain ⟨a, ha, h1, h2⟩ := b4 p hp
  have hx : xc_nx (C (57 + 6 * p) 2) = nI ((a + 1) % 8) := by
    rcases h2 with h2 | ⟨rfl, h2⟩
    · rw [h2]; exact sm_nx ha
    · rw [h2]; rfl
  have hy : xr_sid M p = xc_find C p 7 (nI ((a + 1) % 8)) := by
    unfold xr_sid xr_fi
    rw [if_neg (by decide), h1, sm_nx ha]
    exact sm_fi b1 hp
  have hz : xc_nid C p = xc_find C p 8 (nI ((a + 1) % 8)) := by unfold xc_nid; rw [hx]
  have hb : (a + 1) % 8 < 8 := by omega
  generalize (a + 1) % 8 = b at *
  have fin : ∀ t, t < 5 → (∀ s, s < t → sm_us M p (nI ((b + s) % 8))) → ¬ sm_us M p (nI ((b + t) % 8)) → ∃ b, b < 8 ∧ xc_nid C p = nI b ∧ xr_sid M p = nI b ∧ ¬ sm_us M p (nI b) := fun t ht g1 g2 =>
    ⟨(b + t) % 8, by omega, by rw [hz]; exact sm_find b1 hp hb (by omega) g1 g2, by rw [hy]; exact sm_find b1 hp hb (by omega) g1 g2, g2⟩
  by_cases u0 : sm_us M p (nI ((b + 0) % 8))
  · by_cases u1 : sm_us M p (nI ((b + 1) % 8))
    · by_cases u2 : sm_us M p (nI ((b + 2) % 8))
      · by_cases u3 : sm_us M p (nI ((b + 3) % 8))
        · by_cases u4 : sm_us M p (nI ((b + 4) % 8))
          · exfalso
            refine sm_free (M := M) (p := p) (b := b) (fun s hs => ?_)
            have : s = 0 ∨ s = 1 ∨ s = 2 ∨ s = 3 ∨ s = 4 := by omega
            rcases this with rfl | rfl | rfl | rfl | rfl <;> assumption
          · refine fin 4 (by omega) (fun s hs => ?_) u4
            have : s = 0 ∨ s = 1 ∨ s = 2 ∨ s = 3 := by omega
            rcases this with rfl | rfl | rfl | rfl <;> assumption
        · refine fin 3 (by omega) (fun s hs => ?_) u3
          have : s = 0 ∨ s = 1 ∨ s = 2 := by omega
          rcases this with rfl | rfl | rfl <;> assumption
      · refine fin 2 (by omega) (fun s hs => ?_) u2
        have : s = 0 ∨ s = 1 := by omega
        rcases this with rfl | rfl <;> assumption
    · refine fin 1 (by omega) (fun s hs => ?_) u1
      have : s = 0 := by omega
      subst this; assumption
  · exact fin 0 (by omega) (fun s hs => by omega) u0
end SMP
