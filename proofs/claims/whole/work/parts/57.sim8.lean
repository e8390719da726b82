/-! CLASS AGAINST REFERENCE: the homes. -/
/-- who is enrolled at home h -/
def sm_U (C M : ax_I) (h : Nat) : Prop := ∀ x, x < 12 → (x % 2 = h ∧ ¬ M 179 x = 0 ∧ C (82 + 48 * h) x = M 181 x ∧ C (81 + 48 * h) x = M 180 x ∧ ∃ m, m ≤ 6 ∧ M 181 x = nI m) ∨ (¬ (x % 2 = h ∧ ¬ M 179 x = 0) ∧ C (82 + 48 * h) x = -1)
/-- home h with k records, u of them durable -/
def sm_H (C M : ax_I) (h k u : Nat) : Prop := u ≤ k ∧ k ≤ 40 ∧ C (80 + 48 * h) 5 = nI k ∧ M 188 h = nI k ∧ C (80 + 48 * h) 6 = nI u ∧ M 189 h = nI u ∧ C (80 + 48 * h) 0 = nI (3 + h) ∧ sm_U C M h ∧ (∀ r, r < k → sm_rec C (M 187) h r) ∧ sm_S C (M 187) h k
section SMO
variable {C C' M M' : ax_I} {P : ax_P} {bk bk' : Nat → Int32} {n d h k u r : Nat}
theorem sm_rec_fr (hC : C' (88 + 48 * h + r) = C (88 + 48 * h + r)) (hb : ∀ j, 400 * h ≤ j → j < 400 * h + 10 * r + 10 → bk' j = bk j) (hr : sm_rec C bk h r) : sm_rec C' bk' h r := by
  obtain ⟨g1, g2, g3⟩ := gs_congr (bk := bk) (bk' := bk') (h := h) (r := r) (fun j k1 k2 => hb j k1 (by omega))
  unfold sm_rec at hr ⊢
  rw [hC, hb (400 * h + 10 * r) (by omega) (by omega), hb (400 * h + 10 * r + 1) (by omega) (by omega), hb (400 * h + 10 * r + 2) (by omega) (by omega), hb (400 * h + 10 * r + 3) (by omega) (by omega), hb (400 * h + 10 * r + 4) (by omega) (by omega), hb (400 * h + 10 * r + 5) (by omega) (by omega), hb (400 * h + 10 * r + 6) (by omega) (by omega), hb (400 * h + 10 * r + 7) (by omega) (by omega), hb (400 * h + 10 * r + 8) (by omega) (by omega), hb (400 * h + 10 * r + 9) (by omega) (by omega)]
  simp only [g1, g2]
  exact hr
theorem sm_S_fr (hC : ∀ q, 83 + 48 * h ≤ q → q ≤ 86 + 48 * h → C' q = C q) (hb : ∀ j, 400 * h ≤ j → j < 400 * h + 10 * r → bk' j = bk j) (hS : sm_S C bk h r) : sm_S C' bk' h r := by
  obtain ⟨g1, g2, g3⟩ := gs_congr (bk := bk) (bk' := bk') (h := h) (r := r) hb
  unfold sm_S at hS ⊢
  rw [hC (83 + 48 * h) (by omega) (by omega), hC (84 + 48 * h) (by omega) (by omega), hC (85 + 48 * h) (by omega) (by omega), hC (86 + 48 * h) (by omega) (by omega), g3]
  simp only [g1, g2]
  exact hS
theorem sm_H_fr (hC : ∀ q, 80 + 48 * h ≤ q → q < 128 + 48 * h → C' q = C q) (hb : ∀ j, 400 * h ≤ j → j < 400 * h + 400 → M' 187 j = M 187 j) (h9 : M' 179 = M 179) (h0 : M' 180 = M 180) (h1 : M' 181 = M 181) (h8 : M' 188 h = M 188 h) (h89 : M' 189 h = M 189 h) (hH : sm_H C M h k u) : sm_H C' M' h k u := by
  obtain ⟨a1, a2, a3, a4, a5, a6, a7, a8, a9, a10⟩ := hH
  refine ⟨a1, a2, by rw [hC _ (by omega) (by omega)]; exact a3, h8.trans a4, by rw [hC _ (by omega) (by omega)]; exact a5, h89.trans a6, by rw [hC _ (by omega) (by omega)]; exact a7, ?_, fun r hr => sm_rec_fr (hC _ (by omega) (by omega)) (fun j k1 k2 => hb j k1 (by omega)) (a9 r hr), sm_S_fr (fun q k1 k2 => hC q (by omega) (by omega)) (fun j k1 k2 => hb j k1 (by omega)) a10⟩
  unfold sm_U at a8 ⊢
  rw [hC _ (by omega) (by omega), hC _ (by omega) (by omega), h9, h0, h1]
  exact a8
theorem sm_H_fh (hh : h < 2) (hf : sm_fh C C' M M') (hH : sm_H C M h k u) : sm_H C' M' h k u :=
  sm_H_fr (fun q g1 g2 => hf.1 q (by omega) (by omega)) (fun j _ _ => by rw [hf.2.2.2.2.1]) hf.2.1 hf.2.2.1 hf.2.2.2.1 (by rw [hf.2.2.2.2.2.1]) (by rw [hf.2.2.2.2.2.2]) hH
theorem sm_sth (hh : h < 2) : sm_st (nI (3 + h)) 2 := by
  rcases h with _ | _ | h
  · exact Or.inl ⟨rfl, Or.inr (Or.inr (Or.inl rfl))⟩
  · exact Or.inl ⟨rfl, Or.inr (Or.inr (Or.inr rfl))⟩
  · omega
/-- what the replay shows -/
theorem sm_rp (hH : sm_H C M h k u) : gs_ok (xr_rp M h k) (M 187) h k ∧ (∀ r, r < k → xr_bok M (400 * h + 10 * r)) := by
  obtain ⟨a1, a2, a3, a4, a5, a6, a7, a8, a9, a10⟩ := hH
  exact ⟨gs_replay (fun r hr => (sm_rec_bok (a9 r hr)).1) (fun r hr => (sm_rec_bok (a9 r hr)).2), fun r hr => (sm_rec_bok (a9 r hr)).1⟩
theorem kw_last_congr {f g : Nat → Bool} {k : Nat} (h : ∀ i, i < k → (f i = true ↔ g i = true)) : kw_last f k = kw_last g k := by
  induction k with
  | zero => rfl
  | succ k ih =>
    unfold kw_last
    rw [ih (fun i hi => h i (by omega))]
    by_cases e : g k = true
    · rw [if_pos ((h k (by omega)).mpr e), if_pos e]
    · rw [if_neg (fun x => e ((h k (by omega)).mp x)), if_neg e]
/-- a request is known to both by the same record -/
theorem sm_known (hH : sm_H C M h k u) (hG : sm_G C M d) (hck : C 2 4 = M 176 5) (hk : M 183 0 = 0 ∨ M 183 0 = 3) : kw_last (xc_kn C h (d + 1) (C 2 4)) k = kw_last (xr_kc M h) k := by
  obtain ⟨a1, a2, a3, a4, a5, a6, a7, a8, a9, a10⟩ := hH
  refine kw_last_congr (fun r hr => ?_)
  unfold xc_kn xr_kc
  rw [decide_eq_true_eq, decide_eq_true_eq, hG.1 0 (by omega), hG.1 1 (by omega), hG.1 2 (by omega), hck]
  rcases a9 r hr with ⟨h0, -, hb0, -⟩ | ⟨-, hb0, hb1, hb2, hb3, -⟩
  · rw [h0, hb0]
    constructor
    · rintro ⟨g, _⟩; rcases hk with e | e <;> (rw [e] at g; exact absurd g (by decide))
    · rintro ⟨g, _⟩; rcases hk with e | e <;> (rw [e] at g; exact absurd g (by decide))
  · rw [hb0, hb1, hb2, hb3]
/-- the answer of a record is sent -/
theorem sm_answer (hps : kw_ps P) (hh : h < 2) (hA : sm_A C P M n) (hW : sm_W M 8) (hH : sm_H C M h k u) (hr : r < k) (hq : ¬ C (88 + 48 * h + r) 0 = 5) :
    (∃ n', sm_A (xc_sao C P h (88 + 48 * h + r)) P (xr_ans M h r) n') ∧ sm_W (xr_ans M h r) 8 ∧ sm_fr C (xc_sao C P h (88 + 48 * h + r)) M (xr_ans M h r) := by
  obtain ⟨a1, a2, a3, a4, a5, a6, a7, a8, a9, a10⟩ := hH
  rcases a9 r hr with ⟨h0, -⟩ | ⟨-, hb0, hb1, hb2, hb3, hb4, hb5, hb6, -⟩
  · exact absurd h0 hq
  · unfold xc_sao xr_ans
    rw [a7, hb4, hb1, hb2, hb5, hb6, show h + 3 = 3 + h from by omega]
    exact sm_sendA hps hA hW (sm_sth hh)
theorem kw_first_s {c : Nat → Bool} {f : Nat} : ∀ {i : Nat}, kw_first c i (f + 1) = match kw_first c i f with
    | some a => some a
    | none => if c (i + f) = true then some (i + f) else none := by
  induction f with
  | zero => intro i; simp [kw_first]
  | succ f ih =>
    intro i
    have h := ih (i := i + 1)
    rw [show i + 1 + f = i + (f + 1) from by omega] at h
    by_cases e : c i = true
    · simp [kw_first, e]
    · have e1 : kw_first c i (f + 1 + 1) = kw_first c (i + 1) (f + 1) := by conv => lhs; unfold kw_first; rw [if_neg e]
      have e2 : kw_first c i (f + 1) = kw_first c (i + 1) f := by conv => lhs; unfold kw_first; rw [if_neg e]
      rw [e1, e2]; exact h
theorem xr_df_first {c : Nat → Bool} (hc : ∀ a, a < 6 → (c a = true ↔ ¬ 0 ≤ M 190 a)) {j : Nat} : j ≤ 6 → ∀ {f : Int32}, xr_df M j f = match kw_first c 0 j with
    | some a => nI a
    | none => f := by
  induction j with
  | zero => intro _ f; rfl
  | succ j ih =>
    intro hj f
    unfold xr_df
    rw [ih (by omega), kw_first_s]
    cases kw_first c 0 j with
    | some a => rfl
    | none =>
      rw [Nat.zero_add]
      by_cases e : 0 ≤ M 190 j
      · rw [if_pos e, if_neg (fun x => (hc j (by omega)).mp x e)]
      · rw [if_neg e, if_pos ((hc j (by omega)).mpr e)]
theorem sm_pl {q : Prop} [Decidable q] (x : Int32) : (if q then x + 1 else x) = x + (if q then 1 else 0) := by
  split
  · rfl
  · rw [Int32.add_zero]
/-- the reference's session of an address, and the class's -/
theorem sm_s0 (hS : sm_S C bk h k) (hk : k ≤ 40) {a : Nat} (ha : a < 6) : (C (84 + 48 * h) a = 0 ↔ ¬ 0 ≤ gs_s bk h k a) ∧ (gs_s bk h k a < 0 ↔ ¬ 0 ≤ gs_s bk h k a) ∧ (¬ gs_s bk h k a = -1 ↔ 0 ≤ gs_s bk h k a) := by
  rcases hS.1 a ha with ⟨g1, g2⟩ | ⟨x, hx, g1, g2, g3, g4⟩
  · rw [g1, g2]; decide
  · rw [g1, g2]
    have h0 := nI_pos' (n := x) (by omega)
    have h1 := nI_pos (n := x) (by omega)
    have h2 := gs_neg (x := x) (by omega)
    refine ⟨⟨fun e => absurd e (by decide), fun e => absurd h0 e⟩, ⟨fun e => absurd e h1, fun e => absurd h0 e⟩, ⟨fun _ => h0, fun _ => h2⟩⟩
theorem sm_cnt (hS : sm_S C bk h k) (hk : k ≤ 40) (h190 : ∀ a, a < 6 → M 190 a = gs_s bk h k a) (h191 : ∀ a, a < 6 → ¬ gs_s bk h k a = -1 → M 191 a = gs_w bk h k a) (w : Int32) : xc_cnt C h w 0 6 0 = xr_do M w 6 0 := by
  have hP : ∀ a, a < 6 → ((¬ C (84 + 48 * h) a = 0 ∧ C (86 + 48 * h) a = w) ↔ (¬ M 190 a < 0 ∧ M 191 a = w)) := fun a ha => by
    obtain ⟨z1, z2, z3⟩ := sm_s0 hS hk ha
    rcases hS.1 a ha with ⟨g1, g2⟩ | ⟨x, hx, g1, g2, g3, g4⟩
    · rw [h190 a ha, g2, g1]
      exact ⟨fun g => absurd rfl g.1, fun g => absurd (by decide) g.1⟩
    · have hn : ¬ gs_s bk h k a = -1 := by rw [g1]; exact gs_neg (by omega)
      rw [h191 a ha hn, h190 a ha, g2, g4, g1]
      have h1 := nI_pos (n := x) (by omega)
      exact ⟨fun g => ⟨h1, g.2⟩, fun g => ⟨by decide, g.2⟩⟩
  simp only [xc_cnt, xr_do, sm_pl]
  simp only [hP 0 (by omega), hP 1 (by omega), hP 2 (by omega), hP 3 (by omega), hP 4 (by omega), hP 5 (by omega)]
  have lc : ∀ a b c : Int32, a + (b + c) = b + (a + c) := fun a b c => by rw [← Int32.add_assoc, Int32.add_comm a b, Int32.add_assoc]
  simp only [Int32.zero_add, Int32.add_assoc]
  generalize (if ¬M 190 0 < 0 ∧ M 191 0 = w then (1 : Int32) else 0) = t0
  generalize (if ¬M 190 1 < 0 ∧ M 191 1 = w then (1 : Int32) else 0) = t1
  generalize (if ¬M 190 2 < 0 ∧ M 191 2 = w then (1 : Int32) else 0) = t2
  generalize (if ¬M 190 3 < 0 ∧ M 191 3 = w then (1 : Int32) else 0) = t3
  generalize (if ¬M 190 4 < 0 ∧ M 191 4 = w then (1 : Int32) else 0) = t4
  generalize (if ¬M 190 5 < 0 ∧ M 191 5 = w then (1 : Int32) else 0) = t5
  ac_rfl
theorem sm_least (hS : sm_S C bk h k) (hk : k ≤ 40) (h190 : ∀ a, a < 6 → M 190 a = gs_s bk h k a) : xc_io (xc_least C h) = xr_df M 6 (-1) ∧ (∀ j, xc_least C h = some j → j < 6 ∧ gs_s bk h k j = -1) := by
  have hc : ∀ a, a < 6 → (xc_fr C h a = true ↔ ¬ 0 ≤ M 190 a) := fun a ha => by
    unfold xc_fr
    rw [decide_eq_true_eq, h190 a ha]
    exact (sm_s0 hS hk ha).1
  refine ⟨?_, fun j hj => ?_⟩
  · rw [xr_df_first hc (by omega)]
    unfold xc_least
    cases kw_first (xc_fr C h) 0 6 <;> rfl
  · unfold xc_least at hj
    obtain ⟨-, g2, g3, -⟩ := kw_first_some hj
    refine ⟨by omega, ?_⟩
    rw [hc j (by omega), h190 j (by omega)] at g3
    have := (sm_s0 hS hk (a := j) (by omega)).2.2
    exact Classical.not_not.mp (fun e => g3 (this.mp e))
end SMO
