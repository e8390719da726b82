/-! CLASS AGAINST REFERENCE: sessions. gs_s, gs_w, gs_c: what r records of home h make of the sessions (bk = the reference's book). -/
def gs_s (bk : Nat → Int32) (h : Nat) (r a : Nat) : Int32 := match r with
  | 0 => -1
  | r + 1 => if 1 < bk (400 * h + 10 * r + 7) then (if (if bk (400 * h + 10 * r + 7) = 1 ∧ a = (bk (400 * h + 10 * r + 9)).toNatClampNeg then nI r else gs_s bk h r a) = bk (400 * h + 10 * r + 8) then -1 else (if bk (400 * h + 10 * r + 7) = 1 ∧ a = (bk (400 * h + 10 * r + 9)).toNatClampNeg then nI r else gs_s bk h r a)) else (if bk (400 * h + 10 * r + 7) = 1 ∧ a = (bk (400 * h + 10 * r + 9)).toNatClampNeg then nI r else gs_s bk h r a)
def gs_w (bk : Nat → Int32) (h : Nat) (r a : Nat) : Int32 := match r with
  | 0 => 0
  | r + 1 => if bk (400 * h + 10 * r + 7) = 1 ∧ a = (bk (400 * h + 10 * r + 9)).toNatClampNeg then bk (400 * h + 10 * r + 8) else gs_w bk h r a
def gs_c (bk : Nat → Int32) (h : Nat) (r : Nat) : Int32 := match r with
  | 0 => 0
  | r + 1 => if bk (400 * h + 10 * r + 7) = 2 then gs_c bk h r + 1 else gs_c bk h r
section GSA
variable {bk bk' : Nat → Int32} {h r a : Nat}
theorem gs_s0 (h0 : bk (400 * h + 10 * r + 7) = 0) : gs_s bk h (r + 1) a = gs_s bk h r a := by
  conv => lhs; unfold gs_s
  rw [h0, if_neg (by decide), if_neg (fun x => absurd x.1 (by decide))]
theorem gs_s1 (h1 : bk (400 * h + 10 * r + 7) = 1) : gs_s bk h (r + 1) a = if a = (bk (400 * h + 10 * r + 9)).toNatClampNeg then nI r else gs_s bk h r a := by
  conv => lhs; unfold gs_s
  rw [h1, if_neg (by decide)]
  by_cases e : a = (bk (400 * h + 10 * r + 9)).toNatClampNeg
  · rw [if_pos ⟨rfl, e⟩, if_pos e]
  · rw [if_neg (fun x => e x.2), if_neg e]
theorem gs_s2 (h2 : bk (400 * h + 10 * r + 7) = 2 ∨ bk (400 * h + 10 * r + 7) = 3) : gs_s bk h (r + 1) a = if gs_s bk h r a = bk (400 * h + 10 * r + 8) then -1 else gs_s bk h r a := by
  have e1 : 1 < bk (400 * h + 10 * r + 7) := by rcases h2 with e | e <;> (rw [e]; decide)
  have e2 : ¬ bk (400 * h + 10 * r + 7) = 1 := by rcases h2 with e | e <;> (rw [e]; decide)
  have hi : (if bk (400 * h + 10 * r + 7) = 1 ∧ a = (bk (400 * h + 10 * r + 9)).toNatClampNeg then nI r else gs_s bk h r a) = gs_s bk h r a := if_neg (fun x => e2 x.1)
  conv => lhs; unfold gs_s
  rw [if_pos e1, hi]
theorem gs_w1 (h1 : bk (400 * h + 10 * r + 7) = 1) : gs_w bk h (r + 1) a = if a = (bk (400 * h + 10 * r + 9)).toNatClampNeg then bk (400 * h + 10 * r + 8) else gs_w bk h r a := by
  conv => lhs; unfold gs_w
  by_cases e : a = (bk (400 * h + 10 * r + 9)).toNatClampNeg
  · rw [if_pos ⟨h1, e⟩, if_pos e]
  · rw [if_neg (fun x => e x.2), if_neg e]
theorem gs_wn (h1 : ¬ bk (400 * h + 10 * r + 7) = 1) : gs_w bk h (r + 1) a = gs_w bk h r a := by
  conv => lhs; unfold gs_w
  rw [if_neg (fun x => h1 x.1)]
theorem gs_c2 (h1 : bk (400 * h + 10 * r + 7) = 2) : gs_c bk h (r + 1) = gs_c bk h r + 1 := by
  conv => lhs; unfold gs_c
  rw [if_pos h1]
theorem gs_cn (h1 : ¬ bk (400 * h + 10 * r + 7) = 2) : gs_c bk h (r + 1) = gs_c bk h r := by
  conv => lhs; unfold gs_c
  rw [if_neg h1]
/-- only the records below r count -/
theorem gs_congr (hb : ∀ j, 400 * h ≤ j → j < 400 * h + 10 * r → bk' j = bk j) : (∀ a, gs_s bk' h r a = gs_s bk h r a) ∧ (∀ a, gs_w bk' h r a = gs_w bk h r a) ∧ gs_c bk' h r = gs_c bk h r := by
  induction r with
  | zero => exact ⟨fun _ => rfl, fun _ => rfl, rfl⟩
  | succ r ih =>
    obtain ⟨i1, i2, i3⟩ := ih (fun j g1 g2 => hb j g1 (by omega))
    refine ⟨fun a => ?_, fun a => ?_, ?_⟩
    · unfold gs_s; rw [hb _ (by omega) (by omega), hb _ (by omega) (by omega), hb _ (by omega) (by omega), i1]
    · unfold gs_w; rw [hb _ (by omega) (by omega), hb _ (by omega) (by omega), hb _ (by omega) (by omega), i2]
    · unfold gs_c; rw [hb _ (by omega) (by omega), i3]
end GSA
/-- a memory shows the sessions of r records -/
def gs_ok (M1 : ax_I) (bk : Nat → Int32) (h r : Nat) : Prop := (∀ a, a < 6 → M1 190 a = gs_s bk h r a) ∧ M1 176 19 = gs_c bk h r ∧ ∀ a, a < 6 → ¬ gs_s bk h r a = -1 → M1 191 a = gs_w bk h r a
section GSB
variable {M M1 C C1 : ax_I} {bk : Nat → Int32} {h r k : Nat}
theorem xr_cls_190 {B f : Nat} : ∀ {a0 a : Nat} {M : ax_I}, xr_cls B a0 f M 190 a = if a0 ≤ a ∧ a < a0 + f then (if M 190 a = M 187 (B + 8) then -1 else M 190 a) else M 190 a := by
  induction f with
  | zero => intro a0 a M; rw [if_neg (by omega)]; rfl
  | succ f ih =>
    intro a0 a M
    unfold xr_cls
    rw [ih]
    have h187 : xr_cl M B a0 187 (B + 8) = M 187 (B + 8) := by simp [xr_cl, ax_u]
    rw [h187]
    by_cases e : a = a0
    · subst e
      rw [if_neg (by omega), if_pos (by omega)]
      simp [xr_cl, ax_u]
    · have h1 : xr_cl M B a0 190 a = M 190 a := by simp [xr_cl, ax_u, e]
      rw [h1]
      by_cases e2 : a0 + 1 ≤ a ∧ a < a0 + 1 + f
      · rw [if_pos e2, if_pos (show a0 ≤ a ∧ a < a0 + (f + 1) from by omega)]
      · rw [if_neg e2, if_neg (show ¬ (a0 ≤ a ∧ a < a0 + (f + 1)) from by omega)]
theorem xr_cls_n {B a0 f n j : Nat} {M : ax_I} (h1 : ¬ n = 190) : xr_cls B a0 f M n j = M n j := by rw [xr_cls_o h1]
theorem xr_r0_190 {f : Nat} : ∀ {a0 a : Nat} {M : ax_I}, a0 ≤ a → a < a0 + f → xr_r0 a0 f M 190 a = -1 := by
  induction f with
  | zero => intro a0 a M h1 h2; omega
  | succ f ih =>
    intro a0 a M h1 h2
    unfold xr_r0
    by_cases e : a = a0
    · subst e
      have : ∀ g b (M : ax_I), a < b → xr_r0 b g M 190 a = M 190 a := by
        intro g
        induction g with
        | zero => intro b M _; rfl
        | succ g ihg =>
          intro b M hb
          unfold xr_r0
          rw [ihg (b + 1) _ (by omega), ax_u_k (by omega)]
      rw [this f (a + 1) _ (by omega), ax_u_at]
    · exact ih (by omega) (by omega)
theorem gs_ok0 : gs_ok (xr_rs M) bk h 0 := by
  refine ⟨fun a ha => ?_, ?_, fun a ha hn => absurd rfl hn⟩
  · unfold xr_rs
    rw [xr_r0_190 (by omega) (by omega)]; rfl
  · unfold xr_rs
    rw [xr_r0_o (by omega), ax_u_at]; rfl
/-- a step of the reference's replay -/
theorem gs_step (hok : gs_ok M1 (M 187) h r) (hbk : M1 187 = M 187) (hb : xr_bok M (400 * h + 10 * r)) (ht : M 187 (400 * h + 10 * r + 7) = 0 ∨ M 187 (400 * h + 10 * r + 7) = 1 ∨ M 187 (400 * h + 10 * r + 7) = 2 ∨ M 187 (400 * h + 10 * r + 7) = 3) : gs_ok (xr_r1 M1 (400 * h + 10 * r) r) (M 187) h (r + 1) := by
  obtain ⟨o1, o2, o3⟩ := hok
  have c1 : ∀ q j, xr_r1 M1 (400 * h + 10 * r) r q j = xr_rc (xr_rb (xr_ra M1 (400 * h + 10 * r) r) (400 * h + 10 * r)) (400 * h + 10 * r) q j := fun _ _ => rfl
  have ra187 : xr_ra M1 (400 * h + 10 * r) r 187 = M 187 := (xr_ra_o (by omega) (by omega)).trans hbk
  have rb187 : xr_rb (xr_ra M1 (400 * h + 10 * r) r) (400 * h + 10 * r) 187 = M 187 := (xr_rb_o (by omega)).trans ra187
  have e190 : ∀ a, xr_r1 M1 (400 * h + 10 * r) r 190 a = xr_rb (xr_ra M1 (400 * h + 10 * r) r) (400 * h + 10 * r) 190 a := fun a => xr_rc_o (by omega)
  have e191 : ∀ a, xr_r1 M1 (400 * h + 10 * r) r 191 a = xr_ra M1 (400 * h + 10 * r) r 191 a := fun a => by rw [c1, xr_rc_o (by omega), xr_rb_o (by omega)]
  have e19 : xr_r1 M1 (400 * h + 10 * r) r 176 19 = if M 187 (400 * h + 10 * r + 7) = 2 then M1 176 19 + 1 else M1 176 19 := by
    have q : xr_rb (xr_ra M1 (400 * h + 10 * r) r) (400 * h + 10 * r) 176 19 = M1 176 19 := by rw [xr_rb_o (by omega), xr_ra_o (by omega) (by omega)]
    rw [c1]
    unfold xr_rc
    rw [ax_u_at, rb187, q]
  rcases ht with t | t | t | t
  · have ea : xr_ra M1 (400 * h + 10 * r) r = M1 := by unfold xr_ra; rw [hbk, t, if_neg (by decide)]
    have eb : xr_rb M1 (400 * h + 10 * r) = M1 := by unfold xr_rb; rw [hbk, t, if_neg (by decide)]
    refine ⟨fun a ha => ?_, ?_, fun a ha hn => ?_⟩
    · rw [e190, ea, eb, gs_s0 t]; exact o1 a ha
    · rw [e19, t, if_neg (by decide), gs_cn (by rw [t]; decide)]; exact o2
    · rw [e191, ea, gs_wn (by rw [t]; decide)]
      rw [gs_s0 t] at hn; exact o3 a ha hn
  · obtain ⟨b1, b2⟩ := hb t
    have ea : xr_ra M1 (400 * h + 10 * r) r = ax_u (ax_u M1 190 (M 187 (400 * h + 10 * r + 9)).toNatClampNeg (nI r)) 191 (M 187 (400 * h + 10 * r + 9)).toNatClampNeg (M 187 (400 * h + 10 * r + 8)) := by unfold xr_ra; rw [hbk, t, if_pos rfl]
    have eb : xr_rb (xr_ra M1 (400 * h + 10 * r) r) (400 * h + 10 * r) = xr_ra M1 (400 * h + 10 * r) r := by unfold xr_rb; rw [ra187, t, if_neg (by decide)]
    refine ⟨fun a ha => ?_, ?_, fun a ha hn => ?_⟩
    · rw [e190, eb, ea, ax_u_n (by omega), gs_s1 t]
      by_cases e : a = (M 187 (400 * h + 10 * r + 9)).toNatClampNeg
      · rw [if_pos e, e, ax_u_at]
      · rw [if_neg e, ax_u_k e]; exact o1 a ha
    · rw [e19, t, if_neg (by decide), gs_cn (by rw [t]; decide)]; exact o2
    · rw [e191, ea, gs_w1 t]
      rw [gs_s1 t] at hn
      by_cases e : a = (M 187 (400 * h + 10 * r + 9)).toNatClampNeg
      · rw [if_pos e, e, ax_u_at]
      · rw [if_neg e] at hn ⊢
        rw [ax_u_k e, ax_u_n (by omega)]; exact o3 a ha hn
  all_goals
    have ea : xr_ra M1 (400 * h + 10 * r) r = M1 := by unfold xr_ra; rw [hbk, t, if_neg (by decide)]
    have eb : xr_rb M1 (400 * h + 10 * r) = xr_cls (400 * h + 10 * r) 0 6 M1 := by unfold xr_rb; rw [hbk, t, if_pos (by decide)]
  · refine ⟨fun a ha => ?_, ?_, fun a ha hn => ?_⟩
    · rw [e190, ea, eb, xr_cls_190, if_pos (by omega), hbk, gs_s2 (Or.inl t), o1 a ha]
    · rw [e19, t, if_pos rfl, gs_c2 t, o2]
    · rw [e191, ea, gs_wn (by rw [t]; decide)]
      rw [gs_s2 (Or.inl t)] at hn
      refine o3 a ha (fun x => hn ?_)
      rw [x]; split <;> rfl
  · refine ⟨fun a ha => ?_, ?_, fun a ha hn => ?_⟩
    · rw [e190, ea, eb, xr_cls_190, if_pos (by omega), hbk, gs_s2 (Or.inr t), o1 a ha]
    · rw [e19, t, if_neg (by decide), gs_cn (by rw [t]; decide)]; exact o2
    · rw [e191, ea, gs_wn (by rw [t]; decide)]
      rw [gs_s2 (Or.inr t)] at hn
      refine o3 a ha (fun x => hn ?_)
      rw [x]; split <;> rfl
theorem gs_replay (hb : ∀ r, r < k → xr_bok M (400 * h + 10 * r)) (ht : ∀ r, r < k → M 187 (400 * h + 10 * r + 7) = 0 ∨ M 187 (400 * h + 10 * r + 7) = 1 ∨ M 187 (400 * h + 10 * r + 7) = 2 ∨ M 187 (400 * h + 10 * r + 7) = 3) : gs_ok (xr_rp M h k) (M 187) h k := by
  have gen : ∀ f r M1, r + f = k → M1 187 = M 187 → gs_ok M1 (M 187) h r → gs_ok (xr_r2 h r f M1) (M 187) h k := by
    intro f
    induction f with
    | zero => intro r M1 hr _ hok; rw [show k = r from by omega]; exact hok
    | succ f ih =>
      intro r M1 hr h187 hok
      unfold xr_r2
      refine ih (r + 1) _ (by omega) ?_ (gs_step hok h187 (hb r (by omega)) (ht r (by omega)))
      rw [← h187]
      funext j
      exact xr_r1_o (by omega) (by omega) (by omega)
  exact gen k 0 (xr_rs M) (by omega) (funext fun j => xr_rs_o (by omega) (by omega)) gs_ok0
/-- the class's sessions are those of r records -/
def sm_S (C : ax_I) (bk : Nat → Int32) (h r : Nat) : Prop :=
  (∀ a, a < 6 → (gs_s bk h r a = -1 ∧ C (84 + 48 * h) a = 0) ∨ (∃ x, x < r ∧ gs_s bk h r a = nI x ∧ C (84 + 48 * h) a = 1 ∧ C (85 + 48 * h) a = nI x ∧ C (86 + 48 * h) a = gs_w bk h r a))
  ∧ C (83 + 48 * h) 3 = gs_c bk h r ∧ (∀ a b, a < 6 → b < 6 → gs_s bk h r a = gs_s bk h r b → ¬ gs_s bk h r a = -1 → a = b)
/-- record r of the class and of the reference -/
def sm_rec (C : ax_I) (bk : Nat → Int32) (h r : Nat) : Prop :=
  (C (88 + 48 * h + r) 0 = 5 ∧ C (88 + 48 * h + r) 5 = -1 ∧ bk (400 * h + 10 * r) = -1 ∧ bk (400 * h + 10 * r + 7) = 3 ∧ ∃ j x, j < 6 ∧ x < r ∧ C (88 + 48 * h + r) 7 = nI j ∧ gs_s bk h r j = nI x ∧ bk (400 * h + 10 * r + 8) = nI x)
  ∨ ((C (88 + 48 * h + r) 0 = 0 ∨ C (88 + 48 * h + r) 0 = 3) ∧ bk (400 * h + 10 * r) = C (88 + 48 * h + r) 0 ∧ bk (400 * h + 10 * r + 1) = C (88 + 48 * h + r) 1 ∧ bk (400 * h + 10 * r + 2) = C (88 + 48 * h + r) 2 ∧ bk (400 * h + 10 * r + 3) = C (88 + 48 * h + r) 4 ∧ bk (400 * h + 10 * r + 4) = C (88 + 48 * h + r) 5 ∧ bk (400 * h + 10 * r + 5) = C (88 + 48 * h + r) 6 ∧ bk (400 * h + 10 * r + 6) = C (88 + 48 * h + r) 7
    ∧ ((C (88 + 48 * h + r) 5 = 1 ∧ C (88 + 48 * h + r) 6 = nI r ∧ bk (400 * h + 10 * r + 7) = 1 ∧ bk (400 * h + 10 * r + 8) = C (88 + 48 * h + r) 3 ∧ ∃ j, j < 6 ∧ C (88 + 48 * h + r) 7 = nI j ∧ bk (400 * h + 10 * r + 9) = nI j ∧ gs_s bk h r j = -1)
      ∨ (C (88 + 48 * h + r) 5 = 2 ∧ bk (400 * h + 10 * r + 7) = 0)
      ∨ (C (88 + 48 * h + r) 5 = 4 ∧ ((∃ j x, j < 6 ∧ x < r ∧ gs_s bk h r j = nI x ∧ gs_w bk h r j = C (88 + 48 * h + r) 6 ∧ C (88 + 48 * h + r) 7 = nI x ∧ bk (400 * h + 10 * r + 7) = 2 ∧ bk (400 * h + 10 * r + 8) = nI x)
        ∨ (bk (400 * h + 10 * r + 7) = 0 ∧ ∀ j, j < 6 → ¬ gs_s bk h r j = -1 → ¬ (gs_s bk h r j = C (88 + 48 * h + r) 7 ∧ gs_w bk h r j = C (88 + 48 * h + r) 6))))))
theorem sm_rec_rok (hr40 : r < 40) (hr : sm_rec C bk h r) : xc_rok C (88 + 48 * h + r) := by
  intro hq
  rcases hr with ⟨h0, h5, -, -, j, x, hj, hx, h7, -, -⟩ | ⟨h0, -, -, -, -, -, -, -, hh⟩
  · rw [h7, nI_clamp (by omega)]; exact ⟨hj, rfl⟩
  · rcases hq with hq | hq
    · rcases h0 with e | e <;> (rw [e] at hq; exact absurd hq (by decide))
    · rcases hh with ⟨-, -, -, -, j, hj, h7, -, -⟩ | ⟨h5, -⟩ | ⟨h5, -⟩
      · rw [h7, nI_clamp (by omega)]; exact ⟨hj, rfl⟩
      · rw [h5] at hq; exact absurd hq (by decide)
      · rw [h5] at hq; exact absurd hq (by decide)
theorem sm_rec_bok (hr : sm_rec C (M 187) h r) : xr_bok M (400 * h + 10 * r) ∧ (M 187 (400 * h + 10 * r + 7) = 0 ∨ M 187 (400 * h + 10 * r + 7) = 1 ∨ M 187 (400 * h + 10 * r + 7) = 2 ∨ M 187 (400 * h + 10 * r + 7) = 3) := by
  have hne : ∀ {y : Int32}, M 187 (400 * h + 10 * r + 7) = y → ¬ y = 1 → xr_bok M (400 * h + 10 * r) := fun h1 h2 h3 => absurd (h1.symm.trans h3) h2
  rcases hr with ⟨-, -, -, h7, -⟩ | ⟨-, -, -, -, -, -, -, -, hh⟩
  · exact ⟨hne h7 (by decide), Or.inr (Or.inr (Or.inr h7))⟩
  · rcases hh with ⟨-, -, h7, -, j, hj, -, h9, -⟩ | ⟨-, h7⟩ | ⟨-, ⟨j, x, -, -, -, -, -, h7, -⟩ | ⟨h7, -⟩⟩
    · refine ⟨fun _ => ?_, Or.inr (Or.inl h7)⟩
      rw [h9, nI_clamp (by omega)]; exact ⟨hj, rfl⟩
    · exact ⟨hne h7 (by decide), Or.inl h7⟩
    · exact ⟨hne h7 (by decide), Or.inr (Or.inr (Or.inl h7))⟩
    · exact ⟨hne h7 (by decide), Or.inl h7⟩
theorem xc_ea_none {num u : Int32} {f : Nat} : ∀ {i : Nat} {C : ax_I}, (∀ j, i ≤ j → j < i + f → ¬ xc_e1c C h num u j) → xc_ea h num u i f C = C := by
  induction f with
  | zero => intro i C _; rfl
  | succ f ih =>
    intro i C hn
    unfold xc_ea
    have e : xc_e1 C h num u i = C := by unfold xc_e1; rw [if_neg (hn i (by omega) (by omega))]
    rw [e]
    exact ih (fun j g1 g2 => hn j (by omega) (by omega))
theorem xc_ea_one {num u : Int32} {f : Nat} : ∀ {i j : Nat} {C : ax_I}, i ≤ j → j < i + f → xc_e1c C h num u j → (∀ q, i ≤ q → q < i + f → ¬ q = j → ¬ xc_e1c C h num u q) → xc_ea h num u i f C = ax_u (ax_u C (84 + 48 * h) j 0) (83 + 48 * h) 3 (C (83 + 48 * h) 3 + 1) := by
  induction f with
  | zero => intro i j C g1 g2; omega
  | succ f ih =>
    intro i j C g1 g2 hc hn
    unfold xc_ea
    by_cases e : i = j
    · subst e
      have e1 : xc_e1 C h num u i = ax_u (ax_u C (84 + 48 * h) i 0) (83 + 48 * h) 3 (C (83 + 48 * h) 3 + 1) := by
        unfold xc_e1; rw [if_pos hc, ax_u_n (show ¬ 83 + 48 * h = 84 + 48 * h from by omega)]
      rw [e1]
      refine xc_ea_none (fun q k1 k2 => ?_)
      have := hn q (by omega) (by omega) (by omega)
      unfold xc_e1c at this ⊢
      rw [ax_u_n (show ¬ 84 + 48 * h = 83 + 48 * h from by omega), ax_u_n (show ¬ 85 + 48 * h = 83 + 48 * h from by omega), ax_u_n (show ¬ 86 + 48 * h = 83 + 48 * h from by omega), ax_u_k (show ¬ q = i from by omega), ax_u_n (show ¬ 85 + 48 * h = 84 + 48 * h from by omega), ax_u_n (show ¬ 86 + 48 * h = 84 + 48 * h from by omega)]
      exact this
    · have e1 : xc_e1 C h num u i = C := by unfold xc_e1; rw [if_neg (hn i (by omega) (by omega) e)]
      rw [e1]
      exact ih (by omega) (by omega) hc (fun q k1 k2 k3 => hn q (by omega) (by omega) k3)
theorem gs_neg {x : Nat} (hx : x < 40) : ¬ nI x = -1 := kw_nm1 x (by omega)
/-- a record is carried out -/
theorem sm_carry (hr40 : r < 40) (hS : sm_S C1 bk h r) (hrow : C1 (88 + 48 * h + r) = C (88 + 48 * h + r)) (hrec : sm_rec C bk h r) : sm_S (xc_carry C1 h (88 + 48 * h + r)) bk h (r + 1) := by
  obtain ⟨s1, s2, s3⟩ := hS
  have lift : ∀ a, a < 6 → ∀ x, x < r → gs_s bk h r a = nI x → C1 (84 + 48 * h) a = 1 ∧ C1 (85 + 48 * h) a = nI x ∧ C1 (86 + 48 * h) a = gs_w bk h r a := fun a ha x hx e => by
    rcases s1 a ha with ⟨g1, -⟩ | ⟨y, hy, g1, g2, g3, g4⟩
    · exact absurd (e.symm.trans g1) (gs_neg (by omega))
    · rw [e] at g1; rw [← g1] at g3; exact ⟨g2, g3, g4⟩
  unfold xc_carry
  rw [hrow]
  rcases hrec with ⟨h0, h5, hb0, hb7, j, x, hj, hx, h7, hs, hb8⟩ | ⟨h0, hb0, -, -, -, -, -, -, hh⟩
  · -- an eviction
    rw [if_pos h0, h7, nI_clamp (by omega)]
    obtain ⟨o1, o2, o3⟩ := lift j hj x hx hs
    unfold xc_end
    rw [if_neg (by rw [o1]; decide)]
    have hss : ∀ a, a < 6 → gs_s bk h (r + 1) a = if a = j then -1 else gs_s bk h r a := fun a ha => by
      rw [gs_s2 (Or.inr hb7), hb8]
      by_cases e : a = j
      · rw [if_pos e, e, if_pos hs]
      · rw [if_neg e, if_neg (fun g => e (s3 a j ha hj (g.trans hs.symm) (by rw [g]; exact gs_neg (by omega))))]
    have hww : ∀ a, gs_w bk h (r + 1) a = gs_w bk h r a := fun a => gs_wn (by rw [hb7]; decide)
    refine ⟨fun a ha => ?_, ?_, fun a b ha hb he hn => ?_⟩
    · rw [hss a ha, hww]
      by_cases e : a = j
      · subst e
        rw [if_pos rfl, ax_u_at]; exact Or.inl ⟨rfl, rfl⟩
      · rw [if_neg e, ax_u_k e, ax_u_n (by omega), ax_u_n (by omega)]
        rcases s1 a ha with g | ⟨y, hy, g⟩
        · exact Or.inl g
        · exact Or.inr ⟨y, by omega, g⟩
    · rw [ax_u_n (by omega), gs_cn (by rw [hb7]; decide)]; exact s2
    · rw [hss a ha] at he hn
      rw [hss b hb] at he
      by_cases e1 : a = j
      · rw [if_pos e1] at hn; exact absurd rfl hn
      · rw [if_neg e1] at he hn
        by_cases e2 : b = j
        · rw [if_pos e2] at he; exact absurd he hn
        · rw [if_neg e2] at he; exact s3 a b ha hb he hn
  · have h05 : ¬ C (88 + 48 * h + r) 0 = 5 := by rcases h0 with e | e <;> (rw [e]; decide)
    rw [if_neg h05]
    rcases hh with ⟨h5, h6, hb7, hb8, j, hj, h7, hb9, hs⟩ | ⟨h5, hb7⟩ | ⟨h5, hh⟩
    · -- let in
      rw [if_pos h5, h7, nI_clamp (by omega)]
      have hj9 : (bk (400 * h + 10 * r + 9)).toNatClampNeg = j := by rw [hb9, nI_clamp (by omega)]
      have hss : ∀ a, gs_s bk h (r + 1) a = if a = j then nI r else gs_s bk h r a := fun a => by rw [gs_s1 hb7, hj9]
      have hww : ∀ a, gs_w bk h (r + 1) a = if a = j then C (88 + 48 * h + r) 3 else gs_w bk h r a := fun a => by rw [gs_w1 hb7, hj9, hb8]
      refine ⟨fun a ha => ?_, ?_, fun a b ha hb he hn => ?_⟩
      · rw [hss, hww]
        unfold xc_open
        by_cases e : a = j
        · subst e
          rw [if_pos rfl, if_pos rfl]
          refine Or.inr ⟨r, by omega, rfl, ?_, ?_, ?_⟩
          · rw [ax_u_n (by omega), ax_u_n (by omega), ax_u_at]
          · rw [ax_u_n (by omega), ax_u_at]; exact h6
          · rw [ax_u_at]
        · rw [if_neg e, if_neg e]
          have k1 : ax_u (ax_u (ax_u C1 (84 + 48 * h) j 1) (85 + 48 * h) j (C (88 + 48 * h + r) 6)) (86 + 48 * h) j (C (88 + 48 * h + r) 3) (84 + 48 * h) a = C1 (84 + 48 * h) a := by rw [ax_u_k e, ax_u_k e, ax_u_k e]
          have k2 : ax_u (ax_u (ax_u C1 (84 + 48 * h) j 1) (85 + 48 * h) j (C (88 + 48 * h + r) 6)) (86 + 48 * h) j (C (88 + 48 * h + r) 3) (85 + 48 * h) a = C1 (85 + 48 * h) a := by rw [ax_u_k e, ax_u_k e, ax_u_k e]
          have k3 : ax_u (ax_u (ax_u C1 (84 + 48 * h) j 1) (85 + 48 * h) j (C (88 + 48 * h + r) 6)) (86 + 48 * h) j (C (88 + 48 * h + r) 3) (86 + 48 * h) a = C1 (86 + 48 * h) a := by rw [ax_u_k e, ax_u_k e, ax_u_k e]
          rw [k1, k2, k3]
          rcases s1 a ha with g | ⟨y, hy, g⟩
          · exact Or.inl g
          · exact Or.inr ⟨y, by omega, g⟩
      · unfold xc_open
        rw [ax_u_n (by omega), ax_u_n (by omega), ax_u_n (by omega), gs_cn (by rw [hb7]; decide)]; exact s2
      · have hlt : ∀ b, b < 6 → ¬ gs_s bk h r b = nI r := fun b hb e => by
          rcases s1 b hb with ⟨g1, -⟩ | ⟨y, hy, g1, -⟩
          · exact gs_neg hr40 (e.symm.trans g1)
          · have := (nI_eq (a := r) (b := y) (by omega) (by omega)).mp (e.symm.trans g1)
            omega
        rw [hss a] at he hn
        rw [hss b] at he
        by_cases e1 : a = j
        · by_cases e2 : b = j
          · omega
          · rw [if_pos e1, if_neg e2] at he
            exact absurd he.symm (hlt b hb)
        · by_cases e2 : b = j
          · rw [if_neg e1, if_pos e2] at he
            exact absurd he (hlt a ha)
          · rw [if_neg e1] at he hn
            rw [if_neg e2] at he
            exact s3 a b ha hb he hn
    · -- turned away
      rw [if_neg (by rw [h5]; decide), if_neg (by rw [h5]; decide)]
      refine ⟨fun a ha => ?_, ?_, fun a b ha hb he hn => ?_⟩
      · rw [gs_s0 hb7, gs_wn (by rw [hb7]; decide)]
        rcases s1 a ha with g | ⟨y, hy, g⟩
        · exact Or.inl g
        · exact Or.inr ⟨y, by omega, g⟩
      · rw [gs_cn (by rw [hb7]; decide)]; exact s2
      · rw [gs_s0 hb7] at he hn; rw [gs_s0 hb7] at he; exact s3 a b ha hb he hn
    · -- closed
      rw [if_neg (by rw [h5]; decide), if_pos h5]
      have hcond : ∀ a, a < 6 → (xc_e1c C1 h (C (88 + 48 * h + r) 7) (C (88 + 48 * h + r) 6) a ↔ ¬ gs_s bk h r a = -1 ∧ gs_s bk h r a = C (88 + 48 * h + r) 7 ∧ gs_w bk h r a = C (88 + 48 * h + r) 6) := fun a ha => by
        unfold xc_e1c
        rcases s1 a ha with ⟨g1, g2⟩ | ⟨y, hy, g1, g2, g3, g4⟩
        · rw [g2, g1]
          exact ⟨fun g => absurd rfl g.1, fun g => absurd rfl g.1⟩
        · rw [g2, g3, g4, g1]
          exact ⟨fun g => ⟨gs_neg (by omega), g.2⟩, fun g => ⟨by decide, g.2⟩⟩
      rcases hh with ⟨j, x, hj, hx, hs, hw, h7, hb7, hb8⟩ | ⟨hb7, hno⟩
      · obtain ⟨o1, o2, o3⟩ := lift j hj x hx hs
        have hone := xc_ea_one (h := h) (num := C (88 + 48 * h + r) 7) (u := C (88 + 48 * h + r) 6) (f := 6) (i := 0) (j := j) (C := C1) (by omega) (by omega) ((hcond j hj).mpr ⟨by rw [hs]; exact gs_neg (by omega), hs.trans h7.symm, hw⟩) (fun q _ g2 g3 g4 => by
          obtain ⟨k1, k2, k3⟩ := (hcond q (by omega)).mp g4
          exact g3 (s3 q j (by omega) hj (k2.trans (h7.trans hs.symm)) k1))
        rw [hone]
        have hss : ∀ a, a < 6 → gs_s bk h (r + 1) a = if a = j then -1 else gs_s bk h r a := fun a ha => by
          rw [gs_s2 (Or.inl hb7), hb8]
          by_cases e : a = j
          · rw [if_pos e, e, if_pos hs]
          · rw [if_neg e, if_neg (fun g => e (s3 a j ha hj (g.trans hs.symm) (by rw [g]; exact gs_neg (by omega))))]
        have hww : ∀ a, gs_w bk h (r + 1) a = gs_w bk h r a := fun a => gs_wn (by rw [hb7]; decide)
        refine ⟨fun a ha => ?_, ?_, fun a b ha hb he hn => ?_⟩
        · rw [hss a ha, hww, ax_u_n (show ¬ 84 + 48 * h = 83 + 48 * h from by omega), ax_u_n (show ¬ 85 + 48 * h = 83 + 48 * h from by omega), ax_u_n (show ¬ 86 + 48 * h = 83 + 48 * h from by omega), ax_u_n (show ¬ 85 + 48 * h = 84 + 48 * h from by omega), ax_u_n (show ¬ 86 + 48 * h = 84 + 48 * h from by omega)]
          by_cases e : a = j
          · subst e
            rw [if_pos rfl, ax_u_at]; exact Or.inl ⟨rfl, rfl⟩
          · rw [if_neg e, ax_u_k e]
            rcases s1 a ha with g | ⟨y, hy, g⟩
            · exact Or.inl g
            · exact Or.inr ⟨y, by omega, g⟩
        · rw [ax_u_at, gs_c2 hb7, s2]
        · rw [hss a ha] at he hn
          rw [hss b hb] at he
          by_cases e1 : a = j
          · rw [if_pos e1] at hn; exact absurd rfl hn
          · rw [if_neg e1] at he hn
            by_cases e2 : b = j
            · rw [if_pos e2] at he; exact absurd he hn
            · rw [if_neg e2] at he; exact s3 a b ha hb he hn
      · rw [xc_ea_none (fun q _ g2 g4 => by
          obtain ⟨k1, k2, k3⟩ := (hcond q (by omega)).mp g4
          exact hno q (by omega) k1 ⟨k2, k3⟩)]
        refine ⟨fun a ha => ?_, ?_, fun a b ha hb he hn => ?_⟩
        · rw [gs_s0 hb7, gs_wn (by rw [hb7]; decide)]
          rcases s1 a ha with g | ⟨y, hy, g⟩
          · exact Or.inl g
          · exact Or.inr ⟨y, by omega, g⟩
        · rw [gs_cn (by rw [hb7]; decide)]; exact s2
        · rw [gs_s0 hb7] at he hn; rw [gs_s0 hb7] at he; exact s3 a b ha hb he hn
end GSB
