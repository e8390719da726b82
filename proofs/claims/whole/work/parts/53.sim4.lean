/-! CLASS AGAINST REFERENCE: a line becomes pending; logins, logouts; ticks; a point hears; a point crashes. -/
/-- all that is alike, but relay and homes -/
def sm_A (C : ax_I) (P : ax_P) (M : ax_I) (n : Nat) : Prop := sm_K C M ∧ sm_F C P M n ∧ sm_L C M
section SMQ
variable {C C' M M' : ax_I} {P : ax_P} {n p i t : Nat}
/-- the line's new state is written: the part before it sends -/
theorem sm_mp1 (hps : kw_ps P) (hA : sm_A C P M n) (hW : sm_W M 8) (hp : p < 2) (hi : i < 4) (hng : ¬ xr_pg M (4 * p + i)) {st au : Int32} (hst : st = 1 ∨ st = 3) :
    sm_A (xc_mp1 C p (59 + 6 * p + i) st au) P (xr_st1 M (4 * p + i) st au) n ∧ sm_fr C (xc_mp1 C p (59 + 6 * p + i) st au) M (xr_st1 M (4 * p + i) st au) ∧ xr_st1 M (4 * p + i) st au 176 5 = M 176 5 ∧ (∀ j, ¬ (10 * (4 * p + i) ≤ j ∧ j < 10 * (4 * p + i) + 10) → xr_st1 M (4 * p + i) st au 184 j = M 184 j) := by
  obtain ⟨hK, hF, hL⟩ := hA
  obtain ⟨b, hb, e1, e2, hu⟩ := sm_newId hL hp
  obtain ⟨b1, b2, b3, b4, b5⟩ := hL
  have mk := b1 p hp i hi
  have h4 : (4 * p + i) / 4 = p := by omega
  generalize hLe : 59 + 6 * p + i = L at *
  generalize hre : 4 * p + i = r at *
  have co : ∀ q, ¬ q = L → ¬ q = 57 + 6 * p → xc_mp1 C p L st au q = C q := fun q g1 g2 => by funext j; simp [xc_mp1, ax_u, g1, g2]
  have cL : ∀ k, xc_mp1 C p L st au L k = if k = 8 then 0 else if k = 3 then au else if k = 0 then st else if k = 2 then nI b else C L k := fun k => by
    have g : ¬ L = 57 + 6 * p := by omega
    simp only [xc_mp1, ax_u, e1, g, if_true, if_false]
  have cP : xc_mp1 C p L st au (57 + 6 * p) 2 = nI b := by
    have g : ¬ 57 + 6 * p = L := by omega
    simp [xc_mp1, ax_u, g, e1]
  have cP0 : ∀ p', xc_mp1 C p L st au (57 + 6 * p') 0 = C (57 + 6 * p') 0 := fun p' => by
    by_cases g2 : 57 + 6 * p' = L
    · omega
    · simp [xc_mp1, ax_u, g2]
  have mo : ∀ q j, ¬ q = 184 → ¬ q = 185 → xr_st1 M r st au q j = M q j := fun q j g1 g2 => by simp [xr_st1, ax_u, g1, g2]
  have m5 : ∀ p', xr_st1 M r st au 185 p' = if p' = p then nI b else M 185 p' := fun p' => by
    by_cases g : p' = p <;> simp [xr_st1, ax_u, g, h4, e2]
  have mL : ∀ k, k < 10 → xr_st1 M r st au 184 (10 * r + k) = if k = 9 then 0 else if k = 3 then au else if k = 2 then nI b else if k = 0 then st else M 184 (10 * r + k) := fun k hk => by
    simp only [xr_st1, ax_u, h4, e2, Nat.add_left_cancel_iff, Nat.add_eq_left, if_true]
    try simp
  have mR : ∀ j, ¬ (10 * r ≤ j ∧ j < 10 * r + 10) → xr_st1 M r st au 184 j = M 184 j := fun j g => by
    have g0 : ¬ j = 10 * r := by omega
    have g2 : ¬ j = 10 * r + 2 := by omega
    have g3 : ¬ j = 10 * r + 3 := by omega
    have g9 : ¬ j = 10 * r + 9 := by omega
    simp [xr_st1, ax_u, g0, g2, g3, g9]
  have hKF := sm_KF (C' := xc_mp1 C p L st au) (M' := xr_st1 M r st au) hps (fun q g j _ => by rw [co q (by omega) (by omega)]) (funext fun j => mo 177 j (by omega) (by omega)) (funext fun j => mo 178 j (by omega) (by omega)) (funext fun j => mo 182 j (by omega) (by omega)) (mo 176 7 (by omega) (by omega)) hK hF
  refine ⟨⟨hKF.1, hKF.2, ⟨?_, ?_, fun p' hp' => ?_, fun p' hp' => ?_, ?_⟩⟩, sm_fr_of (fun q g1 g2 => co q (by omega) (by omega)) (fun q j _ _ g1 g2 _ _ => mo q j g1 g2), mo 176 5 (by omega) (by omega), mR⟩
  · have hmi : sm_Mi (xc_mp1 C p (59 + 6 * p + i) st au) (xr_st1 M (4 * p + i) st au) := by
      refine sm_Mi_row b1 hp hi (fun q g1 g2 g3 g4 g5 => ?_) (fun j g => ?_) (fun k hk => ?_)
      · rw [hLe] at g5 ⊢; exact co q g5 (by omega)
      · rw [hre] at g ⊢; exact mR j g
      · rw [hLe, hre, cL, mL _ (sm_o_lt hk)]
        by_cases k8 : k = 8
        · subst k8; rfl
        · by_cases k9 : k = 9
          · subst k9
            rw [← mk 9 (by omega)]; rfl
          · have : sm_o k = k := by unfold sm_o; rw [if_neg k8, if_neg k9]
            have h5 := mk k hk
            rw [this] at h5 ⊢
            rw [if_neg k8, if_neg k9]
            by_cases k3 : k = 3
            · rw [if_pos k3, if_pos k3]
            · rw [if_neg k3, if_neg k3]
              by_cases k0 : k = 0
              · subst k0; simp
              · rw [if_neg k0]
                by_cases k2 : k = 2
                · rw [if_pos k2, if_pos k2]
                · rw [if_neg k2, if_neg k2, if_neg k0]; exact h5
    rw [hLe, hre] at hmi; exact hmi
  · rw [co 2 (by omega) (by omega), mo 176 5 (by omega) (by omega)]; exact b2
  · rw [cP0]; exact b3 p' hp'
  · rw [m5]
    by_cases g : p' = p
    · subst g
      exact ⟨b, hb, if_pos rfl, Or.inl cP⟩
    · rw [if_neg g, co _ (by omega) (by omega)]; exact b4 p' hp'
  · have hv : sm_V (xr_st1 M (4 * p + i) st au) := by
      refine sm_V_row b5 hp hi (fun j g => ?_) ?_ (fun g j hj hji g2 he => ?_)
      · rw [hre] at g ⊢; exact mR j g
      · have := mL 0 (by omega)
        simp at this
        rw [hre, this]
        rcases hst with rfl | rfl
        · exact Or.inr (Or.inl rfl)
        · exact Or.inr (Or.inr (Or.inr rfl))
      · have := mL 2 (by omega)
        simp at this
        rw [hre, this] at he
        exact hu ⟨j, hj, g2, he⟩
    rw [hre] at hv; exact hv
theorem sm_sub0 (x : Int32) : x - x = nI 0 := by
  rw [Int32.sub_self]; rfl
/-- a line becomes pending -/
theorem sm_mp (hps : kw_ps P) (hA : sm_A C P M n) (hW : sm_W M 8) (hp : p < 2) (hi : i < 4) (hng : ¬ xr_pg M (4 * p + i)) {st au : Int32} (hst : st = 1 ∨ st = 3) :
    sm_A (xc_mp C P p (59 + 6 * p + i) st au) P (xr_st M (4 * p + i) st au) (if n < 24 then n + 1 else n) ∧ sm_W (xr_st M (4 * p + i) st au) 8 ∧ sm_fr C (xc_mp C P p (59 + 6 * p + i) st au) M (xr_st M (4 * p + i) st au)
    ∧ xc_mp C P p (59 + 6 * p + i) st au (59 + 6 * p + i) 2 = xr_st M (4 * p + i) st au 184 (10 * (4 * p + i) + 2) := by
  obtain ⟨hA1, hfr, hck, hrow⟩ := sm_mp1 hps hA hW hp hi hng (au := au) hst
  obtain ⟨hK1, hF1, hL1⟩ := hA1
  obtain ⟨k1, k2, k3, k4, k5, k6, k7⟩ := sm_sendFor hps hK1 hF1 hL1 hp hi
  have hL := k3
  refine ⟨⟨k1, k2, k3⟩, ?_, sm_fr_trans hfr (sm_fr_of (fun q g1 g2 => k4 q g2 g1) (fun q j g0 g1 g2 g3 g4 _ => k5 q j g0 g1 g2 g4)), sm_mi hL.1 hp hi (k := 2) (by omega)⟩
  have c5 : xr_sl (xr_st1 M (4 * p + i) st au) (4 * p + i) 176 5 = M 176 5 := (k5 176 5 (by omega) (by omega) (by omega) (by omega)).trans hck
  refine sm_W_row (M := M) (M' := xr_st M (4 * p + i) st au) hW hp hi c5 (fun j g => ?_) (Or.inl rfl) (fun _ => ⟨0, by omega, ?_⟩)
  · unfold xr_st
    rw [k6 j (by omega) (by omega)]; exact hrow j g
  · unfold xr_st
    rw [k7, hck]; exact sm_sub0 _
theorem sm_lg (hps : kw_ps P) (hA : sm_A C P M n) (hW : sm_W M 8) (hp : p < 2) (hi : i < 4) {u pw : Int32} :
    sm_A (xc_lg1 C (59 + 6 * p + i) u pw) P (xr_lg M (4 * p + i) u pw) n ∧ sm_W (xr_lg M (4 * p + i) u pw) 8 ∧ sm_fr C (xc_lg1 C (59 + 6 * p + i) u pw) M (xr_lg M (4 * p + i) u pw) ∧ (∀ r, xr_lg M (4 * p + i) u pw 184 (10 * r) = M 184 (10 * r)) := by
  obtain ⟨hK, hF, hL⟩ := hA
  obtain ⟨b1, b2, b3, b4, b5⟩ := hL
  have mk := b1 p hp i hi
  generalize hLe : 59 + 6 * p + i = L at *
  generalize hre : 4 * p + i = r at *
  have co : ∀ q, ¬ q = L → xc_lg1 C L u pw q = C q := fun q g1 => by funext j; simp [xc_lg1, ax_u, g1]
  have mo : ∀ q j, ¬ q = 184 → xr_lg M r u pw q j = M q j := fun q j g1 => by simp [xr_lg, ax_u, g1]
  have mR : ∀ j, ¬ j = 10 * r + 1 → ¬ j = 10 * r + 4 → ¬ j = 10 * r + 5 → xr_lg M r u pw 184 j = M 184 j := fun j g1 g2 g3 => by simp [xr_lg, ax_u, g1, g2, g3]
  have hKF := sm_KF (C' := xc_lg1 C L u pw) (M' := xr_lg M r u pw) hps (fun q g j _ => by rw [co q (by omega)]) (funext fun j => mo 177 j (by omega)) (funext fun j => mo 178 j (by omega)) (funext fun j => mo 182 j (by omega)) (mo 176 7 (by omega)) hK hF
  have r0 : ∀ r', xr_lg M r u pw 184 (10 * r') = M 184 (10 * r') := fun r' => mR _ (by omega) (by omega) (by omega)
  have r2 : ∀ r', xr_lg M r u pw 184 (10 * r' + 2) = M 184 (10 * r' + 2) := fun r' => mR _ (by omega) (by omega) (by omega)
  have r8 : ∀ r', xr_lg M r u pw 184 (10 * r' + 8) = M 184 (10 * r' + 8) := fun r' => mR _ (by omega) (by omega) (by omega)
  refine ⟨⟨hKF.1, hKF.2, ⟨?_, ?_, fun p' hp' => ?_, fun p' hp' => ?_, ?_⟩⟩, ?_, sm_fr_of (fun q g1 g2 => co q (by omega)) (fun q j _ _ g1 _ _ _ => mo q j g1), r0⟩
  · have hmi : sm_Mi (xc_lg1 C (59 + 6 * p + i) u pw) (xr_lg M (4 * p + i) u pw) := by
      refine sm_Mi_row b1 hp hi (fun q g1 g2 g3 g4 g5 => ?_) (fun j g => ?_) (fun k hk => ?_)
      · rw [hLe] at g5 ⊢; exact co q g5
      · rw [hre] at g ⊢; exact mR j (by omega) (by omega) (by omega)
      · rw [hLe, hre]
        have h5 := mk k hk
        have hk' : k = 0 ∨ k = 1 ∨ k = 2 ∨ k = 3 ∨ k = 4 ∨ k = 5 ∨ k = 6 ∨ k = 7 ∨ k = 8 ∨ k = 9 := by omega
        rcases hk' with rfl | rfl | rfl | rfl | rfl | rfl | rfl | rfl | rfl | rfl <;> simp [xc_lg1, xr_lg, ax_u, sm_o] at h5 ⊢ <;> exact h5
    rw [hLe, hre] at hmi; exact hmi
  · rw [co 2 (by omega), mo 176 5 (by omega)]; exact b2
  · rw [co _ (by omega)]; exact b3 p' hp'
  · rw [co _ (by omega), mo 185 p' (by omega)]; exact b4 p' hp'
  · unfold sm_V xr_pg at b5 ⊢
    simp only [r0, r2]
    exact b5
  · unfold sm_W xr_pg at hW ⊢
    simp only [r0, r8, mo 176 5 (show ¬ 176 = 184 from by omega)]
    exact hW
/-- one line at a tick -/
theorem sm_ag (hps : kw_ps P) (hA : sm_A C P M n) (hp : p < 2) (hi : i < 4) (hW : sm_W M (4 * p + i)) :
    (∃ n', sm_A (xc_ag C P p (59 + 6 * p + i)) P (xr_ag M (4 * p + i)) n') ∧ sm_W (xr_ag M (4 * p + i)) (4 * p + i + 1) ∧ sm_fr C (xc_ag C P p (59 + 6 * p + i)) M (xr_ag M (4 * p + i)) ∧ (∀ x, xc_agn C (59 + 6 * p + i) x = xr_agn M (4 * p + i) x) := by
  obtain ⟨hK, hF, hL⟩ := hA
  have hL' := hL
  obtain ⟨b1, b2, b3, b4, b5⟩ := hL
  have m0 := sm_mi0 b1 hp hi
  have m8 := sm_mi8 b1 hp hi
  have m9 := sm_mi9 b1 hp hi
  have hpg : xc_pg C (59 + 6 * p + i) ↔ xr_pg M (4 * p + i) := by unfold xc_pg xr_pg; rw [m0]
  have hdue : xc_due C (59 + 6 * p + i) ↔ xr_due M (4 * p + i) := by
    unfold xc_due xr_due
    rw [hpg, b2, m9]
    constructor
    · rintro ⟨g1, g2⟩
      refine ⟨g1, ?_⟩
      obtain ⟨a, ha, hb⟩ := hW (4 * p + i) (by omega) g1
      rw [if_neg (by omega)] at ha
      rw [hb] at g2 ⊢
      have := (nI_leI (a := 5) (b := a) (by decide) (by omega)).mp g2
      rw [show a = 5 from by omega]; rfl
    · rintro ⟨g1, g2⟩
      exact ⟨g1, by rw [g2]; decide⟩
  have hagn : ∀ x, xc_agn C (59 + 6 * p + i) x = xr_agn M (4 * p + i) x := fun x => by
    unfold xc_agn xr_agn
    rw [m8]
    by_cases e : xr_due M (4 * p + i) ∧ M 184 (10 * (4 * p + i) + 9) < 3
    · rw [if_pos ⟨hdue.mpr e.1, e.2⟩, if_pos e]
    · rw [if_neg (fun g => e ⟨hdue.mp g.1, g.2⟩), if_neg e]
  unfold xc_ag xr_ag
  rw [m8]
  by_cases e : xr_due M (4 * p + i)
  · rw [if_pos (hdue.mpr e), if_pos e]
    by_cases e3 : M 184 (10 * (4 * p + i) + 9) < 3
    · rw [if_pos e3, if_pos e3]
      obtain ⟨k1, k2, k3, k4, k5, k6, k7⟩ := sm_sendFor hps hK hF hL' hp hi
      refine ⟨⟨_, k1, k2, k3⟩, ?_, sm_fr_of (fun q g1 g2 => k4 q g2 g1) (fun q j g0 g1 g2 g3 g4 _ => k5 q j g0 g1 g2 g4), hagn⟩
      refine sm_W_row hW hp hi (k5 176 5 (by omega) (by omega) (by omega) (by omega)) (fun j g => k6 j (by omega) (by omega)) (Or.inr ⟨rfl, rfl⟩) (fun _ => ⟨0, by omega, ?_⟩)
      rw [k7]; exact sm_sub0 _
    · rw [if_neg e3, if_neg e3]
      obtain ⟨k1, k2, k3, k4, k5, k6, k7⟩ := sm_give hps hK hF hL' hp hi
      refine ⟨⟨_, k1, k2, k3⟩, ?_, k4, hagn⟩
      refine sm_W_row hW hp hi k5 (fun j g => k6 j (by omega) (by omega)) (Or.inr ⟨rfl, rfl⟩) (fun g => ?_)
      exfalso
      unfold xr_pg at g
      rw [k7] at g
      rcases g with g | g <;> exact absurd g (by decide)
  · rw [if_neg (fun g => e (hdue.mp g)), if_neg e]
    refine ⟨⟨n, hK, hF, hL'⟩, ?_, sm_fr_refl, hagn⟩
    intro r hr g
    obtain ⟨a, ha, hb⟩ := hW r hr g
    refine ⟨a, ?_, hb⟩
    by_cases e2 : r = 4 * p + i
    · subst e2
      rw [if_pos (by omega)]
      rw [if_neg (by omega)] at ha
      have : ¬ a = 5 := fun e5 => e ⟨g, by rw [hb, e5]; rfl⟩
      omega
    · by_cases e3 : r < 4 * p + i
      · rw [if_pos e3] at ha; rw [if_pos (by omega)]; exact ha
      · rw [if_neg e3] at ha; rw [if_neg (by omega)]; exact ha
/-- the lines of a point at a tick -/
theorem sm_ags (hps : kw_ps P) (hp : p < 2) {f : Nat} : ∀ {i n : Nat} {C M : ax_I} {x : Int32}, i + f = 4 → sm_A C P M n → sm_W M (4 * p + i) →
    (∃ n', sm_A (xc_ags P p i f C) P (xr_tr (4 * p + i) f M) n') ∧ sm_W (xr_tr (4 * p + i) f M) (4 * p + 4) ∧ sm_fr C (xc_ags P p i f C) M (xr_tr (4 * p + i) f M) ∧ xc_agsn P p i f C x = xr_trn (4 * p + i) f M x := by
  induction f with
  | zero =>
    intro i n C M x hif hA hW
    exact ⟨⟨n, hA⟩, by rw [show 4 * p + i = 4 * p + 4 from by omega] at hW; exact hW, sm_fr_refl, rfl⟩
  | succ f ih =>
    intro i n C M x hif hA hW
    obtain ⟨⟨n', hA'⟩, hW', hfr, hn⟩ := sm_ag hps hA hp (i := i) (by omega) hW
    have := ih (i := i + 1) (x := xc_agn C (59 + 6 * p + i) x) (by omega) hA' hW'
    obtain ⟨g1, g2, g3, g4⟩ := this
    refine ⟨g1, g2, sm_fr_trans hfr g3, ?_⟩
    unfold xc_agsn xr_trn
    rw [← hn x]; exact g4
theorem xr_tr_app {f g : Nat} : ∀ {r : Nat} {M : ax_I}, xr_tr r (f + g) M = xr_tr (r + f) g (xr_tr r f M) := by
  induction f with
  | zero => intro r M; rw [Nat.zero_add]; rfl
  | succ f ih =>
    intro r M
    rw [show f + 1 + g = (f + g) + 1 from by omega]
    have := ih (r := r + 1) (M := xr_ag M r)
    rw [show r + 1 + f = r + (f + 1) from by omega] at this
    exact this
theorem xr_trn_app {f g : Nat} : ∀ {r : Nat} {M : ax_I} {x : Int32}, xr_trn r (f + g) M x = xr_trn (r + f) g (xr_tr r f M) (xr_trn r f M x) := by
  induction f with
  | zero => intro r M x; rw [Nat.zero_add]; rfl
  | succ f ih =>
    intro r M x
    rw [show f + 1 + g = (f + g) + 1 from by omega]
    have := ih (r := r + 1) (M := xr_ag M r) (x := xr_agn M r x)
    rw [show r + 1 + f = r + (f + 1) from by omega] at this
    exact this
theorem xr_trn_add {f : Nat} : ∀ {r : Nat} {M : ax_I} {x : Int32}, xr_trn r f M x = x + xr_trn r f M 0 := by
  induction f with
  | zero => intro r M x; show x = x + 0; rw [Int32.add_zero]
  | succ f ih =>
    intro r M x
    unfold xr_trn
    rw [ih (x := xr_agn M r x), ih (x := xr_agn M r 0)]
    unfold xr_agn
    split
    · rw [Int32.zero_add, Int32.add_assoc]
    · rw [Int32.zero_add]
/-- one tick -/
theorem sm_tick1 (hps : kw_ps P) (hA : sm_A C P M n) (hW : sm_W M 8) {x : Int32} :
    (∃ n', sm_A (xc_tp P 0 2 (xc_tk C)) P (xr_tr 0 8 (xr_tk M)) n') ∧ sm_W (xr_tr 0 8 (xr_tk M)) 8 ∧ sm_fr C (xc_tp P 0 2 (xc_tk C)) M (xr_tr 0 8 (xr_tk M)) ∧ xc_tpn P 0 2 (xc_tk C) x = xr_trn 0 8 (xr_tk M) x := by
  obtain ⟨hK, hF, hL⟩ := hA
  obtain ⟨b1, b2, b3, b4, b5⟩ := hL
  have co : ∀ q j, ¬ (q = 2 ∧ j = 4) → xc_tk C q j = C q j := fun q j g => by
    unfold xc_tk ax_u
    by_cases e : q = 2
    · have : ¬ j = 4 := fun x => g ⟨e, x⟩
      simp [e, this]
    · simp [e]
  have mo : ∀ q j, ¬ (q = 176 ∧ j = 5) → xr_tk M q j = M q j := fun q j g => by
    unfold xr_tk ax_u
    by_cases e : q = 176
    · have : ¬ j = 5 := fun x => g ⟨e, x⟩
      simp [e, this]
    · simp [e]
  have hKF := sm_KF (C' := xc_tk C) (M' := xr_tk M) hps (fun q g j g2 => co q j g2) (funext fun j => mo 177 j (by omega)) (funext fun j => mo 178 j (by omega)) (funext fun j => mo 182 j (by omega)) (mo 176 7 (by omega)) hK hF
  have h184 : xr_tk M 184 = M 184 := funext fun j => mo 184 j (by omega)
  have hL1 : sm_L (xc_tk C) (xr_tk M) := by
    refine ⟨fun p hp i hi k hk => ?_, ?_, fun p hp => ?_, fun p hp => ?_, ?_⟩
    · rw [co _ _ (by omega), h184]; exact b1 p hp i hi k hk
    · have e1 : xc_tk C 2 4 = C 2 4 + 1 := by simp [xc_tk, ax_u]
      have e2 : xr_tk M 176 5 = M 176 5 + 1 := by simp [xr_tk, ax_u]
      rw [e1, e2, b2]
    · rw [co _ _ (by omega)]; exact b3 p hp
    · rw [co _ _ (by omega), mo 185 p (by omega)]; exact b4 p hp
    · unfold sm_V xr_pg at b5 ⊢; rw [h184]; exact b5
  have hW1 : sm_W (xr_tk M) (4 * 0 + 0) := by
    intro r hr g
    unfold xr_pg at g
    rw [h184] at g
    obtain ⟨a, ha, hb⟩ := hW r hr g
    rw [if_pos hr] at ha
    refine ⟨a + 1, by rw [if_neg (by omega)]; omega, ?_⟩
    have e2 : xr_tk M 176 5 = M 176 5 + 1 := by simp [xr_tk, ax_u]
    rw [e2, h184, ← nI_1, ← hb]
    rw [Int32.sub_eq_add_neg, Int32.sub_eq_add_neg, Int32.add_assoc, Int32.add_assoc, Int32.add_comm 1]
  have hfr1 : sm_fr C (xc_tk C) M (xr_tk M) := sm_fr_of (fun q g1 g2 => funext fun j => co q j (by omega)) (fun q j _ _ _ _ _ g => mo q j g)
  obtain ⟨⟨n1, g1⟩, g2, g3, g4⟩ := sm_ags (p := 0) (f := 4) (i := 0) (x := 0) hps (by omega) (by omega) (show sm_A (xc_tk C) P (xr_tk M) n from ⟨hKF.1, hKF.2, hL1⟩) hW1
  obtain ⟨⟨n2, k1⟩, k2, k3, k4⟩ := sm_ags (p := 1) (f := 4) (i := 0) (x := 0) hps (by omega) (by omega) g1 g2
  refine ⟨⟨n2, ?_⟩, ?_, ?_, ?_⟩
  · rw [show (8 : Nat) = 4 + 4 from rfl, xr_tr_app]; exact k1
  · rw [show (8 : Nat) = 4 + 4 from rfl, xr_tr_app]; exact k2
  · rw [show (8 : Nat) = 4 + 4 from rfl, xr_tr_app]; exact sm_fr_trans hfr1 (sm_fr_trans g3 k3)
  · rw [show (8 : Nat) = 4 + 4 from rfl, xr_trn_app, xr_trn_add]
    show x + xc_agsn P 0 0 4 (xc_tk C) 0 + xc_agsn P 1 0 4 (xc_ags P 0 0 4 (xc_tk C)) 0 = _
    rw [g4, k4, xr_trn_add (x := x)]
theorem sm_tick (hps : kw_ps P) {f : Nat} : ∀ {n : Nat} {C M : ax_I} {x : Int32}, sm_A C P M n → sm_W M 8 →
    (∃ n', sm_A (xc_tt P f C) P (xr_tt f M) n') ∧ sm_W (xr_tt f M) 8 ∧ sm_fr C (xc_tt P f C) M (xr_tt f M) ∧ xc_ttn P f C x = xr_ttn f M x := by
  induction f with
  | zero => intro n C M x hA hW; exact ⟨⟨n, hA⟩, hW, sm_fr_refl, rfl⟩
  | succ f ih =>
    intro n C M x hA hW
    obtain ⟨⟨n', hA'⟩, hW', hfr, hn⟩ := sm_tick1 hps hA hW (x := x)
    obtain ⟨g1, g2, g3, g4⟩ := ih (x := xc_tpn P 0 2 (xc_tk C) x) hA' hW'
    refine ⟨g1, g2, sm_fr_trans hfr g3, ?_⟩
    unfold xc_ttn xr_ttn
    rw [← hn]; exact g4
end SMQ
