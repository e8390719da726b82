/-! CLASS AGAINST REFERENCE, the lines of the points. -/
def sm_o (k : Nat) : Nat := if k = 8 then 9 else if k = 9 then 8 else k
theorem sm_o_lt {k : Nat} (h : k < 10) : sm_o k < 10 := by unfold sm_o; split <;> (try split) <;> omega
/-- every line stands in its row -/
abbrev sm_Mi (C M : ax_I) : Prop := ∀ p, p < 2 → ∀ i, i < 4 → ∀ k, k < 10 → C (59 + 6 * p + i) k = M 184 (10 * (4 * p + i) + sm_o k)
/-- states, and that two pending lines of a point have two ids -/
def sm_V (M : ax_I) : Prop := (∀ r, r < 8 → M 184 (10 * r) = 0 ∨ M 184 (10 * r) = 1 ∨ M 184 (10 * r) = 2 ∨ M 184 (10 * r) = 3) ∧ (∀ p, p < 2 → ∀ i, i < 4 → ∀ j, j < 4 → xr_pg M (4 * p + i) → xr_pg M (4 * p + j) → M 184 (10 * (4 * p + i) + 2) = M 184 (10 * (4 * p + j) + 2) → i = j)
abbrev sm_Id (C M : ax_I) : Prop := ∀ p, p < 2 → ∃ a, a < 8 ∧ M 185 p = nI a ∧ (C (57 + 6 * p) 2 = nI a ∨ (a = 7 ∧ C (57 + 6 * p) 2 = -1))
/-- how long pending lines have waited: rows below t at most 4, the others at most 5 -/
def sm_W (M : ax_I) (t : Nat) : Prop := ∀ r, r < 8 → xr_pg M r → ∃ a, a ≤ (if r < t then 4 else 5) ∧ M 176 5 - M 184 (10 * r + 8) = nI a
def sm_L (C M : ax_I) : Prop := sm_Mi C M ∧ C 2 4 = M 176 5 ∧ (∀ p, p < 2 → C (57 + 6 * p) 0 = nI p) ∧ sm_Id C M ∧ sm_V M
section SML
variable {C C' M M' : ax_I} {P : ax_P} {n p i t : Nat}
theorem sm_mi0 (h : sm_Mi C M) (hp : p < 2) (hi : i < 4) : C (59 + 6 * p + i) 0 = M 184 (10 * (4 * p + i)) := h p hp i hi 0 (by omega)
theorem sm_mi (h : sm_Mi C M) (hp : p < 2) (hi : i < 4) {k : Nat} (hk : k < 8) : C (59 + 6 * p + i) k = M 184 (10 * (4 * p + i) + k) := by
  have := h p hp i hi k (by omega)
  rw [show sm_o k = k from by unfold sm_o; rw [if_neg (by omega), if_neg (by omega)]] at this
  exact this
theorem sm_mi8 (h : sm_Mi C M) (hp : p < 2) (hi : i < 4) : C (59 + 6 * p + i) 8 = M 184 (10 * (4 * p + i) + 9) := h p hp i hi 8 (by omega)
theorem sm_mi9 (h : sm_Mi C M) (hp : p < 2) (hi : i < 4) : C (59 + 6 * p + i) 9 = M 184 (10 * (4 * p + i) + 8) := h p hp i hi 9 (by omega)
/-- one line's row is changed on both sides alike -/
theorem sm_Mi_row (h : sm_Mi C M) (hp : p < 2) (hi : i < 4) (hC : ∀ q, 59 ≤ q → q ≤ 68 → ¬ q = 63 → ¬ q = 64 → ¬ q = 59 + 6 * p + i → C' q = C q) (hM : ∀ j, ¬ (10 * (4 * p + i) ≤ j ∧ j < 10 * (4 * p + i) + 10) → M' 184 j = M 184 j) (hr : ∀ k, k < 10 → C' (59 + 6 * p + i) k = M' 184 (10 * (4 * p + i) + sm_o k)) : sm_Mi C' M' := by
  intro p' hp' i' hi' k hk
  by_cases e : p' = p ∧ i' = i
  · obtain ⟨rfl, rfl⟩ := e
    exact hr k hk
  · have ho := sm_o_lt hk
    rw [hC (59 + 6 * p' + i') (by omega) (by omega) (by omega) (by omega) (by omega), hM _ (by omega)]
    exact h p' hp' i' hi' k hk
theorem sm_V_row (h : sm_V M) (hp : p < 2) (hi : i < 4) (hM : ∀ j, ¬ (10 * (4 * p + i) ≤ j ∧ j < 10 * (4 * p + i) + 10) → M' 184 j = M 184 j) (h0 : M' 184 (10 * (4 * p + i)) = 0 ∨ M' 184 (10 * (4 * p + i)) = 1 ∨ M' 184 (10 * (4 * p + i)) = 2 ∨ M' 184 (10 * (4 * p + i)) = 3)
    (hd : xr_pg M' (4 * p + i) → ∀ j, j < 4 → ¬ j = i → xr_pg M (4 * p + j) → ¬ M 184 (10 * (4 * p + j) + 2) = M' 184 (10 * (4 * p + i) + 2)) : sm_V M' := by
  refine ⟨fun r hr => ?_, fun p' hp' i' hi' j' hj' g1 g2 he => ?_⟩
  · by_cases e : r = 4 * p + i
    · rw [e]; exact h0
    · rw [hM _ (by omega)]; exact h.1 r hr
  · by_cases e1 : p' = p ∧ i' = i
    · obtain ⟨rfl, rfl⟩ := e1
      by_cases e2 : j' = i'
      · exact e2.symm
      · exfalso
        have g3 : xr_pg M (4 * p' + j') := by
          unfold xr_pg at g2 ⊢
          rw [hM _ (by omega)] at g2; exact g2
        rw [hM (10 * (4 * p' + j') + 2) (by omega)] at he
        exact hd g1 j' hj' e2 g3 he.symm
    · by_cases e2 : p' = p ∧ j' = i
      · obtain ⟨rfl, rfl⟩ := e2
        exfalso
        have e3 : ¬ i' = j' := fun x => e1 ⟨rfl, x⟩
        have g3 : xr_pg M (4 * p' + i') := by
          unfold xr_pg at g1 ⊢
          rw [hM _ (by omega)] at g1; exact g1
        rw [hM (10 * (4 * p' + i') + 2) (by omega)] at he
        exact hd g2 i' hi' e3 g3 he
      · have g3 : xr_pg M (4 * p' + i') := by
          unfold xr_pg at g1 ⊢
          rw [hM _ (by omega)] at g1; exact g1
        have g4 : xr_pg M (4 * p' + j') := by
          unfold xr_pg at g2 ⊢
          rw [hM _ (by omega)] at g2; exact g2
        rw [hM (10 * (4 * p' + i') + 2) (by omega), hM (10 * (4 * p' + j') + 2) (by omega)] at he
        exact h.2 p' hp' i' hi' j' hj' g3 g4 he
theorem sm_W_row (h : sm_W M t) (hp : p < 2) (hi : i < 4) (hc : M' 176 5 = M 176 5) (hM : ∀ j, ¬ (10 * (4 * p + i) ≤ j ∧ j < 10 * (4 * p + i) + 10) → M' 184 j = M 184 j) {t' : Nat} (ht : t' = t ∨ (t = 4 * p + i ∧ t' = t + 1))
    (hw : xr_pg M' (4 * p + i) → ∃ a, a ≤ 4 ∧ M 176 5 - M' 184 (10 * (4 * p + i) + 8) = nI a) : sm_W M' t' := by
  intro r hr g
  rw [hc]
  by_cases e : r = 4 * p + i
  · subst e
    obtain ⟨a, ha, hb⟩ := hw g
    exact ⟨a, by split <;> omega, hb⟩
  · have g3 : xr_pg M r := by
      unfold xr_pg at g ⊢
      rw [hM _ (by omega)] at g; exact g
    obtain ⟨a, ha, hb⟩ := h r hr g3
    rw [hM _ (by omega)]
    refine ⟨a, ?_, hb⟩
    rcases ht with rfl | ⟨h1, h2⟩
    · exact ha
    · by_cases e2 : r < t
      · rw [if_pos e2] at ha; rw [if_pos (by omega)]; exact ha
      · rw [if_neg e2] at ha; rw [if_neg (by omega)]; exact ha
/-- what lines do not speak of may change -/
theorem sm_L_fr (hC : ∀ q, 57 ≤ q → q ≤ 68 → C' q = C q) (h24 : C' 2 4 = C 2 4) (h184 : M' 184 = M 184) (h185 : M' 185 = M 185) (h5 : M' 176 5 = M 176 5) (h : sm_L C M) : sm_L C' M' := by
  obtain ⟨a1, a2, a3, a4, a5⟩ := h
  refine ⟨fun p hp i hi k hk => ?_, ?_, fun p hp => ?_, fun p hp => ?_, ?_⟩
  · rw [hC _ (by omega) (by omega), h184]; exact a1 p hp i hi k hk
  · rw [h24, h5]; exact a2
  · rw [hC _ (by omega) (by omega)]; exact a3 p hp
  · rw [hC _ (by omega) (by omega), h185]; exact a4 p hp
  · unfold sm_V xr_pg at a5 ⊢; rw [h184]; exact a5
theorem sm_W_fr (h184 : M' 184 = M 184) (h5 : M' 176 5 = M 176 5) (h : sm_W M t) : sm_W M' t := by
  unfold sm_W xr_pg at h ⊢; rw [h184, h5]; exact h
theorem sm_K_fr (h3 : C' 3 = C 3) (h4 : C' 4 = C 4) (h5 : M' 177 = M 177) (h6 : M' 178 = M 178) (h : sm_K C M) : sm_K C' M' := by
  unfold sm_K at h ⊢; rw [h3, h4, h5, h6]; exact h
theorem sm_near (hp : p < 2) : xr_key M (nI p) 2 = M 177 p := by
  rcases p with _ | _ | p
  · rfl
  · rfl
  · omega
theorem sm_stp (hp : p < 2) : sm_st (nI p) 2 := by
  rcases p with _ | _ | p
  · exact Or.inl ⟨rfl, Or.inl rfl⟩
  · exact Or.inl ⟨rfl, Or.inr (Or.inl rfl)⟩
  · omega
/-- a line sends: flight and lines stay alike; its waiting is 0 -/
theorem sm_sendFor (hps : kw_ps P) (hK : sm_K C M) (hF : sm_F C P M n) (hL : sm_L C M) (hp : p < 2) (hi : i < 4) :
    sm_K (xc_sendFor C P p (59 + 6 * p + i)) (xr_sl M (4 * p + i)) ∧ sm_F (xc_sendFor C P p (59 + 6 * p + i)) P (xr_sl M (4 * p + i)) (if n < 24 then n + 1 else n) ∧ sm_L (xc_sendFor C P p (59 + 6 * p + i)) (xr_sl M (4 * p + i))
    ∧ (∀ q, q < 176 → 69 ≤ q → xc_sendFor C P p (59 + 6 * p + i) q = C q) ∧ (∀ q j, 176 ≤ q → ¬ q = 182 → ¬ q = 184 → ¬ (q = 176 ∧ j = 7) → xr_sl M (4 * p + i) q j = M q j)
    ∧ (∀ j, ¬ j = 10 * (4 * p + i) + 8 → ¬ j = 10 * (4 * p + i) + 9 → xr_sl M (4 * p + i) 184 j = M 184 j) ∧ xr_sl M (4 * p + i) 184 (10 * (4 * p + i) + 8) = M 176 5 := by
  obtain ⟨b1, b2, b3, b4, b5⟩ := hL
  generalize hLe : 59 + 6 * p + i = L
  generalize hre : 4 * p + i = r
  have hL1 : 59 ≤ L := by omega
  have hL2 : L ≤ 68 := by omega
  have hr8 : r < 8 := by omega
  have hrp : r / 4 = p := by omega
  have m0 : C L 0 = M 184 (10 * r) := by have := sm_mi0 b1 hp hi; rw [hLe, hre] at this; exact this
  have mk : ∀ k, k < 8 → C L k = M 184 (10 * r + k) := fun k hk => by have := sm_mi b1 hp hi hk; rw [hLe, hre] at this; exact this
  have m8 : C L 8 = M 184 (10 * r + 9) := by have := sm_mi8 b1 hp hi; rw [hLe, hre] at this; exact this
  have f1o : ∀ q, ¬ q = L → xc_sf1 C L q = C q := fun q hq => by funext j; simp [xc_sf1, ax_u, hq]
  have f1k : ∀ k, k < 8 → xc_sf1 C L L k = C L k := fun k hk => by
    have g8 : ¬ k = 8 := by omega
    have g9 : ¬ k = 9 := by omega
    simp [xc_sf1, ax_u, g8, g9]
  have hK1 : sm_K (xc_sf1 C L) M := sm_K_fr (f1o 3 (by omega)) (f1o 4 (by omega)) rfl rfl hK
  have hF1 : sm_F (xc_sf1 C L) P M n := sm_F_fr hps (fun d h1 h2 => f1o d (by omega)) (by rw [f1o 2 (by omega)]) rfl rfl hF
  have hst : (xc_sf1 C L) (57 + 6 * p) 0 = nI p := by rw [f1o _ (by omega)]; exact b3 p hp
  -- both send the same datagram
  have hsd : ∃ kind x, xc_sf2 (xc_sf1 C L) P p L = xc_snd (xc_sf1 C L) P (nI p) 2 kind (M 184 (10 * r + 2)) (M 184 (10 * r + 3)) (M 184 (10 * r + 4)) x ∧ xr_sl1 M r = xr_snd M (nI p) 2 kind (M 184 (10 * r + 2)) (M 184 (10 * r + 3)) (M 184 (10 * r + 4)) x := by
    unfold xc_sf2 xr_sl1
    rw [hst, f1k 0 (by omega), f1k 2 (by omega), f1k 3 (by omega), f1k 4 (by omega), f1k 5 (by omega), f1k 6 (by omega), m0, mk 2 (by omega), mk 3 (by omega), mk 4 (by omega), mk 5 (by omega), mk 6 (by omega), hrp, sm_key hK1 (sm_stp hp), sm_near hp]
    by_cases e : M 184 (10 * r) = 1
    · rw [if_pos e, if_pos e]; exact ⟨_, _, rfl, rfl⟩
    · rw [if_neg e, if_neg e]; exact ⟨_, _, rfl, rfl⟩
  obtain ⟨kind, x, h1, h2⟩ := hsd
  have hF2 := sm_send hps hK1 hF1 (sm_stp hp) (kind := kind) (id := M 184 (10 * r + 2)) (x := M 184 (10 * r + 3)) (a := M 184 (10 * r + 4)) (b := x)
  have hC2 : ∀ q, ¬ q = 2 → (q < 6 ∨ 56 ≤ q) → xc_sendFor C P p L q = xc_sf1 C L q := fun q g1 g2 => by
    unfold xc_sendFor; rw [h1]; exact xc_snd_o hps g1 g2
  have hM2 : ∀ q j, ¬ q = 182 → ¬ (q = 176 ∧ j = 7) → xr_sl1 M r q j = M q j := fun q j g1 g2 => by rw [h2]; exact xr_snd_o g1 g2
  have s2o : ∀ q j, ¬ q = 184 → xr_sl M r q j = xr_sl1 M r q j := fun q j g => by simp [xr_sl, xr_sl2, ax_u, g]
  have s184 : ∀ j, ¬ j = 10 * r + 8 → ¬ j = 10 * r + 9 → xr_sl M r 184 j = M 184 j := fun j g1 g2 => by
    have : xr_sl M r 184 j = xr_sl1 M r 184 j := by simp [xr_sl, xr_sl2, ax_u, g1, g2]
    rw [this]; exact hM2 184 j (by omega) (by omega)
  have s8 : xr_sl M r 184 (10 * r + 8) = M 176 5 := by
    have : xr_sl M r 184 (10 * r + 8) = xr_sl1 M r 176 5 := by simp [xr_sl, xr_sl2, ax_u]
    rw [this]; exact hM2 176 5 (by omega) (by omega)
  have s9 : xr_sl M r 184 (10 * r + 9) = M 184 (10 * r + 9) + 1 := by
    have : xr_sl M r 184 (10 * r + 9) = xr_sl1 M r 184 (10 * r + 9) + 1 := by simp [xr_sl, xr_sl2, ax_u]
    rw [this, hM2 184 _ (by omega) (by omega)]
  have c24 : xc_sendFor C P p L 2 4 = C 2 4 := by
    have g1 : xc_sf1 C L 2 4 = C 2 4 := by rw [f1o 2 (by omega)]
    unfold xc_sendFor
    rw [h1, ← g1]
    unfold xc_snd
    split
    · have hd := kp_fd hps (i := xc_n (xc_sf1 C L)) (by assumption)
      have d1 := hd.2.1
      have e2 : ¬ 2 = P 5 (xc_n (xc_sf1 C L)) + 1 := by omega
      simp [xc_send, ax_u, e2]
    · rfl
  refine ⟨?_, ?_, ⟨?_, ?_, ?_, ?_, ?_⟩, ?_, ?_, s184, s8⟩
  · exact sm_K_fr ((hC2 3 (by omega) (by omega)).trans (f1o 3 (by omega))) ((hC2 4 (by omega) (by omega)).trans (f1o 4 (by omega))) (by funext j; rw [s2o 177 j (by omega), hM2 177 j (by omega) (by omega)]) (by funext j; rw [s2o 178 j (by omega), hM2 178 j (by omega) (by omega)]) hK
  · have e : xc_sendFor C P p L = xc_snd (xc_sf1 C L) P (nI p) 2 kind (M 184 (10 * r + 2)) (M 184 (10 * r + 3)) (M 184 (10 * r + 4)) x := h1
    rw [← e, ← h2] at hF2
    exact sm_F_fr hps (fun d g1 g2 => rfl) rfl (by funext j; exact s2o 182 j (by omega)) (s2o 176 7 (by omega)) hF2
  · have hmi : sm_Mi (xc_sendFor C P p (59 + 6 * p + i)) (xr_sl M (4 * p + i)) := by
      refine sm_Mi_row b1 hp hi (fun q g1 g2 g3 g4 g5 => ?_) (fun j g => ?_) (fun k hk => ?_)
      · rw [hLe] at g5 ⊢
        exact (hC2 q (by omega) (by omega)).trans (f1o q g5)
      · rw [hre] at g ⊢
        exact s184 j (by omega) (by omega)
      · rw [hLe, hre, hC2 L (by omega) (by omega)]
        by_cases k8 : k = 8
        · subst k8
          rw [show sm_o 8 = 9 from rfl, s9, ← m8]
          simp [xc_sf1, ax_u]
        · by_cases k9 : k = 9
          · subst k9
            rw [show sm_o 9 = 8 from rfl, s8, ← b2]
            simp [xc_sf1, ax_u, show ¬ 2 = L from by omega]
          · have : sm_o k = k := by unfold sm_o; rw [if_neg k8, if_neg k9]
            rw [this, f1k k (by omega), s184 _ (by omega) (by omega)]
            exact mk k (by omega)
    rw [hLe, hre] at hmi
    exact hmi
  · rw [c24, s2o 176 5 (by omega), hM2 176 5 (by omega) (by omega)]; exact b2
  · intro p' hp'
    rw [hC2 _ (by omega) (by omega), f1o _ (by omega)]; exact b3 p' hp'
  · intro p' hp'
    rw [hC2 _ (by omega) (by omega), f1o _ (by omega), s2o 185 p' (by omega), hM2 185 p' (by omega) (by omega)]; exact b4 p' hp'
  · refine ⟨fun r' hr' => ?_, fun p' hp' i' hi' j' hj' g1 g2 he => ?_⟩
    · rw [s184 _ (by omega) (by omega)]; exact b5.1 r' hr'
    · unfold xr_pg at g1 g2
      rw [s184 _ (by omega) (by omega)] at g1 g2
      rw [s184 _ (by omega) (by omega), s184 _ (by omega) (by omega)] at he
      exact b5.2 p' hp' i' hi' j' hj' g1 g2 he
  · intro q g1 g2
    rw [hC2 q (by omega) (by omega)]; exact f1o q (by omega)
  · intro q j g1 g2 g3 g4
    rw [s2o q j g3]; exact hM2 q j g2 g4
end SML
