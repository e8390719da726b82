/-! CLASS AGAINST REFERENCE, the flight: sm_K the keys, sm_F the datagrams in flight. Pure rows: no machine. -/
abbrev sm_K (C M : ax_I) : Prop := ∀ j, j < 4 → C 3 j = M 177 j ∧ C 4 j = M 178 j
/-- sender and receiver of a datagram -/
abbrev sm_st (s r : Int32) : Prop := (r = 2 ∧ (s = 0 ∨ s = 1 ∨ s = 3 ∨ s = 4)) ∨ (s = 2 ∧ (r = 0 ∨ r = 1 ∨ r = 3 ∨ r = 4))
theorem sm_st_sym {s r : Int32} (h : sm_st s r) : sm_st r s := by
  rcases h with h | h
  · exact Or.inr h
  · exact Or.inl h
theorem sm_lk {s r : Int32} (h : sm_st s r) : xr_lk s r := by
  rcases h with ⟨rfl, rfl | rfl | rfl | rfl⟩ | ⟨rfl, rfl | rfl | rfl | rfl⟩ <;> (unfold xr_lk vp_in; decide)
theorem sm_key {C M : ax_I} (hK : sm_K C M) {s r : Int32} (h : sm_st s r) : xc_key C s r = xr_key M s r := by
  have k0 := hK 0 (by omega)
  have k1 := hK 1 (by omega)
  have k2 := hK 2 (by omega)
  have k3 := hK 3 (by omega)
  rcases h with ⟨rfl, rfl | rfl | rfl | rfl⟩ | ⟨rfl, rfl | rfl | rfl | rfl⟩
  · exact k0.1
  · exact k1.1
  · exact k2.2
  · exact k3.2
  · exact k0.2
  · exact k1.2
  · exact k2.1
  · exact k3.1
/-- the flight of both, n datagrams -/
def sm_F (C : ax_I) (P : ax_P) (M : ax_I) (n : Nat) : Prop :=
  n ≤ 24 ∧ C 2 3 = nI n ∧ M 176 7 = nI n ∧ (∀ i, i < 24 → ∀ j, j < 24 → P 5 i = P 5 j → i = j) ∧ (∀ i, i < 24 → ¬ P 5 i = P 2 5)
  ∧ (∀ i, i < n → ∀ f, f < 8 → C (P 5 i + 1) f = M 182 (8 * i + f)) ∧ (∀ i, i < n → sm_st (M 182 (8 * i + 6)) (M 182 (8 * i + 7)))
section SMF
variable {C C' M M' : ax_I} {P : ax_P} {n : Nat}
theorem sm_F_nok (h : sm_F C P M n) : xc_nok C ∧ xc_n C = n := by
  have e : xc_n C = n := by unfold xc_n; rw [h.2.1, nI_clamp (by have := h.1; omega)]
  exact ⟨xc_nok_of h.2.1 h.1, e⟩
theorem sm_F_rok (h : sm_F C P M n) : xr_nok M ∧ xr_n M = n := by
  have e : xr_n M = n := by unfold xr_n; rw [h.2.2.1, nI_clamp (by have := h.1; omega)]
  exact ⟨xr_nok_of h.2.2.1 h.1, e⟩
/-- what the flight does not speak of may change -/
theorem sm_F_fr (hps : kw_ps P) (hC : ∀ d, 6 ≤ d → d ≤ 55 → C' d = C d) (h23 : C' 2 3 = C 2 3) (hM : M' 182 = M 182) (h7 : M' 176 7 = M 176 7) (h : sm_F C P M n) : sm_F C' P M' n := by
  obtain ⟨a1, a2, a3, a4, a5, a6, a7⟩ := h
  refine ⟨a1, h23.trans a2, h7.trans a3, a4, a5, fun i hi f hf => ?_, fun i hi => ?_⟩
  · have hd := kp_fd hps (i := i) (by omega)
    have h1 := hd.2.1
    have h2 := hd.2.2
    rw [hC _ (by omega) (by omega), hM]; exact a6 i hi f hf
  · rw [hM]; exact a7 i hi
theorem sm_send_n (hps : kw_ps P) (hK : sm_K C M) (hF : sm_F C P M n) {s r kind id x a b : Int32} (hs : sm_st s r) (hn : n < 24) : sm_F (xc_send C P n s r kind id x a b) P (xr_put M n s r kind id x a b) (n + 1) := by
  obtain ⟨a1, a2, a3, a4, a5, a6, a7⟩ := hF
  have hk := sm_key hK hs
  have hdn := kp_fd hps (i := n) hn
  have d1 := hdn.2.1
  have e2 : ¬ 2 = P 5 n + 1 := by omega
  refine ⟨by omega, by simp [xc_send, ax_u, e2], by simp [xr_put, ax_u], a4, a5, fun i hi f hf => ?_, fun i hi => ?_⟩
  · by_cases e : i = n
    · subst e
      have hf' : f = 0 ∨ f = 1 ∨ f = 2 ∨ f = 3 ∨ f = 4 ∨ f = 5 ∨ f = 6 ∨ f = 7 := by omega
      rcases hf' with rfl | rfl | rfl | rfl | rfl | rfl | rfl | rfl <;> simp [xc_send, xr_put, ax_u, hk]
    · have hne : ¬ P 5 i + 1 = P 5 n + 1 := fun h => e (a4 i (by omega) n hn (by omega))
      have hd := kp_fd hps (i := i) (by omega)
      have d2 := hd.2.1
      have e3 : ¬ P 5 i + 1 = 2 := by omega
      have h1 : xc_send C P n s r kind id x a b (P 5 i + 1) f = C (P 5 i + 1) f := by
        have hne0 : ¬ P 5 i = P 5 n := fun h => e (a4 i (by omega) n hn h)
        have e4 : ¬ P 5 i = 1 := by omega
        simp [xc_send, ax_u, hne0, e4]
      have g0 : ¬ 8 * i + f = 8 * n := by omega
      have g1 : ¬ 8 * i + f = 8 * n + 1 := by omega
      have g2 : ¬ 8 * i + f = 8 * n + 2 := by omega
      have g3 : ¬ 8 * i + f = 8 * n + 3 := by omega
      have g4 : ¬ 8 * i + f = 8 * n + 4 := by omega
      have g5 : ¬ 8 * i + f = 8 * n + 5 := by omega
      have g6 : ¬ 8 * i + f = 8 * n + 6 := by omega
      have g7 : ¬ 8 * i + f = 8 * n + 7 := by omega
      have h2 : xr_put M n s r kind id x a b 182 (8 * i + f) = M 182 (8 * i + f) := by simp [xr_put, ax_u, g0, g1, g2, g3, g4, g5, g6, g7]
      rw [h1, h2]; exact a6 i (by omega) f hf
  · by_cases e : i = n
    · subst e
      have h6 : xr_put M i s r kind id x a b 182 (8 * i + 6) = s := by simp [xr_put, ax_u]
      have h7 : xr_put M i s r kind id x a b 182 (8 * i + 7) = r := by simp [xr_put, ax_u]
      rw [h6, h7]; exact hs
    · have h2 : ∀ f, f < 8 → xr_put M n s r kind id x a b 182 (8 * i + f) = M 182 (8 * i + f) := fun f hf => by
        have g0 : ¬ 8 * i + f = 8 * n := by omega
        have g1 : ¬ 8 * i + f = 8 * n + 1 := by omega
        have g2 : ¬ 8 * i + f = 8 * n + 2 := by omega
        have g3 : ¬ 8 * i + f = 8 * n + 3 := by omega
        have g4 : ¬ 8 * i + f = 8 * n + 4 := by omega
        have g5 : ¬ 8 * i + f = 8 * n + 5 := by omega
        have g6 : ¬ 8 * i + f = 8 * n + 6 := by omega
        have g7 : ¬ 8 * i + f = 8 * n + 7 := by omega
        simp [xr_put, ax_u, g0, g1, g2, g3, g4, g5, g6, g7]
      rw [h2 6 (by omega), h2 7 (by omega)]; exact a7 i (by omega)
/-- both send the same -/
theorem sm_send (hps : kw_ps P) (hK : sm_K C M) (hF : sm_F C P M n) {s r kind id x a b : Int32} (hs : sm_st s r) : sm_F (xc_snd C P s r kind id x a b) P (xr_snd M s r kind id x a b) (if n < 24 then n + 1 else n) := by
  obtain ⟨-, e1⟩ := sm_F_nok hF
  obtain ⟨-, e2⟩ := sm_F_rok hF
  unfold xc_snd xr_snd
  rw [e1, e2]
  by_cases h : n < 24
  · rw [if_pos h, if_pos h, if_pos h]; exact sm_send_n hps hK hF hs h
  · rw [if_neg h, if_neg h, if_neg h]; exact hF
/-- one is taken out -/
theorem sm_take (hps : kw_ps P) (hF : sm_F C P M n) {kk : Nat} (hkn : kk < n) : sm_F (ax_u C 2 3 (nI (n - 1))) (xc_take P kk n) (xr_take M kk n) (n - 1) := by
  obtain ⟨a1, a2, a3, a4, a5, a6, a7⟩ := hF
  have tk : ∀ i, xc_take P kk n 5 i = if i = n - 1 then P 2 5 else if kk ≤ i ∧ i < n - 1 then P 5 (i + 1) else P 5 i := fun i => by
    by_cases e : i = n - 1
    · simp [xc_take, e]
    · simp [xc_take, xc_ti, e]
  have t2 : xc_take P kk n 2 5 = P 5 kk := by simp [xc_take, xc_ti]
  have rt : ∀ i f, f < 8 → i < n - 1 → xr_take M kk n 182 (8 * i + f) = if kk ≤ i then M 182 (8 * (i + 1) + f) else M 182 (8 * i + f) := fun i f hf hi => by
    by_cases e : kk ≤ i
    · have g : 8 * kk ≤ 8 * i + f ∧ 8 * i + f < 8 * n - 8 := by omega
      rw [if_pos e, show 8 * (i + 1) + f = 8 * i + f + 8 from by omega]
      simp [xr_take, xr_ti, ax_u, g]
    · have g : ¬ (8 * kk ≤ 8 * i + f ∧ 8 * i + f < 8 * n - 8) := by omega
      rw [if_neg e]
      simp only [xr_take, xr_ti, ax_u]
      simp [g]
  refine ⟨by omega, ax_u_at, by simp [xr_take, ax_u], ?_, ?_, ?_, ?_⟩
  · intro i hi j hj h
    rw [tk, tk] at h
    by_cases e1 : i = n - 1
    · by_cases e2 : j = n - 1
      · omega
      · rw [if_pos e1, if_neg e2] at h
        exfalso
        by_cases e3 : kk ≤ j ∧ j < n - 1
        · rw [if_pos e3] at h; exact a5 (j + 1) (by omega) h.symm
        · rw [if_neg e3] at h; exact a5 j hj h.symm
    · by_cases e2 : j = n - 1
      · rw [if_neg e1, if_pos e2] at h
        exfalso
        by_cases e3 : kk ≤ i ∧ i < n - 1
        · rw [if_pos e3] at h; exact a5 (i + 1) (by omega) h
        · rw [if_neg e3] at h; exact a5 i hi h
      · rw [if_neg e1, if_neg e2] at h
        by_cases e3 : kk ≤ i ∧ i < n - 1 <;> by_cases e4 : kk ≤ j ∧ j < n - 1
        · rw [if_pos e3, if_pos e4] at h
          have := a4 (i + 1) (by omega) (j + 1) (by omega) h
          omega
        · rw [if_pos e3, if_neg e4] at h
          have := a4 (i + 1) (by omega) j hj h
          omega
        · rw [if_neg e3, if_pos e4] at h
          have := a4 i hi (j + 1) (by omega) h
          omega
        · rw [if_neg e3, if_neg e4] at h
          exact a4 i hi j hj h
  · intro i hi h
    rw [tk, t2] at h
    by_cases e1 : i = n - 1
    · rw [if_pos e1] at h; exact a5 kk (by omega) h.symm
    · rw [if_neg e1] at h
      by_cases e3 : kk ≤ i ∧ i < n - 1
      · rw [if_pos e3] at h
        have := a4 (i + 1) (by omega) kk (by omega) h
        omega
      · rw [if_neg e3] at h
        have := a4 i hi kk (by omega) h
        omega
  · intro i hi f hf
    rw [tk, if_neg (by omega), rt i f hf hi]
    by_cases e : kk ≤ i
    · rw [if_pos ⟨e, hi⟩, if_pos e]
      have hd := kp_fd hps (i := i + 1) (by omega)
      have d1 := hd.2.1
      rw [ax_u_n (by omega)]
      exact a6 (i + 1) (by omega) f hf
    · rw [if_neg (by omega), if_neg e]
      have hd := kp_fd hps (i := i) (by omega)
      have d1 := hd.2.1
      rw [ax_u_n (by omega)]
      exact a6 i (by omega) f hf
  · intro i hi
    rw [rt i 6 (by omega) hi, rt i 7 (by omega) hi]
    by_cases e : kk ≤ i
    · rw [if_pos e, if_pos e]; exact a7 (i + 1) (by omega)
    · rw [if_neg e, if_neg e]; exact a7 i (by omega)
/-- one is put in once more -/
theorem sm_copy (hps : kw_ps P) (hF : sm_F C P M n) {kk : Nat} (hkn : kk < n) (hn : n < 24) : sm_F (xc_copy1 C P kk n) P (ax_u (xr_cp M kk n 8) 176 7 (nI (n + 1))) (n + 1) := by
  obtain ⟨a1, a2, a3, a4, a5, a6, a7⟩ := hF
  have hdn := kp_fd hps (i := n) hn
  have d1 := hdn.2.1
  have e2 : ¬ 2 = P 5 n + 1 := by omega
  have cp : ∀ i f, f < 8 → i < n → ax_u (xr_cp M kk n 8) 176 7 (nI (n + 1)) 182 (8 * i + f) = M 182 (8 * i + f) := fun i f hf hi => by
    have g : ¬ (8 * n ≤ 8 * i + f ∧ 8 * i + f < 8 * n + 8) := by omega
    rw [ax_u_n (by omega)]
    unfold xr_cp
    rw [if_neg (by omega)]
  have cn : ∀ f, f < 8 → ax_u (xr_cp M kk n 8) 176 7 (nI (n + 1)) 182 (8 * n + f) = M 182 (8 * kk + f) := fun f hf => by
    rw [ax_u_n (by omega)]
    unfold xr_cp
    rw [if_pos (by omega), show 8 * n + f - 8 * n = f from by omega]
  refine ⟨by omega, by simp [xc_copy1, ax_u], ax_u_at, a4, a5, fun i hi f hf => ?_, fun i hi => ?_⟩
  · have hd := kp_fd hps (i := i) (by omega)
    have d2 := hd.2.1
    have h1 : xc_copy1 C P kk n (P 5 i + 1) f = xc_cpy C (P 5 kk + 1) (P 5 n + 1) (P 5 i + 1) f := ax_u_n (by omega)
    rw [h1]
    by_cases e : i = n
    · subst e
      rw [cn f hf]
      unfold xc_cpy
      rw [if_pos ⟨rfl, hf⟩]
      exact a6 kk hkn f hf
    · rw [cp i f hf (by omega)]
      unfold xc_cpy
      rw [if_neg (fun h => e (a4 i (by omega) n hn (by omega)))]
      exact a6 i (by omega) f hf
  · by_cases e : i = n
    · subst e
      rw [cn 6 (by omega), cn 7 (by omega)]; exact a7 kk hkn
    · rw [cp i 6 (by omega) (by omega), cp i 7 (by omega) (by omega)]; exact a7 i (by omega)
/-- a field is altered -/
theorem sm_forge (hps : kw_ps P) (hF : sm_F C P M n) {kk f0 : Nat} (hkn : kk < n) (hf0 : f0 < 6) {v : Int32} : sm_F (ax_u C (P 5 kk + 1) f0 (C (P 5 kk + 1) f0 + v)) P (ax_u M 182 (8 * kk + f0) (M 182 (8 * kk + f0) + v)) n := by
  obtain ⟨a1, a2, a3, a4, a5, a6, a7⟩ := hF
  have hdn := kp_fd hps (i := kk) (by omega)
  have d1 := hdn.2.1
  refine ⟨a1, by rw [ax_u_n (by omega)]; exact a2, by rw [ax_u_n (by omega)]; exact a3, a4, a5, fun i hi f hf => ?_, fun i hi => ?_⟩
  · by_cases e : i = kk
    · subst e
      by_cases e2 : f = f0
      · subst e2
        rw [ax_u_at, ax_u_at, a6 i hi f hf]
      · rw [ax_u_k e2, ax_u_k (by omega)]; exact a6 i hi f hf
    · have hne : ¬ P 5 i + 1 = P 5 kk + 1 := fun h => e (a4 i (by omega) kk (by omega) (by omega))
      rw [ax_u_n hne, ax_u_k (by omega)]; exact a6 i hi f hf
  · rw [ax_u_k (by omega), ax_u_k (by omega)]; exact a7 i hi
end SMF
/-- what is taken out, seen by both: the class reads datagram d, the reference 'got' -/
abbrev sm_G (C M : ax_I) (d : Nat) : Prop := (∀ f, f < 8 → C (d + 1) f = M 183 f) ∧ sm_st (M 183 6) (M 183 7)
theorem sm_right {C M : ax_I} {d : Nat} (hK : sm_K C M) (hG : sm_G C M d) {x : Int32} : xc_right C d x ↔ xr_right M x := by
  obtain ⟨g, hs⟩ := hG
  unfold xc_right xr_right
  rw [g 0 (by omega), g 1 (by omega), g 3 (by omega), g 4 (by omega), g 5 (by omega), g 6 (by omega), g 7 (by omega), sm_key hK (sm_st_sym hs)]
