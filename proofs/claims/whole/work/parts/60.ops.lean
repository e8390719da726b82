
/-! EVERY CALL: class and reference answer the same, and stay alike. -/
section OPA
variable {C C' M M' : ax_I} {P : ax_P}
theorem sm_mono {cN : Nat} (hA : sm_All C P M cN) : sm_All C P M (cN + 1) := by
  obtain ⟨h1, h2, h3, ⟨c, s0, h4, h5⟩, h6, h7⟩ := hA
  exact ⟨h1, h2, h3, ⟨c, s0, by omega, h5⟩, h6, h7⟩
theorem sm_us_in {u : Int32} : xc_us u ↔ vp_in u 12 := by
  constructor
  · rintro ⟨h1, h2⟩; exact kw_iny rfl h1 h2
  · intro h
    obtain ⟨x, hx, rfl⟩ := vp_in_of h (by decide)
    exact ⟨nI_pos (by omega), nI_ge (a := x) (b := 12) hx (by decide)⟩
theorem sm_us_11 {u : Int32} : (¬ u < 0 ∧ ¬ 11 < u) ↔ vp_in u 12 := by
  constructor
  · rintro ⟨h1, h2⟩; exact kw_inq rfl h1 h2
  · intro h
    obtain ⟨x, hx, rfl⟩ := vp_in_of h (by decide)
    exact ⟨nI_pos (by omega), nI_nlt (a := 11) (b := x) (by omega) (by decide)⟩
/-- a home's station -/
theorem sm_hst (s : Int32) : (∃ h, h < 2 ∧ s = nI (3 + h)) ∨ ((s < 3 ∨ 5 ≤ s) ∧ ¬ (¬ s < 3 ∧ s ≤ 4) ∧ ¬ (¬ s < 3 ∧ ¬ 4 < s)) := by
  by_cases h3 : s = 3
  · exact Or.inl ⟨0, by omega, h3⟩
  · by_cases h4 : s = 4
    · exact Or.inl ⟨1, by omega, h4⟩
    · right
      have e3 : ¬ s.toInt = 3 := fun e => h3 (Int32.toInt_inj.mp e)
      have e4 : ¬ s.toInt = 4 := fun e => h4 (Int32.toInt_inj.mp e)
      have k3 : (3 : Int32).toInt = 3 := rfl
      have k4 : (4 : Int32).toInt = 4 := rfl
      have k5 : (5 : Int32).toInt = 5 := rfl
      rw [Int32.lt_iff_toInt_lt, Int32.le_iff_toInt_le, Int32.le_iff_toInt_le, Int32.lt_iff_toInt_lt, k3, k4, k5]
      omega
end OPA


section OPB
variable {C C' M M' : ax_I} {P : ax_P} {n h k u : Nat} {cN : Nat}
/-- the flight alone has changed -/
theorem sm_All_flight {n' : Nat} (hA : sm_All C P M cN) (hC : ∀ q j, ¬ (q = 2 ∧ j = 3) → ¬ (6 ≤ q ∧ q ≤ 55) → C' q j = C q j) (hM : ∀ q j, ¬ q = 182 → ¬ (q = 176 ∧ j = 7) → M' q j = M q j) (hAn : sm_A C P M n) (hF : sm_F C' P M' n') : sm_All C' P M' cN := by
  obtain ⟨hK, -, hL⟩ := hAn
  have r : ∀ q, ¬ q = 182 → ¬ q = 176 → M' q = M q := fun q g1 g2 => funext fun j => hM q j g1 (by omega)
  refine sm_All_fr hA ⟨n', sm_K_fr (funext fun j => hC 3 j (by omega) (by omega)) (funext fun j => hC 4 j (by omega) (by omega)) (r 177 (by omega) (by omega)) (r 178 (by omega) (by omega)) hK, hF, sm_L_fr (fun q g1 g2 => funext fun j => hC q j (by omega) (by omega)) (hC 2 4 (by omega) (by omega)) (r 184 (by omega) (by omega)) (r 185 (by omega) (by omega)) (hM 176 5 (by omega) (by omega)) hL⟩ (sm_W_fr (r 184 (by omega) (by omega)) (hM 176 5 (by omega) (by omega)) hA.2.2.1) ⟨fun q g1 g2 => funext fun j => hC q j (by omega) (by omega), r 179 (by omega) (by omega), r 180 (by omega) (by omega), r 181 (by omega) (by omega), r 186 (by omega) (by omega), r 187 (by omega) (by omega), r 188 (by omega) (by omega), r 189 (by omega) (by omega), hM 176 12 (by omega) (by omega), hM 176 13 (by omega) (by omega)⟩
/-- one is taken out of the flight -/
theorem sm_All_take {kk : Nat} (hA : sm_All C P M cN) (hkn : kk < n) (hAn : sm_A C P M n) (hM : ∀ q j, ¬ (q = 182 ∨ (q = 176 ∧ j = 7) ∨ q = 183) → M' q j = M q j) (hF : sm_F (ax_u C 2 3 (nI (n - 1))) (xc_take P kk n) M' (n - 1)) : sm_All (ax_u C 2 3 (nI (n - 1))) (xc_take P kk n) M' cN := by
  have hn := hAn.2.1.1
  obtain ⟨hps, -, hW, ⟨c, s0, hc, hR⟩, ⟨k0, u0, hH0⟩, ⟨k1, u1, hH1⟩⟩ := hA
  obtain ⟨hK, -, hL⟩ := hAn
  have r : ∀ q, ¬ q = 182 → ¬ q = 183 → ¬ q = 176 → M' q = M q := fun q g1 g2 g3 => funext fun j => hM q j (by omega)
  have co : ∀ q, ¬ q = 2 → ax_u C 2 3 (nI (n - 1)) q = C q := fun q g => funext fun j => ax_u_n g
  have hfr : sm_fr C (ax_u C 2 3 (nI (n - 1))) M M' := ⟨fun q g1 g2 => co q (by omega), r 179 (by omega) (by omega) (by omega), r 180 (by omega) (by omega) (by omega), r 181 (by omega) (by omega) (by omega), r 186 (by omega) (by omega) (by omega), r 187 (by omega) (by omega) (by omega), r 188 (by omega) (by omega) (by omega), r 189 (by omega) (by omega) (by omega), hM 176 12 (by omega), hM 176 13 (by omega)⟩
  refine ⟨xc_take_ps hps hkn hn, ⟨n - 1, sm_K_fr (co 3 (by omega)) (co 4 (by omega)) (r 177 (by omega) (by omega) (by omega)) (r 178 (by omega) (by omega) (by omega)) hK, hF, sm_L_fr (fun q g1 g2 => co q (by omega)) (ax_u_k (by omega)) (r 184 (by omega) (by omega) (by omega)) (r 185 (by omega) (by omega) (by omega)) (hM 176 5 (by omega)) hL⟩, sm_W_fr (r 184 (by omega) (by omega) (by omega)) (hM 176 5 (by omega)) hW, ⟨c, s0, hc, sm_R_frr hfr hR⟩, ⟨k0, u0, sm_H_fh (by omega) (sm_fh_of hfr) hH0⟩, ⟨k1, u1, sm_H_fh (by omega) (sm_fh_of hfr) hH1⟩⟩
/-- a record is added to home h on both sides, nothing else changes but the reference's scratch -/
theorem sm_addA {C1 M1 : ax_I} (hh : h < 2) (hA : sm_All C P M cN) (hk : k < 40) (hH : sm_H C M h k u) (hC : ∀ q, ¬ q = 88 + 48 * h + k → C1 q = C q) (hb : ∀ j, ¬ (400 * h + 10 * k ≤ j ∧ j < 400 * h + 10 * k + 10) → M1 187 j = M 187 j)
    (hM : ∀ q j, ¬ q = 187 → ¬ q = 188 → ¬ q = 190 → ¬ q = 191 → ¬ q = 183 → ¬ (q = 176 ∧ j = 19) → M1 q j = M q j) (h8 : ∀ h', M1 188 h' = if h' = h then nI (k + 1) else M 188 h') (hrec : sm_rec C1 (M1 187) h k) : sm_All (xc_add C1 h k) P M1 cN := by
  obtain ⟨n, hK, hF, hL⟩ := hA.2.1
  have r : ∀ q, ¬ q = 187 → ¬ q = 188 → ¬ q = 190 → ¬ q = 191 → ¬ q = 183 → ¬ q = 176 → M1 q = M q := fun q g1 g2 g3 g4 g5 g6 => funext fun j => hM q j g1 g2 g3 g4 g5 (by omega)
  have co : ∀ q, ¬ (80 + 48 * h ≤ q ∧ q < 128 + 48 * h) → xc_add C1 h k q = C q := fun q g => by
    unfold xc_add; funext j
    rw [ax_u_n (by omega), xc_carry_o (by omega) (by omega) (by omega) (by omega), hC q (by omega)]
  have hKF := sm_KF (C' := xc_add C1 h k) (M' := M1) hA.1 (fun q g j _ => by rw [co q (by omega)]) (r 177 (by omega) (by omega) (by omega) (by omega) (by omega) (by omega)) (r 178 (by omega) (by omega) (by omega) (by omega) (by omega) (by omega)) (r 182 (by omega) (by omega) (by omega) (by omega) (by omega) (by omega)) (hM 176 7 (by omega) (by omega) (by omega) (by omega) (by omega) (by omega)) hK hF
  have r184 := r 184 (by omega) (by omega) (by omega) (by omega) (by omega) (by omega)
  have r5 := hM 176 5 (by omega) (by omega) (by omega) (by omega) (by omega) (by omega)
  refine sm_All_home hh hA ⟨n, hKF.1, hKF.2, sm_L_fr (fun q g1 g2 => co q (by omega)) (by rw [co 2 (by omega)]) r184 (r 185 (by omega) (by omega) (by omega) (by omega) (by omega) (by omega)) r5 hL⟩ (sm_W_fr r184 r5 hA.2.2.1) (fun q g1 g2 => co q (by omega)) (r 186 (by omega) (by omega) (by omega) (by omega) (by omega) (by omega)) (hM 176 12 (by omega) (by omega) (by omega) (by omega) (by omega) (by omega)) (hM 176 13 (by omega) (by omega) (by omega) (by omega) (by omega) (by omega)) (fun q g1 g2 g3 => co q g3) (fun j g1 g2 => hb j (by omega)) (r 179 (by omega) (by omega) (by omega) (by omega) (by omega) (by omega)) (r 180 (by omega) (by omega) (by omega) (by omega) (by omega) (by omega)) (r 181 (by omega) (by omega) (by omega) (by omega) (by omega) (by omega)) (fun h' g => by rw [h8, if_neg g]) (fun h' g => by rw [r 189 (by omega) (by omega) (by omega) (by omega) (by omega) (by omega)]) ⟨k + 1, u, ?_⟩
  exact sm_add hh hk hH (fun q g1 g2 g3 => hC q g3) (fun j g1 g2 g3 => hb j g3) (r 179 (by omega) (by omega) (by omega) (by omega) (by omega) (by omega)) (r 180 (by omega) (by omega) (by omega) (by omega) (by omega) (by omega)) (r 181 (by omega) (by omega) (by omega) (by omega) (by omega) (by omega)) (by rw [h8, if_pos rfl]) (by rw [r 189 (by omega) (by omega) (by omega) (by omega) (by omega) (by omega)]) hrec
theorem sm_evict {j : Nat} (hh : h < 2) (hA : sm_All C P M cN) (hH : sm_H C M h k u) (hk : k < 40) (hj : j < 6) (ho : 0 ≤ gs_s (M 187) h k j) : sm_All (xc_add (xc_ev C h k (nI j)) h k) P (xr_ev (xr_rp M h k) h k j) cN := by
  obtain ⟨hgs, -⟩ := sm_rp hH
  have b10 := hH.2.2.2.2.2.2.2.2.2
  have hout : ∀ y, ¬ (400 * h + 10 * k ≤ y ∧ y < 400 * h + 10 * k + 10) → xr_ev (xr_rp M h k) h k j 187 y = M 187 y := fun y g => by
    unfold xr_ev
    rw [ax_u_n (by omega), ax_u_k (by omega), ax_u_k (by omega), ax_u_k (by omega)]
    exact xr_rp_o (by omega) (by omega) (by omega)
  refine sm_addA hh hA hk hH (fun q g => xc_ev_o g) hout (fun q y g1 g2 g3 g4 g5 g6 => ?_) (fun h' => ?_) ?_
  · unfold xr_ev
    rw [ax_u_n g2, ax_u_n g1, ax_u_n g1, ax_u_n g1]; exact xr_rp_o g3 g4 g6
  · unfold xr_ev
    by_cases e : h' = h
    · rw [if_pos e, e, ax_u_at]
    · rw [if_neg e, ax_u_k e, ax_u_n (by omega), ax_u_n (by omega), ax_u_n (by omega)]; exact xr_rp_o (by omega) (by omega) (by omega)
  · obtain ⟨w1, w2, w3⟩ := gs_congr (bk := M 187) (bk' := xr_ev (xr_rp M h k) h k j 187) (h := h) (r := k) (fun y g1 g2 => hout y (by omega))
    have hx : ∃ x, x < k ∧ gs_s (M 187) h k j = nI x := by
      rcases b10.1 j hj with ⟨k1, -⟩ | ⟨x, hx, k1, -⟩
      · rw [k1] at ho; exact absurd ho (by decide)
      · exact ⟨x, hx, k1⟩
    obtain ⟨x, hx, hgx⟩ := hx
    left
    refine ⟨?_, ?_, ?_, ?_, j, x, hj, hx, ?_, ?_, ?_⟩
    · unfold xc_ev; rw [xc_sa_0, ax_u_at]
    · unfold xc_ev; rw [xc_sa_5]
    · unfold xr_ev; rw [ax_u_n (by omega), ax_u_k (by omega), ax_u_k (by omega), ax_u_at]
    · unfold xr_ev; rw [ax_u_n (by omega), ax_u_k (by omega), ax_u_at]
    · unfold xc_ev; rw [xc_sa_7]
    · rw [w1]; exact hgx
    · unfold xr_ev; rw [ax_u_n (by omega), ax_u_at, hgs.1 j hj]; exact hgx
end OPB

section OPC
variable {l : Launch} {D : va_G} {aC : Nat → ClassId} {b : Nat} {C M : ax_I} {P : ax_P}
set_option maxRecDepth 20000 in
set_option maxHeartbeats 4000000 in
theorem op_key {cN : Nat} (hA : sm_All C P M cN) (hcN : cN < 512) (a0 a1 a2 : Int32) : ∃ (v : Int32) (C' : ax_I) (P' : ax_P) (M' : ax_I), kw_C l D aC b yX0_key cX0_key 4 (some .boolean) 1 [.inr (.inl 1), .inl a0, .inl a1, .inl a2] C M P (some (.inl v)) C' M P' ∧ kw_C l D aC b yX10_key cX10_key 4 (some .boolean) 1 [.inr (.inl 176), .inl a0, .inl a1, .inl a2] C' M P' (some (.inl v)) C' M' P' ∧ sm_All C' P' M' (cN + 1) := by
  by_cases hs : vp_in a0 4
  · obtain ⟨k, hk, rfl⟩ := vp_in_of hs (by decide)
    refine ⟨1, _, _, _, ct_keyI hA.1 hk a1 a2, rt_keyI hA.1 hk a1 a2, sm_mono ?_⟩
    obtain ⟨n, hK, hF, hL⟩ := hA.2.1
    have co : ∀ q, ¬ q = 3 → ¬ q = 4 → ax_u (ax_u C 3 k a1) 4 k a2 q = C q := fun q g1 g2 => by funext j; rw [ax_u_n g2, ax_u_n g1]
    have mo : ∀ q, ¬ q = 177 → ¬ q = 178 → ax_u (ax_u M 177 k a1) 178 k a2 q = M q := fun q g1 g2 => by funext j; rw [ax_u_n g2, ax_u_n g1]
    refine sm_All_fr hA ⟨n, fun j hj => ?_, sm_F_fr hA.1 (fun q g1 g2 => co q (by omega) (by omega)) (by rw [co 2 (by omega) (by omega)]) (mo 182 (by omega) (by omega)) (by rw [mo 176 (by omega) (by omega)]) hF, sm_L_fr (fun q g1 g2 => co q (by omega) (by omega)) (by rw [co 2 (by omega) (by omega)]) (mo 184 (by omega) (by omega)) (mo 185 (by omega) (by omega)) (by rw [mo 176 (by omega) (by omega)]) hL⟩ (sm_W_fr (mo 184 (by omega) (by omega)) (by rw [mo 176 (by omega) (by omega)]) hA.2.2.1) ⟨fun q g1 g2 => co q (by omega) (by omega), mo 179 (by omega) (by omega), mo 180 (by omega) (by omega), mo 181 (by omega) (by omega), mo 186 (by omega) (by omega), mo 187 (by omega) (by omega), mo 188 (by omega) (by omega), mo 189 (by omega) (by omega), by rw [mo 176 (by omega) (by omega)], by rw [mo 176 (by omega) (by omega)]⟩
    rw [ax_u_n (show ¬ 3 = 4 from by omega), ax_u_n (show ¬ 177 = 178 from by omega)]
    by_cases e : j = k
    · subst e
      rw [ax_u_at, ax_u_at, ax_u_at, ax_u_at]; exact ⟨rfl, rfl⟩
    · rw [ax_u_k e, ax_u_k e, ax_u_k e, ax_u_k e, ax_u_k e, ax_u_k e]; exact hK j hj
  · exact ⟨0, _, _, _, ct_keyO a0 a1 a2 hs, rt_keyO a0 a1 a2 hs, sm_mono hA⟩
set_option maxRecDepth 20000 in
set_option maxHeartbeats 4000000 in
theorem op_enrol {cN : Nat} (hA : sm_All C P M cN) (hcN : cN < 512) (a0 a1 a2 : Int32) : ∃ (v : Int32) (C' : ax_I) (P' : ax_P) (M' : ax_I), kw_C l D aC b yX0_enrol cX0_enrol 5 (some .boolean) 2 [.inr (.inl 1), .inl a0, .inl a1, .inl a2] C M P (some (.inl v)) C' M P' ∧ kw_C l D aC b yX10_enrol cX10_enrol 4 (some .boolean) 1 [.inr (.inl 176), .inl a0, .inl a1, .inl a2] C' M P' (some (.inl v)) C' M' P' ∧ sm_All C' P' M' (cN + 1) := by
  by_cases hs : vp_in a0 12 ∧ vp_in a2 7
  · obtain ⟨hs1, hs2⟩ := hs
    obtain ⟨u, hu, rfl⟩ := vp_in_of hs1 (by decide)
    obtain ⟨m, hm, rfl⟩ := vp_in_of hs2 (by decide)
    refine ⟨1, _, _, _, ct_enrolI hA.1 hu (by omega) a1, rt_enrolI hA.1 hu (by omega) a1, sm_mono ?_⟩
    obtain ⟨hps, ⟨n, hK, hF, hL⟩, hW, ⟨c, s0, hc, hR⟩, ⟨k0, u0, hH0⟩, ⟨k1, u1, hH1⟩⟩ := hA
    have co : ∀ q, ¬ q = 81 + 48 * (u % 2) → ¬ q = 82 + 48 * (u % 2) → ax_u (ax_u C (81 + 48 * (u % 2)) u a1) (82 + 48 * (u % 2)) u (nI m) q = C q := fun q g1 g2 => by funext j; rw [ax_u_n g2, ax_u_n g1]
    have mo : ∀ q, ¬ q = 179 → ¬ q = 180 → ¬ q = 181 → ax_u (ax_u (ax_u M 179 u 1) 180 u a1) 181 u (nI m) q = M q := fun q g1 g2 g3 => by funext j; rw [ax_u_n g3, ax_u_n g2, ax_u_n g1]
    have m179 : ∀ x, ax_u (ax_u (ax_u M 179 u 1) 180 u a1) 181 u (nI m) 179 x = if x = u then 1 else M 179 x := fun x => by
      rw [ax_u_n (by omega), ax_u_n (by omega)]; by_cases e : x = u
      · rw [if_pos e, e, ax_u_at]
      · rw [if_neg e, ax_u_k e]
    have m180 : ∀ x, ax_u (ax_u (ax_u M 179 u 1) 180 u a1) 181 u (nI m) 180 x = if x = u then a1 else M 180 x := fun x => by
      rw [ax_u_n (by omega)]; by_cases e : x = u
      · rw [if_pos e, e, ax_u_at]
      · rw [if_neg e, ax_u_k e, ax_u_n (by omega)]
    have m181 : ∀ x, ax_u (ax_u (ax_u M 179 u 1) 180 u a1) 181 u (nI m) 181 x = if x = u then nI m else M 181 x := fun x => by
      by_cases e : x = u
      · rw [if_pos e, e, ax_u_at]
      · rw [if_neg e, ax_u_k e, ax_u_n (by omega), ax_u_n (by omega)]
    have hU : ∀ h k u', h < 2 → sm_H C M h k u' → sm_H (ax_u (ax_u C (81 + 48 * (u % 2)) u a1) (82 + 48 * (u % 2)) u (nI m)) (ax_u (ax_u (ax_u M 179 u 1) 180 u a1) 181 u (nI m)) h k u' := by
      intro h k u' hh hH
      obtain ⟨b1, b2, b3, b4, b5, b6, b7, b8, b9, b10⟩ := hH
      refine ⟨b1, b2, by rw [co _ (by omega) (by omega)]; exact b3, by rw [mo 188 (by omega) (by omega) (by omega)]; exact b4, by rw [co _ (by omega) (by omega)]; exact b5, by rw [mo 189 (by omega) (by omega) (by omega)]; exact b6, by rw [co _ (by omega) (by omega)]; exact b7, fun x hx => ?_, fun r hr => sm_rec_fr (co _ (by omega) (by omega)) (fun j _ _ => by rw [mo 187 (by omega) (by omega) (by omega)]) (b9 r hr), sm_S_fr (fun q g1 g2 => co q (by omega) (by omega)) (fun j _ _ => by rw [mo 187 (by omega) (by omega) (by omega)]) b10⟩
      rw [m179, m180, m181]
      by_cases ex : x = u
      · subst ex
        rw [if_pos rfl, if_pos rfl, if_pos rfl]
        by_cases eh : x % 2 = h
        · left
          refine ⟨eh, by decide, ?_, ?_, m, by omega, rfl⟩
          · rw [eh, ax_u_at]
          · rw [eh, ax_u_n (by omega), ax_u_at]
        · right
          refine ⟨fun g => eh g.1, ?_⟩
          rw [co _ (by omega) (by omega)]
          rcases b8 x hx with ⟨g1, -⟩ | ⟨-, g2⟩
          · exact absurd g1 eh
          · exact g2
      · rw [if_neg ex, if_neg ex, if_neg ex]
        have e1 : ax_u (ax_u C (81 + 48 * (u % 2)) u a1) (82 + 48 * (u % 2)) u (nI m) (82 + 48 * h) x = C (82 + 48 * h) x := by rw [ax_u_k ex, ax_u_k ex]
        have e2 : ax_u (ax_u C (81 + 48 * (u % 2)) u a1) (82 + 48 * (u % 2)) u (nI m) (81 + 48 * h) x = C (81 + 48 * h) x := by rw [ax_u_k ex, ax_u_k ex]
        rw [e1, e2]; exact b8 x hx
    have hKF := sm_KF (C' := ax_u (ax_u C (81 + 48 * (u % 2)) u a1) (82 + 48 * (u % 2)) u (nI m)) (M' := ax_u (ax_u (ax_u M 179 u 1) 180 u a1) 181 u (nI m)) hps (fun q g j _ => by rw [co q (by omega) (by omega)]) (mo 177 (by omega) (by omega) (by omega)) (mo 178 (by omega) (by omega) (by omega)) (mo 182 (by omega) (by omega) (by omega)) (by rw [mo 176 (by omega) (by omega) (by omega)]) hK hF
    exact ⟨hps, ⟨n, hKF.1, hKF.2, sm_L_fr (fun q g1 g2 => co q (by omega) (by omega)) (by rw [co 2 (by omega) (by omega)]) (mo 184 (by omega) (by omega) (by omega)) (mo 185 (by omega) (by omega) (by omega)) (by rw [mo 176 (by omega) (by omega) (by omega)]) hL⟩, sm_W_fr (mo 184 (by omega) (by omega) (by omega)) (by rw [mo 176 (by omega) (by omega) (by omega)]) hW, ⟨c, s0, hc, sm_R_fr (fun q g1 g2 => co q (by omega) (by omega)) (mo 186 (by omega) (by omega) (by omega)) (by rw [mo 176 (by omega) (by omega) (by omega)]) (by rw [mo 176 (by omega) (by omega) (by omega)]) hR⟩, ⟨k0, u0, hU 0 k0 u0 (by omega) hH0⟩, ⟨k1, u1, hU 1 k1 u1 (by omega) hH1⟩⟩
  · refine ⟨0, _, _, _, ct_enrolO hA.1 a0 a1 a2 (fun g => hs ⟨sm_us_in.mp g.1, kw_inz rfl g.2.1 g.2.2⟩), rt_enrolO a0 a1 a2 (fun g => hs ⟨sm_us_11.mp ⟨g.1, g.2.1⟩, kw_inz rfl g.2.2.1 g.2.2.2⟩), sm_mono hA⟩
set_option maxRecDepth 20000 in
set_option maxHeartbeats 4000000 in
theorem op_login {cN : Nat} (hA : sm_All C P M cN) (hcN : cN < 512) (a0 a1 a2 a3 a4 : Int32) : ∃ (v : Int32) (C' : ax_I) (P' : ax_P) (M' : ax_I), kw_C l D aC b yX0_login cX0_login 8 (some .int) 7 [.inr (.inl 1), .inl a0, .inl a1, .inl a2, .inl a3, .inl a4] C M P (some (.inl v)) C' M P' ∧ kw_C l D aC b yX10_login cX10_login 7 (some .int) 6 [.inr (.inl 176), .inl a0, .inl a1, .inl a2, .inl a3, .inl a4] C' M P' (some (.inl v)) C' M' P' ∧ sm_All C' P' M' (cN + 1) := by
  by_cases hs : vp_in a0 2
  · by_cases hs2 : vp_in a1 4
    · obtain ⟨p, hp, rfl⟩ := vp_in_of hs (by decide)
      obtain ⟨i, hi, rfl⟩ := vp_in_of hs2 (by decide)
      obtain ⟨n, hAn⟩ := hA.2.1
      have hm0 := sm_mi0 hAn.2.2.1 hp hi
      have e40 : 40 * p + 10 * i = 10 * (4 * p + i) := by omega
      by_cases hg : vp_in a2 12 ∧ M 184 (10 * (4 * p + i)) = 0
      · have hng : ¬ xr_pg M (4 * p + i) := by unfold xr_pg; rw [hg.2]; decide
        obtain ⟨z1, z2, z3, z4⟩ := sm_lg hA.1 hAn hA.2.2.1 hp hi (u := a2) (pw := a3)
        have hng2 : ¬ xr_pg (xr_lg M (4 * p + i) a2 a3) (4 * p + i) := by unfold xr_pg at hng ⊢; rw [z4]; exact hng
        obtain ⟨w1, w2, w3, w4⟩ := sm_mp hA.1 z1 z2 hp hi hng2 (st := 1) (au := a4) (Or.inl rfl)
        have h1 := sm_us_11.mpr hg.1
        refine ⟨_, _, _, _, ct_loginI hA.1 (sm_F_nok hAn.2.1).1 hp hi a2 a3 a4 (sm_us_in.mpr hg.1) (hm0.trans hg.2), ?_, sm_mono (sm_All_fr hA ⟨_, w1⟩ w2 (sm_fr_trans z3 w3))⟩
        rw [w4]
        exact rt_loginI hA.1 (sm_F_rok hAn.2.1).1 hp hi a2 a3 a4 h1.1 h1.2 (by rw [e40]; exact hg.2)
      · refine ⟨-1, _, _, _, ct_loginO3 hA.1 hp hi a2 a3 a4 (fun g => hg ⟨sm_us_in.mp g.1, hm0.symm.trans g.2⟩), rt_loginO3 hA.1 hp hi a2 a3 a4 (fun g => hg ⟨sm_us_11.mp ⟨g.1, g.2.1⟩, by rw [← e40]; exact g.2.2⟩), sm_mono hA⟩
    · obtain ⟨p, hp, rfl⟩ := vp_in_of hs (by decide)
      exact ⟨-1, _, _, _, ct_loginO2 hA.1 hp a1 a2 a3 a4 hs2, rt_loginO (nI p) a1 a2 a3 a4 (fun g => hs2 (kw_inz rfl g.2.2.1 g.2.2.2)), sm_mono hA⟩
  · exact ⟨-1, _, _, _, ct_loginO1 hA.1 a0 a1 a2 a3 a4 hs, rt_loginO a0 a1 a2 a3 a4 (fun g => hs (kw_inq rfl g.1 g.2.1)), sm_mono hA⟩
set_option maxRecDepth 20000 in
set_option maxHeartbeats 4000000 in
theorem op_logout {cN : Nat} (hA : sm_All C P M cN) (hcN : cN < 512) (a0 a1 a2 : Int32) : ∃ (v : Int32) (C' : ax_I) (P' : ax_P) (M' : ax_I), kw_C l D aC b yX0_logout cX0_logout 6 (some .int) 7 [.inr (.inl 1), .inl a0, .inl a1, .inl a2] C M P (some (.inl v)) C' M P' ∧ kw_C l D aC b yX10_logout cX10_logout 5 (some .int) 6 [.inr (.inl 176), .inl a0, .inl a1, .inl a2] C' M P' (some (.inl v)) C' M' P' ∧ sm_All C' P' M' (cN + 1) := by
  by_cases hs : vp_in a0 2
  · by_cases hs2 : vp_in a1 4
    · obtain ⟨p, hp, rfl⟩ := vp_in_of hs (by decide)
      obtain ⟨i, hi, rfl⟩ := vp_in_of hs2 (by decide)
      obtain ⟨n, hAn⟩ := hA.2.1
      have hm0 := sm_mi0 hAn.2.2.1 hp hi
      have e40 : 40 * p + 10 * i = 10 * (4 * p + i) := by omega
      by_cases hg : M 184 (10 * (4 * p + i)) = 2
      · have hng : ¬ xr_pg M (4 * p + i) := by unfold xr_pg; rw [hg]; decide
        obtain ⟨w1, w2, w3, w4⟩ := sm_mp hA.1 hAn hA.2.2.1 hp hi hng (st := 3) (au := a2) (Or.inr rfl)
        refine ⟨_, _, _, _, ct_logoutI hA.1 (sm_F_nok hAn.2.1).1 hp hi a2 (hm0.trans hg), ?_, sm_mono (sm_All_fr hA ⟨_, w1⟩ w2 w3)⟩
        rw [w4]
        exact rt_logoutI hA.1 (sm_F_rok hAn.2.1).1 hp hi a2 (by rw [e40]; exact hg)
      · exact ⟨-1, _, _, _, ct_logoutO3 hA.1 hp hi a2 (fun g => hg (hm0.symm.trans g)), rt_logoutO3 hA.1 hp hi a2 (by rw [e40]; exact hg), sm_mono hA⟩
    · obtain ⟨p, hp, rfl⟩ := vp_in_of hs (by decide)
      exact ⟨-1, _, _, _, ct_logoutO2 hA.1 hp a1 a2 hs2, rt_logoutO (nI p) a1 a2 (fun g => hs2 (kw_inz rfl g.2.2.1 g.2.2.2)), sm_mono hA⟩
  · exact ⟨-1, _, _, _, ct_logoutO1 hA.1 a0 a1 a2 hs, rt_logoutO a0 a1 a2 (fun g => hs (kw_inq rfl g.1 g.2.1)), sm_mono hA⟩
set_option maxRecDepth 20000 in
set_option maxHeartbeats 4000000 in
theorem op_line {cN : Nat} (hA : sm_All C P M cN) (hcN : cN < 512) (a0 a1 a2 : Int32) : ∃ (v : Int32) (C' : ax_I) (P' : ax_P) (M' : ax_I), kw_C l D aC b yX0_line cX0_line 5 (some .int) 3 [.inr (.inl 1), .inl a0, .inl a1, .inl a2] C M P (some (.inl v)) C' M P' ∧ kw_C l D aC b yX10_line cX10_line 6 (some .int) 2 [.inr (.inl 176), .inl a0, .inl a1, .inl a2] C' M P' (some (.inl v)) C' M' P' ∧ sm_All C' P' M' (cN + 1) := by
  by_cases hs : vp_in a0 2
  · by_cases hs2 : vp_in a1 4
    · obtain ⟨p, hp, rfl⟩ := vp_in_of hs (by decide)
      obtain ⟨i, hi, rfl⟩ := vp_in_of hs2 (by decide)
      obtain ⟨n, hAn⟩ := hA.2.1
      by_cases hw : vp_in a2 5
      · obtain ⟨w, hw5, rfl⟩ := vp_in_of hw (by decide)
        refine ⟨_, _, _, _, ct_lineI hA.1 hp hi (nI w), ?_, sm_mono hA⟩
        rw [sm_ltell hAn hp hi hw5]
        exact rt_lineI hA.1 hp hi hw5
      · refine ⟨-1, _, _, _, ?_, rt_lineO3 hp hi a2 hw, sm_mono hA⟩
        have e : xc_ltell C (59 + 6 * p + i) a2 = -1 := by
          rcases kw_case5 a2 with e | e | e | e | e | ⟨k0, k1, k2, k3, k4, -⟩
          · exact absurd (by rw [e, vp_in_iff]; decide) hw
          · exact absurd (by rw [e, vp_in_iff]; decide) hw
          · exact absurd (by rw [e, vp_in_iff]; decide) hw
          · exact absurd (by rw [e, vp_in_iff]; decide) hw
          · exact absurd (by rw [e, vp_in_iff]; decide) hw
          · unfold xc_ltell; rw [if_neg k0, if_neg k1, if_neg k2, if_neg k3, if_neg k4]
        have := ct_lineI (l := l) (D := D) (aC := aC) (b := b) (C := C) (M := M) hA.1 hp hi a2
        rw [e] at this
        exact this
    · obtain ⟨p, hp, rfl⟩ := vp_in_of hs (by decide)
      exact ⟨-1, _, _, _, ct_lineO2 hA.1 hp a1 a2 hs2, rt_lineO (nI p) a1 a2 (fun g => hs2 (kw_inz rfl g.2.2.1 g.2.2.2)), sm_mono hA⟩
  · exact ⟨-1, _, _, _, ct_lineO1 hA.1 a0 a1 a2 hs, rt_lineO a0 a1 a2 (fun g => hs (kw_inq rfl g.1 g.2.1)), sm_mono hA⟩
set_option maxRecDepth 20000 in
set_option maxHeartbeats 4000000 in
theorem op_tick {cN : Nat} (hA : sm_All C P M cN) (hcN : cN < 512) (a0 : Int32) : ∃ (v : Int32) (C' : ax_I) (P' : ax_P) (M' : ax_I), kw_C l D aC b yX0_tick cX0_tick 5 (some .int) 7 [.inr (.inl 1), .inl a0] C M P (some (.inl v)) C' M P' ∧ kw_C l D aC b yX10_tick cX10_tick 6 (some .int) 6 [.inr (.inl 176), .inl a0] C' M P' (some (.inl v)) C' M' P' ∧ sm_All C' P' M' (cN + 1) := by
  by_cases hs : ¬ a0 < 1 ∧ a0 ≤ 10
  · obtain ⟨t, ht, rfl⟩ := vp_in_of (kw_inz (B := 10) (L := 11) rfl (fun g => hs.1 (Int32.lt_trans g (by decide))) hs.2) (by decide)
    have h1 : 1 ≤ t := by
      by_cases e : t = 0
      · subst e; exact absurd (by decide) hs.1
      · omega
    obtain ⟨n, hAn⟩ := hA.2.1
    obtain ⟨w1, w2, w3, w4⟩ := sm_tick (f := t) (x := 0) hA.1 hAn hA.2.2.1
    refine ⟨_, _, _, _, ct_tickI hA.1 (sm_F_nok hAn.2.1).1 h1 (by omega), ?_, sm_mono (sm_All_fr hA w1 w2 w3)⟩
    rw [w4]
    exact rt_tickI hA.1 (sm_F_rok hAn.2.1).1 h1 (by omega)
  · exact ⟨-1, _, _, _, ct_tickO a0 hs, rt_tickO a0 hs, sm_mono hA⟩
set_option maxRecDepth 20000 in
set_option maxHeartbeats 4000000 in
theorem op_lose {cN : Nat} (hA : sm_All C P M cN) (hcN : cN < 512) (a0 : Int32) : ∃ (v : Int32) (C' : ax_I) (P' : ax_P) (M' : ax_I), kw_C l D aC b yX0_lose cX0_lose 2 (some .boolean) 2 [.inr (.inl 1), .inl a0] C M P (some (.inl v)) C' M P' ∧ kw_C l D aC b yX10_lose cX10_lose 2 (some .boolean) 2 [.inr (.inl 176), .inl a0] C' M P' (some (.inl v)) C' M' P' ∧ sm_All C' P' M' (cN + 1) := by
  obtain ⟨n, hAn⟩ := hA.2.1
  have hF := hAn.2.1
  have c23 := hF.2.1
  have m7 := hF.2.2.1
  have hn24 := hF.1
  have hpl : ∀ {s : Int32}, (¬ s < 0 ∧ ¬ nI n ≤ s) → vp_in s n := fun {s} g => kw_iny (nI_toInt (by omega)) g.1 g.2
  by_cases hs : vp_in a0 n
  · obtain ⟨kk, hkn, rfl⟩ := vp_in_of hs (by omega)
    refine ⟨1, _, _, _, ct_loseI hA.1 hkn hn24 c23, rt_loseI (xc_take_ps hA.1 hkn hn24) hkn hn24 m7, sm_mono ?_⟩
    exact sm_All_take hA hkn hAn (fun q j g => by
      unfold xr_take
      by_cases e : q = 182
      · exact absurd (Or.inl e) g
      · by_cases e2 : q = 176 ∧ j = 7
        · exact absurd (Or.inr (Or.inl e2)) g
        · have : ax_u (xr_ti M kk (8 * n - 8)) 176 7 (nI (n - 1)) q j = xr_ti M kk (8 * n - 8) q j := by
            by_cases e3 : q = 176
            · rw [e3]; exact ax_u_k (fun x => e2 ⟨e3, x⟩)
            · exact ax_u_n e3
          rw [this]; simp [xr_ti, e]) (sm_take hA.1 hF hkn)
  · have hs' : ¬ (¬ a0 < 0 ∧ ¬ nI n ≤ a0) := fun g => hs (hpl g)
    exact ⟨0, _, _, _, ct_loseO hA.1 a0 (by rw [c23]; exact hs'), rt_loseO a0 (by rw [m7]; exact hs'), sm_mono hA⟩
set_option maxRecDepth 20000 in
set_option maxHeartbeats 4000000 in
theorem op_copy {cN : Nat} (hA : sm_All C P M cN) (hcN : cN < 512) (a0 : Int32) : ∃ (v : Int32) (C' : ax_I) (P' : ax_P) (M' : ax_I), kw_C l D aC b yX0_copy cX0_copy 2 (some .boolean) 3 [.inr (.inl 1), .inl a0] C M P (some (.inl v)) C' M P' ∧ kw_C l D aC b yX10_copy cX10_copy 3 (some .boolean) 2 [.inr (.inl 176), .inl a0] C' M P' (some (.inl v)) C' M' P' ∧ sm_All C' P' M' (cN + 1) := by
  obtain ⟨n, hAn⟩ := hA.2.1
  have hF := hAn.2.1
  have c23 := hF.2.1
  have m7 := hF.2.2.1
  have hn24 := hF.1
  have hpl : ∀ {s : Int32}, (¬ s < 0 ∧ ¬ nI n ≤ s) → vp_in s n := fun {s} g => kw_iny (nI_toInt (by omega)) g.1 g.2
  by_cases hs : vp_in a0 n ∧ n < 24
  · obtain ⟨kk, hkn, rfl⟩ := vp_in_of hs.1 (by omega)
    refine ⟨1, _, _, _, ct_copyI hA.1 hkn hs.2 c23, rt_copyI hA.1 hkn hs.2 m7, sm_mono ?_⟩
    have hd := kp_fd hA.1 (i := n) hs.2
    have d1 := hd.2.1
    have d2 := hd.2.2
    have hdk := kp_fd hA.1 (i := kk) (by omega)
    have co : ∀ q j, ¬ (q = 2 ∧ j = 3) → ¬ (6 ≤ q ∧ q ≤ 55) → xc_copy1 C P kk n q j = C q j := fun q j g1 g2 => by
      unfold xc_copy1
      have e1 : xc_cpy C (P 5 kk + 1) (P 5 n + 1) q j = C q j := by unfold xc_cpy; rw [if_neg (by omega)]
      by_cases e : q = 2
      · rw [e, ax_u_k (fun x => g1 ⟨e, x⟩), ← e]; exact e1
      · rw [ax_u_n e]; exact e1
    have mo : ∀ q j, ¬ q = 182 → ¬ (q = 176 ∧ j = 7) → ax_u (xr_cp M kk n 8) 176 7 (nI (n + 1)) q j = M q j := fun q j g1 g2 => by
      have e1 : xr_cp M kk n 8 q j = M q j := by unfold xr_cp; rw [if_neg (by omega)]
      by_cases e : q = 176
      · rw [e, ax_u_k (fun x => g2 ⟨e, x⟩), ← e]; exact e1
      · rw [ax_u_n e]; exact e1
    exact sm_All_flight hA co mo hAn (sm_copy hA.1 hF hkn hs.2)
  · have hs' : ¬ ((¬ a0 < 0 ∧ ¬ nI n ≤ a0) ∧ nI n < 24) := fun g => hs ⟨hpl g.1, (nI_ltI (a := n) (b := 24) (by omega) (by decide)).mp g.2⟩
    have hs2 : ¬ ((¬ a0 < 0 ∧ ¬ nI n ≤ a0) ∧ ¬ nI n = 24) := fun g => hs ⟨hpl g.1, by
      have : ¬ n = 24 := fun e => g.2 (by rw [e]; rfl)
      omega⟩
    exact ⟨0, _, _, _, ct_copyO hA.1 a0 (by rw [c23]; exact hs'), rt_copyO a0 (by rw [m7]; exact hs2), sm_mono hA⟩
set_option maxRecDepth 20000 in
set_option maxHeartbeats 4000000 in
theorem op_forge {cN : Nat} (hA : sm_All C P M cN) (hcN : cN < 512) (a0 a1 a2 : Int32) : ∃ (v : Int32) (C' : ax_I) (P' : ax_P) (M' : ax_I), kw_C l D aC b yX0_forge cX0_forge 4 (some .boolean) 2 [.inr (.inl 1), .inl a0, .inl a1, .inl a2] C M P (some (.inl v)) C' M P' ∧ kw_C l D aC b yX10_forge cX10_forge 4 (some .boolean) 2 [.inr (.inl 176), .inl a0, .inl a1, .inl a2] C' M P' (some (.inl v)) C' M' P' ∧ sm_All C' P' M' (cN + 1) := by
  obtain ⟨n, hAn⟩ := hA.2.1
  have hF := hAn.2.1
  have c23 := hF.2.1
  have m7 := hF.2.2.1
  have hn24 := hF.1
  have hpl : ∀ {s : Int32}, (¬ s < 0 ∧ ¬ nI n ≤ s) → vp_in s n := fun {s} g => kw_iny (nI_toInt (by omega)) g.1 g.2
  by_cases hs : vp_in a0 n ∧ vp_in a1 6
  · obtain ⟨kk, hkn, rfl⟩ := vp_in_of hs.1 (by omega)
    obtain ⟨f, hf, rfl⟩ := vp_in_of hs.2 (by decide)
    refine ⟨1, _, _, _, ct_forgeI hA.1 hkn hn24 c23 hf a2, rt_forgeI hA.1 hkn hn24 m7 hf a2, sm_mono ?_⟩
    have hd := kp_fd hA.1 (i := kk) (by omega)
    have d1 := hd.2.1
    have d2 := hd.2.2
    exact sm_All_flight hA (fun q j g1 g2 => ax_u_n (by omega)) (fun q j g1 g2 => ax_u_n g1) hAn (sm_forge hA.1 hF hkn hf)
  · have hs' : ¬ ((¬ a0 < 0 ∧ ¬ nI n ≤ a0) ∧ ¬ a1 < 0 ∧ a1 < 6) := fun g => hs ⟨hpl g.1, kw_inx rfl g.2.1 g.2.2⟩
    have hs2 : ¬ ((¬ a0 < 0 ∧ ¬ nI n ≤ a0) ∧ ¬ a1 < 0 ∧ a1 ≤ 5) := fun g => hs ⟨hpl g.1, kw_inz rfl g.2.1 g.2.2⟩
    exact ⟨0, _, _, _, ct_forgeO hA.1 a0 a1 a2 (by rw [c23]; exact hs'), rt_forgeO a0 a1 a2 (by rw [m7]; exact hs2), sm_mono hA⟩
set_option maxRecDepth 20000 in
set_option maxHeartbeats 4000000 in
theorem op_field {cN : Nat} (hA : sm_All C P M cN) (hcN : cN < 512) (a0 a1 : Int32) : ∃ (v : Int32) (C' : ax_I) (P' : ax_P) (M' : ax_I), kw_C l D aC b yX0_field cX0_field 3 (some .int) 2 [.inr (.inl 1), .inl a0, .inl a1] C M P (some (.inl v)) C' M P' ∧ kw_C l D aC b yX10_field cX10_field 3 (some .int) 2 [.inr (.inl 176), .inl a0, .inl a1] C' M P' (some (.inl v)) C' M' P' ∧ sm_All C' P' M' (cN + 1) := by
  obtain ⟨n, hAn⟩ := hA.2.1
  have hF := hAn.2.1
  have c23 := hF.2.1
  have m7 := hF.2.2.1
  have hn24 := hF.1
  have hpl : ∀ {s : Int32}, (¬ s < 0 ∧ ¬ nI n ≤ s) → vp_in s n := fun {s} g => kw_iny (nI_toInt (by omega)) g.1 g.2
  by_cases hs : vp_in a0 n ∧ vp_in a1 8
  · obtain ⟨kk, hkn, rfl⟩ := vp_in_of hs.1 (by omega)
    obtain ⟨f, hf, rfl⟩ := vp_in_of hs.2 (by decide)
    refine ⟨_, _, _, _, ct_fieldI hA.1 hkn hn24 c23 hf, ?_, sm_mono hA⟩
    rw [hF.2.2.2.2.2.1 kk hkn f hf]
    exact rt_fieldI hA.1 hkn hn24 m7 hf
  · have hs' : ¬ ((¬ a0 < 0 ∧ ¬ nI n ≤ a0) ∧ ¬ a1 < 0 ∧ a1 < 8) := fun g => hs ⟨hpl g.1, kw_inx rfl g.2.1 g.2.2⟩
    have hs2 : ¬ ((¬ a0 < 0 ∧ ¬ nI n ≤ a0) ∧ ¬ a1 < 0 ∧ a1 ≤ 7) := fun g => hs ⟨hpl g.1, kw_inz rfl g.2.1 g.2.2⟩
    exact ⟨-1, _, _, _, ct_fieldO hA.1 a0 a1 (by rw [c23]; exact hs'), rt_fieldO a0 a1 (by rw [m7]; exact hs2), sm_mono hA⟩
set_option maxRecDepth 20000 in
set_option maxHeartbeats 4000000 in
theorem op_flight {cN : Nat} (hA : sm_All C P M cN) (hcN : cN < 512) : ∃ (v : Int32) (C' : ax_I) (P' : ax_P) (M' : ax_I), kw_C l D aC b yX0_flight cX0_flight 1 (some .int) 1 [.inr (.inl 1)] C M P (some (.inl v)) C' M P' ∧ kw_C l D aC b yX10_flight cX10_flight 1 (some .int) 1 [.inr (.inl 176)] C' M P' (some (.inl v)) C' M' P' ∧ sm_All C' P' M' (cN + 1) := by
  obtain ⟨n, hAn⟩ := hA.2.1
  have hF := hAn.2.1
  refine ⟨_, _, _, _, ct_flight hA.1, ?_, sm_mono hA⟩
  rw [hF.2.1.trans hF.2.2.1.symm]
  exact rt_flight
set_option maxRecDepth 20000 in
set_option maxHeartbeats 4000000 in
theorem op_sync {cN : Nat} (hA : sm_All C P M cN) (hcN : cN < 512) (a0 : Int32) : ∃ (v : Int32) (C' : ax_I) (P' : ax_P) (M' : ax_I), kw_C l D aC b yX0_sync cX0_sync 3 (some .int) 7 [.inr (.inl 1), .inl a0] C M P (some (.inl v)) C' M P' ∧ kw_C l D aC b yX10_sync cX10_sync 5 (some .int) 5 [.inr (.inl 176), .inl a0] C' M P' (some (.inl v)) C' M' P' ∧ sm_All C' P' M' (cN + 1) := by
  rcases sm_hst a0 with ⟨h, hh, rfl⟩ | ⟨g1, g2, g3⟩
  · obtain ⟨n, hAn⟩ := hA.2.1
    obtain ⟨k, u, hH⟩ := sm_All_H hh hA
    have hH' := hH
    obtain ⟨b1, b2, b3, b4, b5, b6, b7, b8, b9, b10⟩ := hH
    exact ⟨_, _, _, _, ct_syncI hA.1 (sm_F_nok hAn.2.1).1 hh b2 b1 b3 b5, rt_syncI hA.1 (sm_F_rok hAn.2.1).1 hh b2 b1 b4 b6, sm_mono (sm_sync hh hA hH')⟩
  · exact ⟨-1, _, _, _, ct_syncO hA.1 a0 g1, rt_syncO a0 g2, sm_mono hA⟩
set_option maxRecDepth 20000 in
set_option maxHeartbeats 4000000 in
theorem op_crash {cN : Nat} (hA : sm_All C P M cN) (hcN : cN < 512) (a0 : Int32) : ∃ (v : Int32) (C' : ax_I) (P' : ax_P) (M' : ax_I), kw_C l D aC b yX0_crash cX0_crash 4 (some .boolean) 5 [.inr (.inl 1), .inl a0] C M P (some (.inl v)) C' M P' ∧ kw_C l D aC b yX10_crash cX10_crash 3 (some .boolean) 1 [.inr (.inl 176), .inl a0] C' M P' (some (.inl v)) C' M' P' ∧ sm_All C' P' M' (cN + 1) := by
  by_cases hp0 : vp_in a0 2
  · obtain ⟨p, hp, rfl⟩ := vp_in_of hp0 (by decide)
    obtain ⟨n, hAn⟩ := hA.2.1
    obtain ⟨w1, w2, w3⟩ := sm_crashP hA.1 hAn hA.2.2.1 hp
    exact ⟨1, _, _, _, ct_crashP hA.1 hp, rt_crashP hA.1 hp, sm_mono (sm_All_fr hA ⟨n, w1⟩ w2 w3)⟩
  · rcases sm_hst a0 with ⟨h, hh, rfl⟩ | ⟨g1, g2, g3⟩
    · obtain ⟨k, u, hH⟩ := sm_All_H hh hA
      have hH' := hH
      obtain ⟨b1, b2, b3, b4, b5, b6, b7, b8, b9, b10⟩ := hH
      exact ⟨1, _, _, _, ct_crashH hA.1 hh (by omega) b5 (fun i hi => sm_rec_rok (by omega) (b9 i (by omega))), rt_crashH hA.1 hh, sm_mono (sm_crashH hh hA hH')⟩
    · by_cases e2 : a0 = 2
      · subst e2
        obtain ⟨hps, ⟨n, hAn⟩, hW, ⟨c, s0, hc, hR⟩, ⟨k0, u0, hH0⟩, ⟨k1, u1, hH1⟩⟩ := hA
        obtain ⟨w1, w2, w3, w4⟩ := sm_crashR hps hAn hW hR
        exact ⟨1, _, _, _, ct_crashR hps, rt_crashR hps, hps, ⟨n, w1⟩, w2, ⟨c, c, by omega, w3⟩, ⟨k0, u0, sm_H_fh (by omega) w4 hH0⟩, ⟨k1, u1, sm_H_fh (by omega) w4 hH1⟩⟩
      · refine ⟨0, _, _, _, ct_crashO hA.1 a0 hp0 g1 e2, rt_crashO a0 (fun g => ?_), sm_mono hA⟩
        have z : ¬ (0 ≤ a0.toInt ∧ a0.toInt < ((2 : Nat) : Int)) := fun g => hp0 (vp_in_iff.mpr g)
        have e2' : ¬ a0.toInt = 2 := fun e => e2 (Int32.toInt_inj.mp e)
        have k0 : (0 : Int32).toInt = 0 := rfl
        have k3 : (3 : Int32).toInt = 3 := rfl
        have k4 : (4 : Int32).toInt = 4 := rfl
        have k5 : (5 : Int32).toInt = 5 := rfl
        rw [Int32.lt_iff_toInt_lt, Int32.le_iff_toInt_le, k0, k4] at g
        rw [Int32.lt_iff_toInt_lt, Int32.le_iff_toInt_le, k3, k5] at g1
        omega
set_option maxRecDepth 20000 in
set_option maxHeartbeats 4000000 in
theorem op_holder {cN : Nat} (hA : sm_All C P M cN) (hcN : cN < 512) (a0 a1 : Int32) : ∃ (v : Int32) (C' : ax_I) (P' : ax_P) (M' : ax_I), kw_C l D aC b yX0_holder cX0_holder 4 (some .int) 3 [.inr (.inl 1), .inl a0, .inl a1] C M P (some (.inl v)) C' M P' ∧ kw_C l D aC b yX10_holder cX10_holder 3 (some .int) 2 [.inr (.inl 176), .inl a0, .inl a1] C' M P' (some (.inl v)) C' M' P' ∧ sm_All C' P' M' (cN + 1) := by
  rcases sm_hst a0 with ⟨h, hh, rfl⟩ | ⟨g1, g2, g3⟩
  · obtain ⟨k, u, hH⟩ := sm_All_H hh hA
    obtain ⟨hgs, hok⟩ := sm_rp hH
    have hscr : sm_All C P (xr_rp M h k) cN := sm_All_scratch hA (fun q j k1 k2 _ k4 => xr_rp_o k1 k2 k4)
    have hH' := hH
    obtain ⟨b1, b2, b3, b4, b5, b6, b7, b8, b9, b10⟩ := hH
    by_cases hs : vp_in a1 6
    · obtain ⟨j, hj, rfl⟩ := vp_in_of hs (by decide)
      refine ⟨_, _, _, _, ct_holderI hA.1 hh (nI j), ?_, sm_mono hscr⟩
      have e : xc_ua C h (nI j) = if 0 ≤ xr_rp M h k 190 j then xr_rp M h k 191 j else -1 := by
        unfold xc_ua xc_oa
        rw [nI_clamp (by omega), hgs.1 j hj]
        have z := sm_s0 b10 b2 hj
        have p1 := nI_pos (n := j) (by omega)
        have p2 : ¬ (6 : Int32) ≤ nI j := nI_ge (a := j) (b := 6) hj (by decide)
        by_cases e0 : C (84 + 48 * h) j = 0
        · rw [if_neg (fun g => g.2.2 e0), if_neg (z.1.mp e0)]
        · have e1 : 0 ≤ gs_s (M 187) h k j := Classical.not_not.mp (fun g => e0 (z.1.mpr g))
          rw [if_pos ⟨p1, p2, e0⟩, if_pos e1, hgs.2.2 j hj (z.2.2.mpr e1)]
          rcases b10.1 j hj with ⟨_, q2⟩ | ⟨x, _, _, _, _, q5⟩
          · exact absurd q2 e0
          · exact q5
      rw [e]
      exact rt_holderI hA.1 hh b2 b4 hok hj
    · refine ⟨-1, _, _, _, ?_, rt_holderO _ a1 (fun g => hs (kw_inz rfl g.2.2.1 g.2.2.2)), sm_mono hA⟩
      have e : xc_ua C h a1 = -1 := by unfold xc_ua; rw [if_neg (fun g => hs (kw_iny rfl g.1 g.2.1))]
      have := ct_holderI (l := l) (D := D) (aC := aC) (b := b) (C := C) (M := M) hA.1 hh a1
      rw [e] at this
      exact this
  · exact ⟨-1, _, _, _, ct_holderO hA.1 a0 a1 g1, rt_holderO a0 a1 (fun g => g3 ⟨g.1, g.2.1⟩), sm_mono hA⟩
set_option maxRecDepth 20000 in
set_option maxHeartbeats 4000000 in
theorem op_journal {cN : Nat} (hA : sm_All C P M cN) (hcN : cN < 512) (a0 a1 : Int32) : ∃ (v : Int32) (C' : ax_I) (P' : ax_P) (M' : ax_I), kw_C l D aC b yX0_journal cX0_journal 4 (some .int) 3 [.inr (.inl 1), .inl a0, .inl a1] C M P (some (.inl v)) C' M P' ∧ kw_C l D aC b yX10_journal cX10_journal 4 (some .int) 2 [.inr (.inl 176), .inl a0, .inl a1] C' M P' (some (.inl v)) C' M' P' ∧ sm_All C' P' M' (cN + 1) := by
  rcases sm_hst a0 with ⟨h, hh, rfl⟩ | ⟨g1, g2, g3⟩
  · obtain ⟨k, u, hH⟩ := sm_All_H hh hA
    obtain ⟨hgs, hok⟩ := sm_rp hH
    have hscr : sm_All C P (xr_rp M h k) cN := sm_All_scratch hA (fun q j k1 k2 _ k4 => xr_rp_o k1 k2 k4)
    have hH' := hH
    obtain ⟨b1, b2, b3, b4, b5, b6, b7, b8, b9, b10⟩ := hH
    by_cases hs : vp_in a1 3
    · obtain ⟨j, hj, rfl⟩ := vp_in_of hs (by decide)
      refine ⟨_, _, _, _, ct_journalI hA.1 hh (nI j), ?_, sm_mono hscr⟩
      have e : xc_htell C h (nI j) = xr_jt (xr_rp M h k) h j := by
        unfold xc_htell xr_jt
        rw [xr_rp_o (by omega) (by omega) (by omega), xr_rp_o (by omega) (by omega) (by omega), b3, b4, b5, b6, b10.2.1, hgs.2.1]
        have : j = 0 ∨ j = 1 ∨ j = 2 := by omega
        rcases this with rfl | rfl | rfl
        · rw [show nI 0 = 0 from rfl]; simp
        · rw [show nI 1 = 1 from rfl]; simp
        · rw [show nI 2 = 2 from rfl]; simp
      rw [e]
      exact rt_journalI hA.1 hh b2 b4 hok hj
    · refine ⟨-1, _, _, _, ?_, rt_journalO _ a1 (fun g => hs (kw_inz rfl g.2.2.1 g.2.2.2)), sm_mono hA⟩
      have e : xc_htell C h a1 = -1 := by
        rcases kw_case3 a1 with e | e | e | ⟨k0, k1, k2, -⟩
        · exact absurd (by rw [e, vp_in_iff]; decide) hs
        · exact absurd (by rw [e, vp_in_iff]; decide) hs
        · exact absurd (by rw [e, vp_in_iff]; decide) hs
        · unfold xc_htell; rw [if_neg k0, if_neg k1, if_neg k2]
      have := ct_journalI (l := l) (D := D) (aC := aC) (b := b) (C := C) (M := M) hA.1 hh a1
      rw [e] at this
      exact this
  · exact ⟨-1, _, _, _, ct_journalO hA.1 a0 a1 g1, rt_journalO a0 a1 (fun g => g3 ⟨g.1, g.2.1⟩), sm_mono hA⟩
set_option maxRecDepth 20000 in
set_option maxHeartbeats 4000000 in
theorem op_evict {cN : Nat} (hA : sm_All C P M cN) (hcN : cN < 512) (a0 a1 : Int32) : ∃ (v : Int32) (C' : ax_I) (P' : ax_P) (M' : ax_I), kw_C l D aC b yX0_evict cX0_evict 4 (some .boolean) 6 [.inr (.inl 1), .inl a0, .inl a1] C M P (some (.inl v)) C' M P' ∧ kw_C l D aC b yX10_evict cX10_evict 5 (some .boolean) 2 [.inr (.inl 176), .inl a0, .inl a1] C' M P' (some (.inl v)) C' M' P' ∧ sm_All C' P' M' (cN + 1) := by
  rcases sm_hst a0 with ⟨h, hh, rfl⟩ | ⟨g1, g2, g3⟩
  · obtain ⟨k, u, hH⟩ := sm_All_H hh hA
    obtain ⟨hgs, hok⟩ := sm_rp hH
    have hscr : sm_All C P (xr_rp M h k) cN := sm_All_scratch hA (fun q j k1 k2 _ k4 => xr_rp_o k1 k2 k4)
    have hH' := hH
    obtain ⟨b1, b2, b3, b4, b5, b6, b7, b8, b9, b10⟩ := hH
    by_cases hs : vp_in a1 6
    · obtain ⟨j, hj, rfl⟩ := vp_in_of hs (by decide)
      have z := sm_s0 b10 b2 hj
      have p1 := nI_pos (n := j) (by omega)
      have p2 : ¬ (6 : Int32) ≤ nI j := nI_ge (a := j) (b := 6) hj (by decide)
      by_cases hk : k = 40
      · refine ⟨0, _, _, _, ct_evictI0 hA.1 hh (nI j) (ct_ev0 hA.1 hh (nI j) (fun g => ?_)), rt_evict4 hA.1 hh hj b4 hk, sm_mono hA⟩
        rw [b3, hk] at g
        exact absurd g.2 (by decide)
      · by_cases ho : 0 ≤ xr_rp M h k 190 j
        · have ho' : 0 ≤ gs_s (M 187) h k j := by rw [← hgs.1 j hj]; exact ho
          have e0 : ¬ C (84 + 48 * h) j = 0 := fun e => z.1.mp e ho'
          have hop : xc_oa C h (nI j) := by
            unfold xc_oa; rw [nI_clamp (by omega)]; exact ⟨p1, p2, e0⟩
          refine ⟨1, _, _, _, ct_evictI1 hA.1 hh (nI j) (ct_ev1 hA.1 hh (show k < 40 from by omega) b3 hj hop), rt_evict1 hA.1 hh hj b4 (by omega) hok ho, sm_mono ?_⟩
          exact sm_evict hh hA hH' (by omega) hj ho'
        · refine ⟨0, _, _, _, ct_evictI0 hA.1 hh (nI j) (ct_ev0 hA.1 hh (nI j) (fun g => ?_)), rt_evict0 hA.1 hh hj b4 (by omega) hok ho, sm_mono hscr⟩
          have g1 := g.1.2.2
          rw [nI_clamp (by omega)] at g1
          rw [hgs.1 j hj] at ho
          exact g1 (z.1.mpr ho)
    · refine ⟨0, _, _, _, ct_evictI0 hA.1 hh a1 (ct_ev0 hA.1 hh a1 (fun g => hs (kw_iny rfl g.1.1 g.1.2.1))), rt_evictO _ a1 (fun g => hs (kw_inq rfl g.2.2.1 g.2.2.2)), sm_mono hA⟩
  · exact ⟨0, _, _, _, ct_evictO hA.1 a0 a1 g1, rt_evictO a0 a1 (fun g => g3 ⟨g.1, g.2.1⟩), sm_mono hA⟩
set_option maxRecDepth 20000 in
set_option maxHeartbeats 4000000 in
theorem op_deliver {cN : Nat} (hA : sm_All C P M cN) (hcN : cN < 512) (a0 : Int32) : ∃ (v : Int32) (C' : ax_I) (P' : ax_P) (M' : ax_I), kw_C l D aC b yX0_deliver cX0_deliver 6 (some .int) 8 [.inr (.inl 1), .inl a0] C M P (some (.inl v)) C' M P' ∧ kw_C l D aC b yX10_deliver cX10_deliver 4 (some .int) 8 [.inr (.inl 176), .inl a0] C' M P' (some (.inl v)) C' M' P' ∧ sm_All C' P' M' (cN + 1) := by
  obtain ⟨n, hAn⟩ := hA.2.1
  have hF := hAn.2.1
  have c23 := hF.2.1
  have m7 := hF.2.2.1
  have hn24 := hF.1
  have hpl : ∀ {s : Int32}, (¬ s < 0 ∧ ¬ nI n ≤ s) → vp_in s n := fun {s} g => kw_iny (nI_toInt (by omega)) g.1 g.2
  by_cases hs : vp_in a0 n
  · obtain ⟨kk, hkn, rfl⟩ := vp_in_of hs (by omega)
    -- what both have in hand
    have hps2 := xc_take_ps hA.1 hkn hn24
    have hdg : kw_dg (P 5 kk) := kp_fd hA.1 (by omega)
    have d1 := hdg.2.1
    have d2 := hdg.2.2
    have hF1 : sm_F C P (xr_got M kk 8) n := sm_F_fr hA.1 (fun _ _ _ => rfl) rfl (by funext j; simp [xr_got]) (by simp [xr_got]) hF
    have hM2 : ∀ q j, ¬ (q = 182 ∨ (q = 176 ∧ j = 7) ∨ q = 183) → xr_dl M kk n q j = M q j := fun q j g => by
      have e1 : ¬ q = 182 := fun x => g (Or.inl x)
      have e2 : ¬ (q = 176 ∧ j = 7) := fun x => g (Or.inr (Or.inl x))
      have e3 : ¬ q = 183 := fun x => g (Or.inr (Or.inr x))
      unfold xr_dl xr_take
      have e4 : ax_u (xr_ti (xr_got M kk 8) kk (8 * n - 8)) 176 7 (nI (n - 1)) q j = xr_ti (xr_got M kk 8) kk (8 * n - 8) q j := by
        by_cases e5 : q = 176
        · rw [e5]; exact ax_u_k (fun x => e2 ⟨e5, x⟩)
        · exact ax_u_n e5
      rw [e4]; simp [xr_ti, xr_got, e1, e3]
    have hA2 := sm_All_take hA hkn hAn hM2 (sm_take hA.1 hF1 hkn)
    have hG : sm_G (ax_u C 2 3 (nI (n - 1))) (xr_dl M kk n) (P 5 kk) := by
      refine ⟨fun f hf => ?_, ?_⟩
      · rw [ax_u_n (by omega), xr_dl_g hf]; exact hF.2.2.2.2.2.1 kk hkn f hf
      · rw [xr_dl_g (by omega), xr_dl_g (by omega)]; exact hF.2.2.2.2.2.2 kk hkn
    have hrc : C (P 5 kk + 1) 7 = M 182 (8 * kk + 7) := hF.2.2.2.2.2.1 kk hkn 7 (by omega)
    have hst := hF.2.2.2.2.2.2 kk hkn
    have hg7 : xr_dl M kk n 183 7 = M 182 (8 * kk + 7) := xr_dl_g (by omega)
    have hg6 : xr_dl M kk n 183 6 = M 182 (8 * kk + 6) := xr_dl_g (by omega)
    have hlk : xr_lk (xr_dl M kk n 183 7) (xr_dl M kk n 183 6) := sm_lk (sm_st_sym hG.2)
    obtain ⟨n2, hAn2⟩ := hA2.2.1
    have hxo := (sm_F_nok hAn2.2.1).1
    have hro := (sm_F_rok hAn2.2.1).1
    have hrq : (xc_rq ((ax_u C 2 3 (nI (n - 1))) (P 5 kk + 1) 0) ∧ xc_right (ax_u C 2 3 (nI (n - 1))) (P 5 kk) ((ax_u C 2 3 (nI (n - 1))) (P 5 kk + 1) 2)) ↔ xr_rq (xr_dl M kk n) := by
      rw [sm_right hAn2.1 hG, hG.1 0 (by omega), hG.1 2 (by omega)]
    generalize hC2 : ax_u C 2 3 (nI (n - 1)) = C2 at *
    generalize hP2 : xc_take P kk n = P2 at *
    generalize hMd : xr_dl M kk n = M2 at *
    rcases hst with ⟨hto, hfr⟩ | ⟨hfr, hto⟩
    · -- at the relay
      obtain ⟨c, s0, hcN', hR⟩ := hA2.2.2.2.1
      have hR' := hR
      obtain ⟨r1, r2, r3, r4, r5, r6, r7, r8, r9⟩ := hR
      have hx6 : C2 (P 5 kk + 1) 6 = M 182 (8 * kk + 6) := (hG.1 6 (by omega)).trans hg6
      by_cases h01 : M 182 (8 * kk + 6) = 0 ∨ M 182 (8 * kk + 6) = 1
      · -- from a point
        have hlt : M 182 (8 * kk + 6) < 2 := by rcases h01 with e | e <;> (rw [e]; decide)
        have hnl : ¬ 2 ≤ M 182 (8 * kk + 6) := by rcases h01 with e | e <;> (rw [e]; decide)
        have hlx : xr_lk 2 (M 182 (8 * kk + 6)) := sm_lk (sm_st2 (by rcases h01 with e | e; exact Or.inl e; exact Or.inr (Or.inl e)))
        by_cases hq : xr_rq M2
        · have hqc := hrq.mpr hq
          rcases sm_find_e hR' (by omega) hG hg6 with ⟨e, e1, e2, e3, e4, e5, e6, e7, e8, e9⟩ | ⟨e4, e5, e6⟩
          · -- again
            obtain ⟨z1, z2, z3⟩ := sm_ho hps2 hAn2 hA2.2.2.1 hR' hG e1 e2 e3 e6 e7 e9
            have hlh : xr_lk 2 (M2 186 (6 * e + 4)) := sm_lk (sm_st2 (by rcases (r8 e e1 e2).2 with g | g; exact Or.inr (Or.inr (Or.inl g)); exact Or.inr (Or.inr (Or.inr g))))
            have k1 := ct_hrq2 (l := l) (D := D) (aC := aC) (b := b) (M := M) hps2 hxo hdg hqc e5
            have k2 := ct_rhr hps2 hdg (show C2 (P 5 kk + 1) 6 < 2 from by rw [hx6]; exact hlt) k1
            rw [← hC2, ← hP2] at k2
            have k3 := ct_dlvR hA.1 hkn hn24 c23 (hrc.trans hto) k2
            rw [hC2, hP2] at k3
            have q1 := rt_fp2 (l := l) (D := D) (aC := aC) (b := b) (C := xc_ho C2 P2 (P 5 kk + 1) ((e - s0) % 8)) hps2 hro r1 r2 r3 (M 182 (8 * kk + 6)) hlk hq hlx (by omega) e1 e2 e4 hlh
            rw [← hMd] at q1
            have q2 := rt_dlvRP hps2 hkn hn24 m7 hto rfl hnl q1
            rw [hMd] at q2
            exact ⟨2, _, _, _, k3, q2, sm_mono (sm_All_fr hA2 z1 z2 z3)⟩
          · -- a new entry
            obtain ⟨m1, m2, m3, m4, m5, m6, m8, m9, m10, m11⟩ := sm_me hps2 hAn2 hA2.2.2.1 hR' hG hdg hg6 h01 e6
            have e74 : xr_mk M2 (M 182 (8 * kk + 6)) c 186 (6 * c + 1) = xr_mk M2 (M 182 (8 * kk + 6)) c 183 0 := by rw [m6]; exact m9
            have e94 : xr_mk M2 (M 182 (8 * kk + 6)) c 186 (6 * c + 3) = xr_mk M2 (M 182 (8 * kk + 6)) c 183 2 := by rw [m6]; exact m10
            obtain ⟨z1, z2, z3⟩ := sm_ho hps2 m1 m2 m3 m4 (e := c) r3 (by omega) (by omega) m8 e74 e94
            have hlh : xr_lk 2 (xr_mk M2 (M 182 (8 * kk + 6)) c 186 (6 * c + 4)) := sm_lk (sm_st2 (by rcases m11 with g | g; exact Or.inr (Or.inr (Or.inl g)); exact Or.inr (Or.inr (Or.inr g))))
            have k1 := ct_hrq1 (l := l) (D := D) (aC := aC) (b := b) (M := M) hps2 hxo hdg hqc e5 (show (c - s0) % 8 < 8 from by omega) (sm_nxp hR')
            have k2 := ct_rhr hps2 hdg (show C2 (P 5 kk + 1) 6 < 2 from by rw [hx6]; exact hlt) k1
            rw [← hC2, ← hP2] at k2
            have k3 := ct_dlvR hA.1 hkn hn24 c23 (hrc.trans hto) k2
            rw [hC2, hP2] at k3
            have q1 := rt_fp1 (l := l) (D := D) (aC := aC) (b := b) (C := xc_ho (xc_me C2 (P 5 kk + 1) ((c - s0) % 8)) P2 (P 5 kk + 1) ((c - s0) % 8)) hps2 hro r1 r2 r3 (M 182 (8 * kk + 6)) hlk hq hlx (by omega) e4 hlh
            rw [← hMd] at q1
            have q2 := rt_dlvRP hps2 hkn hn24 m7 hto rfl hnl q1
            rw [hMd] at q2
            refine ⟨1, _, _, _, k3, q2, ?_⟩
            obtain ⟨k0, u0, hH0⟩ := hA2.2.2.2.2.1
            obtain ⟨k1', u1, hH1⟩ := hA2.2.2.2.2.2
            exact ⟨hps2, z1, z2, ⟨c + 1, s0, by omega, sm_R_frr z3 m3⟩, ⟨k0, u0, sm_H_fh (by omega) (sm_fh_trans m5 (sm_fh_of z3)) hH0⟩, ⟨k1', u1, sm_H_fh (by omega) (sm_fh_trans m5 (sm_fh_of z3)) hH1⟩⟩
        · have k1 := ct_hrq0 (l := l) (D := D) (aC := aC) (b := b) (M := M) hps2 hdg (fun g => hq (hrq.mp g))
          have k2 := ct_rhr hps2 hdg (show C2 (P 5 kk + 1) 6 < 2 from by rw [hx6]; exact hlt) k1
          rw [← hC2, ← hP2] at k2
          have k3 := ct_dlvR hA.1 hkn hn24 c23 (hrc.trans hto) k2
          rw [hC2, hP2] at k3
          have q1 := rt_fp0 (l := l) (D := D) (aC := aC) (b := b) (C := C2) hps2 (M 182 (8 * kk + 6)) hlk hq
          rw [← hMd] at q1
          have q2 := rt_dlvRP hps2 hkn hn24 m7 hto rfl hnl q1
          rw [hMd] at q2
          exact ⟨0, _, _, _, k3, q2, sm_mono hA2⟩
      · -- from a home
        have h34 : M 182 (8 * kk + 6) = 3 ∨ M 182 (8 * kk + 6) = 4 := by
          rcases hfr with e | e | e | e
          · exact absurd (Or.inl e) h01
          · exact absurd (Or.inr e) h01
          · exact Or.inl e
          · exact Or.inr e
        have hlt : ¬ C2 (P 5 kk + 1) 6 < 2 := by rw [hx6]; rcases h34 with e | e <;> (rw [e]; decide)
        have hnl : 2 ≤ M 182 (8 * kk + 6) := by rcases h34 with e | e <;> (rw [e]; decide)
        by_cases han : M2 183 0 = 1 ∨ M2 183 0 = 2 ∨ M2 183 0 = 4
        · have hle : ∀ e, s0 ≤ e → e < c → xr_lk 2 (M2 186 (6 * e)) := fun e g1 g2 => sm_lk (sm_st2 (by rcases (r8 e g1 g2).1 with g | g; exact Or.inl g; exact Or.inr (Or.inl g)))
          by_cases hj : vp_in (M2 183 1) 8
          · obtain ⟨j, hj8, hpl1⟩ := vp_in_of hj (by decide)
            obtain ⟨z1, z2, z3, z4⟩ := sm_ha hps2 hAn2 hA2.2.2.1 hR' (by omega) hG hg6 hj8 hpl1
            have k1 := ct_han1 (l := l) (D := D) (aC := aC) (b := b) (M := M) (P := P2) hps2 hxo hdg (show xc_an (C2 (P 5 kk + 1) 0) from by rw [hG.1 0 (by omega)]; exact han) hj8 ((hG.1 1 (by omega)).trans hpl1)
            have k2 := ct_rha hps2 hdg hlt k1
            rw [← hC2, ← hP2] at k2
            have k3 := ct_dlvR hA.1 hkn hn24 c23 (hrc.trans hto) k2
            rw [hC2, hP2] at k3
            have q1 := rt_fh1 (l := l) (D := D) (aC := aC) (b := b) (C := xc_ha C2 P2 (P 5 kk) j) hps2 hro r1 r2 r3 (by omega) (M 182 (8 * kk + 6)) hlk han hle
            rw [← hMd] at q1
            have q2 := rt_dlvRH hps2 hkn hn24 m7 hto rfl hnl q1
            rw [hMd] at q2
            rw [z4] at k3
            exact ⟨_, _, _, _, k3, q2, sm_mono (sm_All_fr hA2 z1 z2 z3)⟩
          · have k1 := ct_han0 (l := l) (D := D) (aC := aC) (b := b) (M := M) (P := P2) hps2 hdg (show ¬ (xc_an (C2 (P 5 kk + 1) 0) ∧ ¬ C2 (P 5 kk + 1) 1 < 0 ∧ C2 (P 5 kk + 1) 1 < 8) from fun g => by
              rw [hG.1 1 (by omega)] at g
              exact hj (kw_inx rfl g.2.1 g.2.2))
            have k2 := ct_rha hps2 hdg hlt k1
            rw [← hC2, ← hP2] at k2
            have k3 := ct_dlvR hA.1 hkn hn24 c23 (hrc.trans hto) k2
            rw [hC2, hP2] at k3
            have hno : kw_first (xr_hc M2 (M 182 (8 * kk + 6)) s0) s0 (c - s0) = none := by
              cases ef : kw_first (xr_hc M2 (M 182 (8 * kk + 6)) s0) s0 (c - s0) with
              | none => rfl
              | some e =>
                exfalso
                have g3 := (kw_first_some ef).2.2.1
                unfold xr_hc at g3
                rw [decide_eq_true_eq] at g3
                exact hj (by rw [← g3.2.1]; exact vp_in_nI (by omega) (by decide))
            have q1 := rt_fh1 (l := l) (D := D) (aC := aC) (b := b) (C := C2) hps2 hro r1 r2 r3 (by omega) (M 182 (8 * kk + 6)) hlk han hle
            have f1 : xr_fhn M2 (M 182 (8 * kk + 6)) s0 c = 0 := by unfold xr_fhn; rw [hno]
            have f2 : xr_fhm M2 (M 182 (8 * kk + 6)) s0 c = M2 := by unfold xr_fhm; rw [hno]
            rw [f1, f2, ← hMd] at q1
            have q2 := rt_dlvRH hps2 hkn hn24 m7 hto rfl hnl q1
            rw [hMd] at q2
            exact ⟨0, _, _, _, k3, q2, sm_mono hA2⟩
        · have k1 := ct_han0 (l := l) (D := D) (aC := aC) (b := b) (M := M) (P := P2) hps2 hdg (show ¬ (xc_an (C2 (P 5 kk + 1) 0) ∧ ¬ C2 (P 5 kk + 1) 1 < 0 ∧ C2 (P 5 kk + 1) 1 < 8) from fun g => han (by rw [← hG.1 0 (by omega)]; exact g.1))
          have k2 := ct_rha hps2 hdg hlt k1
          rw [← hC2, ← hP2] at k2
          have k3 := ct_dlvR hA.1 hkn hn24 c23 (hrc.trans hto) k2
          rw [hC2, hP2] at k3
          have q1 := rt_fh0 (l := l) (D := D) (aC := aC) (b := b) (C := C2) hps2 (M 182 (8 * kk + 6)) han
          rw [← hMd] at q1
          have q2 := rt_dlvRH hps2 hkn hn24 m7 hto rfl hnl q1
          rw [hMd] at q2
          exact ⟨0, _, _, _, k3, q2, sm_mono hA2⟩
    · by_cases h01 : M 182 (8 * kk + 7) = 0 ∨ M 182 (8 * kk + 7) = 1
      · -- at a point
        obtain ⟨p, hp, hto'⟩ : ∃ p, p < 2 ∧ M 182 (8 * kk + 7) = nI p := by
          rcases h01 with e | e
          · exact ⟨0, by omega, e⟩
          · exact ⟨1, by omega, e⟩
        obtain ⟨z1, z2, z3, z4⟩ := sm_ph hps2 hAn2 hA2.2.2.1 hp hG
        have k1 := ct_phear (l := l) (D := D) (aC := aC) (b := b) (C := C2) (M := M) hps2 hp hdg
        rw [← hC2, ← hP2] at k1
        have k3 := ct_dlvP hA.1 hkn hn24 c23 hp (hrc.trans hto') k1
        rw [hC2, hP2, z4] at k3
        have q1 := rt_atPoint (l := l) (D := D) (aC := aC) (b := b) (C := xc_ph C2 p (P 5 kk)) hps2 hp hlk
        rw [← hMd] at q1
        have q2 := rt_dlvP hps2 hkn hn24 m7 hp hto' q1
        rw [hMd] at q2
        exact ⟨_, _, _, _, k3, q2, sm_mono (sm_All_fr hA2 ⟨_, z1⟩ z2 z3)⟩
      · -- at a home
        obtain ⟨h, hh, hto'⟩ : ∃ h, h < 2 ∧ M 182 (8 * kk + 7) = nI (3 + h) := by
          rcases hto with e | e | e | e
          · exact absurd (Or.inl e) h01
          · exact absurd (Or.inr e) h01
          · exact ⟨0, by omega, e⟩
          · exact ⟨1, by omega, e⟩
        obtain ⟨k, u, hH⟩ := sm_All_H hh hA2
        have hH' := hH
        obtain ⟨hgs, hok⟩ := sm_rp hH
        obtain ⟨b1, b2, b3, b4, b5, b6, b7, b8, b9, b10⟩ := hH
        have fin : ∀ (v : Int32) (C1 M1 : ax_I), kw_C l D aC b yX3_hear cX3_hear 6 (some .int) 7 [.inr (.inl (80 + 48 * h)), .inr (.inl (P 5 kk)), .inr (.inl 2)] C2 M P2 (some (.inl v)) C1 M P2 → kw_C l D aC b yX10_atHome cX10_atHome 5 (some .int) 6 [.inr (.inl 176), .inl (nI h)] C1 M2 P2 (some (.inl v)) C1 M1 P2 → sm_All C1 P2 M1 (cN + 1) → ∃ (v : Int32) (C' : ax_I) (P' : ax_P) (M' : ax_I), kw_C l D aC b yX0_deliver cX0_deliver 6 (some .int) 8 [.inr (.inl 1), .inl (nI kk)] C M P (some (.inl v)) C' M P' ∧ kw_C l D aC b yX10_deliver cX10_deliver 4 (some .int) 8 [.inr (.inl 176), .inl (nI kk)] C' M P' (some (.inl v)) C' M' P' ∧ sm_All C' P' M' (cN + 1) := by
          intro v C1 M1 k1 q1 hfin
          rw [← hC2, ← hP2] at k1
          have k3 := ct_dlvH hA.1 hkn hn24 c23 hh (hrc.trans hto') k1
          rw [hP2] at k3
          rw [← hMd] at q1
          have q2 := rt_dlvH hps2 hkn hn24 m7 hh hto' q1
          exact ⟨v, C1, P2, M1, k3, q2, hfin⟩
        by_cases hq : xr_rq M2
        · have hqc := hrq.mpr hq
          have hkn2 := sm_known hH' hG hAn2.2.2.2.1 hq.1
          cases hl : kw_last (xr_kc M2 h) k with
          | some j =>
            rw [hl] at hkn2
            have hjk := (kw_last_some hl).1
            have hdur : (nI j < C2 (80 + 48 * h) 6) ↔ (nI j < M2 189 h) := by rw [b5, b6]
            have k1 := ct_hh1 (l := l) (D := D) (aC := aC) (b := b) (M := M) hps2 hxo hh hdg b2 b3 hqc hkn2
            by_cases hd : nI j < M2 189 h
            · have hd' := hdur.mpr hd
              rw [if_pos hd', if_pos hd'] at k1
              have hq5 : ¬ C2 (88 + 48 * h + j) 0 = 5 := by
                have g3 := (kw_last_some hkn2).2.1
                unfold xc_kn at g3
                rw [decide_eq_true_eq, hG.1 0 (by omega)] at g3
                rw [g3.1]
                rcases hq.1 with e | e <;> (rw [e]; decide)
              obtain ⟨z1, z2, z3⟩ := sm_answer hps2 hh hAn2 hA2.2.2.1 hH' hjk hq5
              have q1 := rt_ah1 (l := l) (D := D) (aC := aC) (b := b) (C := xc_sao C2 P2 h (88 + 48 * h + j)) hps2 hro hh b2 b4 hlk hq hl
              rw [if_pos hd, if_pos hd] at q1
              exact fin _ _ _ k1 q1 (sm_mono (sm_All_fr hA2 z1 z2 z3))
            · have hd' : ¬ nI j < C2 (80 + 48 * h) 6 := fun g => hd (hdur.mp g)
              rw [if_neg hd', if_neg hd'] at k1
              have q1 := rt_ah1 (l := l) (D := D) (aC := aC) (b := b) (C := C2) hps2 hro hh b2 b4 hlk hq hl
              rw [if_neg hd, if_neg hd] at q1
              exact fin _ _ _ k1 q1 (sm_mono hA2)
          | none =>
            rw [hl] at hkn2
            by_cases hk : k = 40
            · exact fin _ _ _ (ct_hh2 hps2 hxo hh hdg b2 b3 hqc hkn2 hk) (rt_ah2 hps2 hro hh b2 b4 hlk hq hl hk) (sm_mono hA2)
            · have hk' : k < 40 := by omega
              obtain ⟨n1, n2'⟩ := sm_newrec hh hk' hAn2.1 hAn2.2.2.2.1 hH' hG hdg hq.1
              refine fin _ _ _ (ct_hh3 hps2 hxo hh hdg hk' b3 hqc hkn2) (rt_ah3 hps2 hro hh hk' b4 hlk hq hl hok) (sm_mono ?_)
              have e187 : xr_ah M2 h k 187 = xr_nw (xr_rp M2 h k) h (400 * h + 10 * k) 187 := by unfold xr_ah; funext y; exact ax_u_n (by omega)
              refine sm_addA hh hA2 hk' hH' (fun q g => xc_new_o g) (fun y g => by rw [e187]; exact n2' y g) (fun q y g1 g2 g3 g4 g5 g6 => ?_) (fun h' => ?_) (by rw [e187]; exact n1)
              · unfold xr_ah; rw [ax_u_n g2, xr_nw_o g1]; exact xr_rp_o g3 g4 g6
              · unfold xr_ah
                by_cases e : h' = h
                · rw [if_pos e, e, ax_u_at]
                · rw [if_neg e, ax_u_k e, xr_nw_o (by omega)]; exact xr_rp_o (by omega) (by omega) (by omega)
        · exact fin _ _ _ (ct_hh0 hps2 hh hdg (fun g => hq (hrq.mp g))) (rt_ah0 hps2 hlk hq) (sm_mono hA2)
  · have hs' : ¬ (¬ a0 < 0 ∧ ¬ nI n ≤ a0) := fun g => hs (hpl g)
    exact ⟨-1, _, _, _, ct_dlvO hA.1 a0 (by rw [c23]; exact hs'), rt_dlvO a0 (by rw [m7]; exact hs'), sm_mono hA⟩
end OPC
