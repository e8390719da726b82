/-! CLASS AGAINST REFERENCE: new records, by a request or by an eviction. -/
section SMX
variable {C C' M M' : ax_I} {P : ax_P} {n d h k u r c s0 : Nat}
/-- what the reference has written of the request -/
theorem xr_w3_187 {B f : Nat} : ∀ {i : Nat} {M : ax_I} {j : Nat}, xr_w3 B i f M 187 j = if B + i ≤ j ∧ j < B + i + f then M 183 (j - B) else M 187 j := by
  induction f with
  | zero => intro i M j; rw [if_neg (by omega)]; rfl
  | succ f ih =>
    intro i M j
    unfold xr_w3
    rw [ih, ax_u_n (show ¬ 183 = 187 from by omega)]
    by_cases e : j = B + i
    · subst e
      rw [if_neg (by omega), if_pos (by omega), ax_u_at, show B + i - B = i from by omega]
    · rw [ax_u_k e]
      by_cases e2 : B + (i + 1) ≤ j ∧ j < B + (i + 1) + f
      · rw [if_pos e2, if_pos (by omega)]
      · rw [if_neg e2, if_neg (by omega)]
theorem xr_bk_187 {B j : Nat} : xr_bk M B 187 j = if j = B + 7 then 0 else if j = B + 3 then M 176 5 else if B ≤ j ∧ j < B + 3 then M 183 (j - B) else M 187 j := by
  unfold xr_bk
  by_cases e7 : j = B + 7
  · rw [if_pos e7, e7, ax_u_at]
  · rw [if_neg e7, ax_u_k e7]
    by_cases e3 : j = B + 3
    · rw [if_pos e3, e3, ax_u_at]
    · rw [if_neg e3, ax_u_k e3, xr_w3_187]
      rfl
theorem xr_res_187 {B j : Nat} {x f s : Int32} : xr_res M B x f s 187 j = if j = B + 6 then s else if j = B + 5 then f else if j = B + 4 then x else M 187 j := by
  unfold xr_res ax_u
  simp
/-- the search for the session that a request closes -/
theorem xr_cs_187 {B f : Nat} : ∀ {a : Nat} {M : ax_I}, ((∃ j, a ≤ j ∧ j < a + f ∧ xr_cc M j) → ∀ q, xr_cs B a f M 187 q = if q = B + 8 then M 183 4 else if q = B + 7 then 2 else M 187 q) ∧ ((∀ j, a ≤ j → j < a + f → ¬ xr_cc M j) → xr_cs B a f M = M) := by
  induction f with
  | zero => intro a M; exact ⟨fun ⟨j, g1, g2, _⟩ => by omega, fun _ => rfl⟩
  | succ f ih =>
    intro a M
    obtain ⟨i1, i2⟩ := ih (a := a + 1) (M := xr_c1 M B a)
    have hcc : ∀ j, xr_cc (xr_c1 M B a) j ↔ xr_cc M j := fun j => by
      have o : ∀ q, ¬ q = 187 → xr_c1 M B a q = M q := fun q g => by
        unfold xr_c1; split
        · funext y; simp [ax_u, g]
        · rfl
      unfold xr_cc
      rw [o 190 (by omega), o 191 (by omega), o 183 (by omega)]
    have o183 : xr_c1 M B a 183 = M 183 := by
      unfold xr_c1; split
      · funext y; simp [ax_u]
      · rfl
    unfold xr_cs
    refine ⟨fun hex q => ?_, fun hno => ?_⟩
    · by_cases e : ∃ j, a + 1 ≤ j ∧ j < a + 1 + f ∧ xr_cc M j
      · obtain ⟨j, g1, g2, g3⟩ := e
        rw [i1 ⟨j, g1, g2, (hcc j).mpr g3⟩ q, o183]
        unfold xr_c1
        by_cases e8 : q = B + 8
        · rw [if_pos e8, if_pos e8]
        · rw [if_neg e8, if_neg e8]
          by_cases e7 : q = B + 7
          · rw [if_pos e7, if_pos e7]
          · rw [if_neg e7, if_neg e7]
            split
            · rw [ax_u_k e8, ax_u_k e7]
            · rfl
      · have ha : xr_cc M a := by
          obtain ⟨j, g1, g2, g3⟩ := hex
          by_cases ej : j = a
          · rw [← ej]; exact g3
          · exact absurd ⟨j, by omega, by omega, g3⟩ e
        rw [i2 (fun j g1 g2 g3 => e ⟨j, g1, g2, (hcc j).mp g3⟩)]
        unfold xr_c1
        rw [if_pos ha]
        by_cases e8 : q = B + 8
        · rw [if_pos e8, e8, ax_u_at]
        · rw [if_neg e8, ax_u_k e8]
          by_cases e7 : q = B + 7
          · rw [if_pos e7, e7, ax_u_at]
          · rw [if_neg e7, ax_u_k e7]
    · have e1 : xr_c1 M B a = M := by unfold xr_c1; rw [if_neg (hno a (by omega) (by omega))]
      rw [i2 (fun j g1 g2 g3 => hno j (by omega) (by omega) ((hcc j).mp g3)), e1]
/-- the record that a request makes -/
theorem sm_newrec (hh : h < 2) (hk : k < 40) (hK : sm_K C M) (hck : C 2 4 = M 176 5) (hH : sm_H C M h k u) (hG : sm_G C M d) (hdg : kw_dg d) (hq : M 183 0 = 0 ∨ M 183 0 = 3) :
    sm_rec (xc_new C h k d) (xr_nw (xr_rp M h k) h (400 * h + 10 * k) 187) h k ∧ (∀ j, ¬ (400 * h + 10 * k ≤ j ∧ j < 400 * h + 10 * k + 10) → xr_nw (xr_rp M h k) h (400 * h + 10 * k) 187 j = M 187 j) := by
  have d1 := hdg.2.1
  have d2 := hdg.2.2
  obtain ⟨⟨o1, o2, o3⟩, -⟩ := sm_rp hH
  obtain ⟨a1, a2, a3, a4, a5, a6, a7, a8, a9, a10⟩ := hH
  have mr : ∀ q j, ¬ q = 190 → ¬ q = 191 → ¬ (q = 176 ∧ j = 19) → xr_rp M h k q j = M q j := fun q j g1 g2 g3 => xr_rp_o g1 g2 g3
  generalize hMr : xr_rp M h k = Mr at *
  have r187 : Mr 187 = M 187 := funext fun j => mr 187 j (by omega) (by omega) (by omega)
  have r183 : Mr 183 = M 183 := funext fun j => mr 183 j (by omega) (by omega) (by omega)
  generalize hB : 400 * h + 10 * k = B at *
  -- the reference's rows behind it, all but the record's own
  have hbk : ∀ j, xr_bk Mr B 187 j = if j = B + 7 then 0 else if j = B + 3 then M 176 5 else if B ≤ j ∧ j < B + 3 then M 183 (j - B) else M 187 j := fun j => by
    rw [xr_bk_187, r187, r183, mr 176 5 (by omega) (by omega) (by omega)]
  have bo : ∀ q, ¬ q = 187 → xr_bk Mr B q = Mr q := fun q g => xr_bk_o g
  have hout : ∀ j, ¬ (B ≤ j ∧ j < B + 10) → xr_nw Mr h B 187 j = M 187 j := fun j g => by
    have e7 : ¬ j = B + 7 := by omega
    have e3 : ¬ j = B + 3 := by omega
    have e8 : ¬ j = B + 8 := by omega
    have e9 : ¬ j = B + 9 := by omega
    have e6 : ¬ j = B + 6 := by omega
    have e5 : ¬ j = B + 5 := by omega
    have e4 : ¬ j = B + 4 := by omega
    have hb0 : xr_bk Mr B 187 j = M 187 j := by rw [hbk, if_neg e7, if_neg e3, if_neg (by omega)]
    have hres : ∀ x f s, xr_res (xr_bk Mr B) B x f s 187 j = M 187 j := fun x f s => by rw [xr_res_187, if_neg e6, if_neg e5, if_neg e4]; exact hb0
    unfold xr_nw
    split
    · unfold xr_ask
      split
      · exact hres _ _ _
      · split
        · split
          · rw [ax_u_k e9, ax_u_k e8, ax_u_k e7]; exact hres _ _ _
          · exact hres _ _ _
        · exact hres _ _ _
    · unfold xr_close
      by_cases e : ∃ j, 0 ≤ j ∧ j < 0 + 6 ∧ xr_cc (xr_res (xr_bk Mr B) B 4 (xr_bk Mr B 183 3) (xr_bk Mr B 183 4)) j
      · rw [(xr_cs_187 (B := B) (f := 6) (a := 0)).1 e, if_neg e8, if_neg e7]; exact hres _ _ _
      · rw [(xr_cs_187 (B := B) (f := 6) (a := 0)).2 (fun j g1 g2 g3 => e ⟨j, g1, g2, g3⟩)]; exact hres _ _ _
  refine ⟨?_, hout⟩
  -- sessions before it
  obtain ⟨w1, w2, w3⟩ := gs_congr (bk := M 187) (bk' := xr_nw Mr h B 187) (h := h) (r := k) (fun j g1 g2 => hout j (by omega))
  -- the class's row
  generalize hR : 88 + 48 * h + k = R at *
  have hRd : ¬ d + 1 = R := by omega
  have t0 : ∀ j, xc_tr C R (d + 1) (C 2 4) R j = if j = 4 then M 176 5 else if j = 3 then M 183 3 else if j = 2 then M 183 2 else if j = 1 then M 183 1 else if j = 0 then M 183 0 else C R j := fun j => by
    unfold xc_tr ax_u
    rw [hG.1 0 (by omega), hG.1 1 (by omega), hG.1 2 (by omega), hG.1 3 (by omega), hck]
    simp
  have to : ∀ q, ¬ q = R → xc_tr C R (d + 1) (C 2 4) q = C q := fun q g => xc_tr_o g
  -- rows 0 .. 3 of the reference, 0 .. 4 of the class
  have common : ∀ x f s, (∀ X, X = xc_sa (xc_tr C R (d + 1) (C 2 4)) R x f s → X R 0 = M 183 0 ∧ X R 1 = M 183 1 ∧ X R 2 = M 183 2 ∧ X R 3 = M 183 3 ∧ X R 4 = M 176 5 ∧ X R 5 = x ∧ X R 6 = f ∧ X R 7 = s) := fun x f s X hX => by
    subst hX
    refine ⟨?_, ?_, ?_, ?_, ?_, xc_sa_5, xc_sa_6, xc_sa_7⟩
    · rw [xc_sa_k (by omega), t0]; rfl
    · rw [xc_sa_k (by omega), t0]; rfl
    · rw [xc_sa_k (by omega), t0]; rfl
    · rw [xc_sa_k (by omega), t0]; rfl
    · rw [xc_sa_k (by omega), t0]; rfl
  have rcommon : ∀ x f s, (∀ X : Nat → Int32, (∀ j, j < B + 7 → X j = xr_res (xr_bk Mr B) B x f s 187 j) → X B = M 183 0 ∧ X (B + 1) = M 183 1 ∧ X (B + 2) = M 183 2 ∧ X (B + 3) = M 176 5 ∧ X (B + 4) = x ∧ X (B + 5) = f ∧ X (B + 6) = s) := fun x f s X hX => by
    refine ⟨?_, ?_, ?_, ?_, ?_, ?_, ?_⟩
    · rw [hX _ (by omega), xr_res_187, if_neg (by omega), if_neg (by omega), if_neg (by omega), hbk, if_neg (by omega), if_neg (by omega), if_pos (by omega), Nat.sub_self]
    · rw [hX _ (by omega), xr_res_187, if_neg (by omega), if_neg (by omega), if_neg (by omega), hbk, if_neg (by omega), if_neg (by omega), if_pos (by omega), show B + 1 - B = 1 from by omega]
    · rw [hX _ (by omega), xr_res_187, if_neg (by omega), if_neg (by omega), if_neg (by omega), hbk, if_neg (by omega), if_neg (by omega), if_pos (by omega), show B + 2 - B = 2 from by omega]
    · rw [hX _ (by omega), xr_res_187, if_neg (by omega), if_neg (by omega), if_neg (by omega), hbk, if_neg (by omega), if_pos (by omega)]
    · rw [hX _ (by omega), xr_res_187, if_neg (by omega), if_neg (by omega), if_pos (by omega)]
    · rw [hX _ (by omega), xr_res_187, if_neg (by omega), if_pos (by omega)]
    · rw [hX _ (by omega), xr_res_187, if_pos (by omega)]
  have res7 : ∀ x f s, xr_res (xr_bk Mr B) B x f s 187 (B + 7) = 0 := fun x f s => by
    rw [xr_res_187, if_neg (by omega), if_neg (by omega), if_neg (by omega), hbk, if_pos rfl]
  unfold sm_rec
  rw [hR, hB]
  simp only [w1, w2]
  right
  by_cases hk0 : M 183 0 = 0
  · -- a login
    have hSt : sm_S (xc_tr C R (d + 1) (C 2 4)) (M 187) h k := sm_S_fr (fun q g1 g2 => to q (by omega)) (fun _ _ _ => rfl) a10
    have b190 : ∀ a, a < 6 → xr_bk Mr B 190 a = gs_s (M 187) h k a := fun a ha => by rw [bo 190 (by omega)]; exact o1 a ha
    have b191 : ∀ a, a < 6 → ¬ gs_s (M 187) h k a = -1 → xr_bk Mr B 191 a = gs_w (M 187) h k a := fun a ha hn => by rw [bo 191 (by omega)]; exact o3 a ha hn
    have b183 : xr_bk Mr B 183 = M 183 := (bo 183 (by omega)).trans r183
    have eC : xc_new C h k d = xc_ask (xc_tr C R (d + 1) (C 2 4)) h R (M 183 4) := by
      unfold xc_new; rw [hG.1 0 (by omega), hG.1 4 (by omega), hk0, if_pos rfl, hR]
    have eM : xr_nw Mr h B = xr_ask (xr_bk Mr B) h B := by
      unfold xr_nw; rw [r183, hk0, if_pos rfl]
    have t3 : xc_tr C R (d + 1) (C 2 4) R 3 = M 183 3 := by rw [t0]; rfl
    have t2 : xc_tr C R (d + 1) (C 2 4) R 2 = M 183 2 := by rw [t0]; rfl
    have hKt : sm_K (xc_tr C R (d + 1) (C 2 4)) (xr_bk Mr B) := sm_K_fr (to 3 (by omega)) (to 4 (by omega)) ((bo 177 (by omega)).trans (funext fun j => mr 177 j (by omega) (by omega) (by omega))) ((bo 178 (by omega)).trans (funext fun j => mr 178 j (by omega) (by omega) (by omega))) hK
    have hpw : M 183 4 ^^^ xa_mix (xc_key (xc_tr C R (d + 1) (C 2 4)) ((xc_tr C R (d + 1) (C 2 4)) (80 + 48 * h) 0) 2) (M 183 2) = xr_pw (xr_bk Mr B) h := by
      unfold xr_pw
      rw [to _ (by omega), a7, b183, sm_key hKt (sm_sth hh), show h + 3 = 3 + h from by omega]
    have b9 : xr_bk Mr B 179 = M 179 := (bo 179 (by omega)).trans (funext fun j => mr 179 j (by omega) (by omega) (by omega))
    have b80 : xr_bk Mr B 180 = M 180 := (bo 180 (by omega)).trans (funext fun j => mr 180 j (by omega) (by omega) (by omega))
    have b81 : xr_bk Mr B 181 = M 181 := (bo 181 (by omega)).trans (funext fun j => mr 181 j (by omega) (by omega) (by omega))
    have b88 : xr_bk Mr B 188 = M 188 := (bo 188 (by omega)).trans (funext fun j => mr 188 j (by omega) (by omega) (by omega))
    generalize hpwe : xr_pw (xr_bk Mr B) h = pw at *
    -- who is let in
    have hadm : xc_adm (xc_tr C R (d + 1) (C 2 4)) h (M 183 3) pw ↔ ¬ xr_wr (xr_bk Mr B) h (M 183 3) pw := by
      unfold xc_adm xr_wr xc_us
      rw [to _ (by omega), to _ (by omega), b9, b80]
      by_cases hu : vp_in (M 183 3) 12
      · obtain ⟨x, hx, e⟩ := vp_in_of hu (by decide)
        rw [e, nI_clamp (by omega), kw_and1 (by omega), nI_eq (by omega) (by omega)]
        have p1 := nI_pos (n := x) (by omega)
        have p2 : ¬ (12 : Int32) ≤ nI x := nI_ge (a := x) (b := 12) hx (by decide)
        have p3 : ¬ (11 : Int32) < nI x := nI_nlt (a := 11) (b := x) (by omega) (by decide)
        rcases a8 x hx with ⟨g1, g2, g3, g4, m, hm, g5⟩ | ⟨g1, g2⟩
        · rw [g3, g4, g5]
          constructor
          · rintro ⟨_, _, k3⟩ k4; exact k4 ⟨p1, p3, g1, g2, k3⟩
          · intro k4
            obtain ⟨_, _, _, _, k5⟩ := Classical.not_not.mp k4
            exact ⟨⟨p1, p2⟩, kw_nm1 m (by omega), k5⟩
        · rw [g2]
          constructor
          · rintro ⟨_, k2, _⟩; exact absurd rfl k2
          · intro k4
            obtain ⟨_, _, k3, k5, _⟩ := Classical.not_not.mp k4
            exact absurd ⟨k3, k5⟩ g1
      · constructor
        · rintro ⟨⟨k1, k2⟩, _⟩; exact absurd (kw_iny rfl k1 k2) hu
        · intro k4
          obtain ⟨k1, k2, _⟩ := Classical.not_not.mp k4
          exact absurd (kw_inq rfl k1 k2) hu
    have hcnt := sm_cnt hSt a2 b190 b191 (M 183 3)
    obtain ⟨hleast, hfree⟩ := sm_least hSt a2 b190
    rw [eC, eM]
    unfold xc_ask xr_ask
    rw [t3, t2, hpw, b183, hpwe, hcnt, hleast]
    by_cases hw : xr_wr (xr_bk Mr B) h (M 183 3) pw
    · rw [if_neg (fun g => hadm.mp g hw), if_pos hw]
      obtain ⟨c0, c1, c2, c3, c4, c5, c6, c7⟩ := common 2 1 0 _ rfl
      obtain ⟨q0, q1, q2, q3, q4, q5, q6⟩ := rcommon 2 1 0 _ (fun j _ => rfl)
      rw [c0, c1, c2, c4, c5, c6, c7, q0, q1, q2, q3, q4, q5, q6, res7]
      exact ⟨hq, rfl, rfl, rfl, rfl, rfl, rfl, rfl, Or.inr (Or.inl ⟨rfl, rfl⟩)⟩
    · rw [if_pos (hadm.mpr hw), if_neg hw, to _ (show ¬ 82 + 48 * h = R from by omega), b81]
      have hlim : C (82 + 48 * h) (M 183 3).toNatClampNeg = M 181 (M 183 3).toNatClampNeg := by
        obtain ⟨k1, k2, k3, k5, _⟩ := Classical.not_not.mp hw
        obtain ⟨x, hx, e⟩ := vp_in_of (kw_inq (L := 12) rfl k1 k2) (by decide)
        rw [e, nI_clamp (by omega)]
        rw [e, nI_clamp (by omega), b9] at k5
        rw [e, kw_and1 (by omega), nI_eq (by omega) (by omega)] at k3
        rcases a8 x hx with ⟨g1, g2, g3, g4, _⟩ | ⟨g1, g2⟩
        · exact g3
        · exact absurd ⟨k3, k5⟩ g1
      rw [hlim]
      by_cases hl : xr_do (xr_bk Mr B) (M 183 3) 6 0 < M 181 (M 183 3).toNatClampNeg
      · rw [if_pos hl, if_pos hl]
        cases e : xc_least (xc_tr C R (d + 1) (C 2 4)) h with
        | none =>
          rw [e] at hleast
          have hm1 : xr_df (xr_bk Mr B) 6 (-1) = -1 := hleast.symm
          rw [hm1, if_pos rfl, if_neg (by decide)]
          obtain ⟨c0, c1, c2, c3, c4, c5, c6, c7⟩ := common 2 3 0 _ rfl
          obtain ⟨q0, q1, q2, q3, q4, q5, q6⟩ := rcommon 2 3 0 _ (fun j _ => rfl)
          rw [c0, c1, c2, c4, c5, c6, c7, q0, q1, q2, q3, q4, q5, q6, res7]
          exact ⟨hq, rfl, rfl, rfl, rfl, rfl, rfl, rfl, Or.inr (Or.inl ⟨rfl, rfl⟩)⟩
        | some j =>
          obtain ⟨hj, hsj⟩ := hfree j e
          rw [e] at hleast
          have hm1 : xr_df (xr_bk Mr B) 6 (-1) = nI j := hleast.symm
          rw [hm1, if_neg (kw_nm1 j (by omega)), if_pos (nI_pos' (by omega)), to _ (show ¬ 80 + 48 * h = R from by omega), a3, b88, a4]
          obtain ⟨c0, c1, c2, c3, c4, c5, c6, c7⟩ := common 1 (nI k) (nI j) _ rfl
          obtain ⟨q0, q1, q2, q3, q4, q5, q6⟩ := rcommon 1 (nI k) (nI j) (ax_u (ax_u (ax_u (xr_res (xr_bk Mr B) B 1 (nI k) (nI j)) 187 (B + 7) 1) 187 (B + 8) (M 183 3)) 187 (B + 9) (nI j) 187) (fun y hy => by rw [ax_u_k (by omega), ax_u_k (by omega), ax_u_k (by omega)])
          rw [c0, c1, c2, c3, c4, c5, c6, c7, q0, q1, q2, q3, q4, q5, q6]
          refine ⟨hq, rfl, rfl, rfl, rfl, rfl, rfl, rfl, Or.inl ⟨rfl, rfl, ?_, ?_, j, hj, rfl, ?_, hsj⟩⟩
          · rw [ax_u_k (by omega), ax_u_k (by omega), ax_u_at]
          · rw [ax_u_k (by omega), ax_u_at]
          · rw [ax_u_at]
      · rw [if_neg hl, if_neg hl]
        obtain ⟨c0, c1, c2, c3, c4, c5, c6, c7⟩ := common 2 2 0 _ rfl
        obtain ⟨q0, q1, q2, q3, q4, q5, q6⟩ := rcommon 2 2 0 _ (fun j _ => rfl)
        rw [c0, c1, c2, c4, c5, c6, c7, q0, q1, q2, q3, q4, q5, q6, res7]
        exact ⟨hq, rfl, rfl, rfl, rfl, rfl, rfl, rfl, Or.inr (Or.inl ⟨rfl, rfl⟩)⟩
  · -- a closing
    have b183 : xr_bk Mr B 183 = M 183 := (bo 183 (by omega)).trans r183
    have eC : xc_new C h k d = xc_sa (xc_tr C R (d + 1) (C 2 4)) R 4 (M 183 3) (M 183 4) := by
      unfold xc_new; rw [hG.1 0 (by omega), hG.1 3 (by omega), hG.1 4 (by omega), if_neg hk0, hR]
    have eM : xr_nw Mr h B = xr_cs B 0 6 (xr_res (xr_bk Mr B) B 4 (M 183 3) (M 183 4)) := by
      unfold xr_nw xr_close; rw [r183, if_neg hk0, b183]
    have hcc : ∀ a, a < 6 → (xr_cc (xr_res (xr_bk Mr B) B 4 (M 183 3) (M 183 4)) a ↔ ¬ gs_s (M 187) h k a = -1 ∧ gs_s (M 187) h k a = M 183 4 ∧ gs_w (M 187) h k a = M 183 3) := fun a ha => by
      have z := sm_s0 a10 a2 ha
      unfold xr_cc
      rw [xr_res_o (by omega), xr_res_o (by omega), xr_res_o (by omega), b183, bo 190 (by omega), bo 191 (by omega), o1 a ha]
      constructor
      · rintro ⟨g1, g2, g3⟩
        have hn : ¬ gs_s (M 187) h k a = -1 := fun e => g1 (by rw [e]; decide)
        rw [o3 a ha hn] at g3
        exact ⟨hn, g2, g3⟩
      · rintro ⟨g1, g2, g3⟩
        refine ⟨fun e => ?_, g2, by rw [o3 a ha g1]; exact g3⟩
        exact (z.2.1.mp e) (z.2.2.mp g1)
    obtain ⟨c0, c1, c2, c3, c4, c5, c6, c7⟩ := common 4 (M 183 3) (M 183 4) _ rfl
    rw [eC, eM, c0, c1, c2, c4, c5, c6, c7]
    by_cases e : ∃ a, a < 6 ∧ ¬ gs_s (M 187) h k a = -1 ∧ gs_s (M 187) h k a = M 183 4 ∧ gs_w (M 187) h k a = M 183 3
    · obtain ⟨a, ha, g1, g2, g3⟩ := e
      have hcs := (xr_cs_187 (B := B) (f := 6) (a := 0) (M := xr_res (xr_bk Mr B) B 4 (M 183 3) (M 183 4))).1 ⟨a, by omega, by omega, (hcc a ha).mpr ⟨g1, g2, g3⟩⟩
      obtain ⟨q0, q1, q2, q3, q4, q5, q6⟩ := rcommon 4 (M 183 3) (M 183 4) (xr_cs B 0 6 (xr_res (xr_bk Mr B) B 4 (M 183 3) (M 183 4)) 187) (fun y hy => by rw [hcs, if_neg (by omega), if_neg (by omega)])
      rw [q0, q1, q2, q3, q4, q5, q6]
      have hx : ∃ x, x < k ∧ gs_s (M 187) h k a = nI x := by
        rcases a10.1 a ha with ⟨k1, -⟩ | ⟨x, hx, k1, -⟩
        · exact absurd k1 g1
        · exact ⟨x, hx, k1⟩
      obtain ⟨x, hx, hgx⟩ := hx
      refine ⟨hq, rfl, rfl, rfl, rfl, rfl, rfl, rfl, Or.inr (Or.inr ⟨rfl, Or.inl ⟨a, x, ha, hx, hgx, g3, g2.symm.trans hgx, ?_, ?_⟩⟩)⟩
      · rw [hcs, if_neg (by omega), if_pos rfl]
      · rw [hcs, if_pos rfl, xr_res_o (by omega), b183]; exact g2.symm.trans hgx
    · have hcs := (xr_cs_187 (B := B) (f := 6) (a := 0) (M := xr_res (xr_bk Mr B) B 4 (M 183 3) (M 183 4))).2 (fun a _ g2 g3 => e ⟨a, by omega, (hcc a (by omega)).mp g3⟩)
      rw [hcs]
      obtain ⟨q0, q1, q2, q3, q4, q5, q6⟩ := rcommon 4 (M 183 3) (M 183 4) _ (fun j _ => rfl)
      rw [q0, q1, q2, q3, q4, q5, q6, res7]
      exact ⟨hq, rfl, rfl, rfl, rfl, rfl, rfl, rfl, Or.inr (Or.inr ⟨rfl, Or.inr ⟨rfl, fun j hj g1 g2 => e ⟨j, hj, g1, g2⟩⟩⟩)⟩
end SMX
