
/-! THE LAW. -/
def kw_Z : ax_I := fun _ _ => 0
def kw_Y : ax_P := fun _ _ => 0
def kw_P0 : ax_P := xi_mo (xi_sF kw_Y)
def kw_C0 : ax_I := xi_cF kw_Z
def kw_M0 : ax_I := ax_u (ax_u kw_Z 185 0 7) 185 1 7
theorem ks_dg : ∀ d, d < 25 → kw_P0 (6 + 2 * d) 0 = 6 + 2 * d + 1 := by decide +kernel
theorem ks_pt : ∀ p, p < 2 → kw_P0 56 p = 57 + 6 * p ∧ kw_P0 (57 + 6 * p) 1 = 58 + 6 * p ∧ ∀ i, i < 4 → kw_P0 (58 + 6 * p) i = 59 + 6 * p + i := by decide +kernel
theorem ks_en : ∀ i, i < 8 → kw_P0 70 i = 71 + i := by decide +kernel
theorem ks_hm : ∀ h, h < 2 → kw_P0 79 h = 80 + 48 * h ∧ kw_P0 (80 + 48 * h) 1 = 81 + 48 * h ∧ kw_P0 (80 + 48 * h) 2 = 82 + 48 * h ∧ kw_P0 (80 + 48 * h) 3 = 83 + 48 * h ∧ kw_P0 (80 + 48 * h) 4 = 87 + 48 * h ∧ kw_P0 (83 + 48 * h) 0 = 84 + 48 * h ∧ kw_P0 (83 + 48 * h) 1 = 85 + 48 * h ∧ kw_P0 (83 + 48 * h) 2 = 86 + 48 * h := by decide +kernel
theorem ks_rc : ∀ h, h < 2 → ∀ r, r < 40 → kw_P0 (87 + 48 * h) r = 88 + 48 * h + r := by decide +kernel
theorem ks_mo : ∀ k, k < 20 → kw_mo k ≠ 0 → kw_P0 176 k = kw_mo k := by decide +kernel
theorem ks_fl : ∀ i, i < 24 → kw_P0 5 i = 8 + 2 * i := by decide +kernel
theorem ks_1 : kw_P0 1 0 = 2 ∧ kw_P0 1 1 = 56 ∧ kw_P0 1 2 = 69 ∧ kw_P0 1 3 = 79 ∧ kw_P0 2 0 = 3 ∧ kw_P0 2 1 = 4 ∧ kw_P0 2 2 = 5 ∧ kw_P0 69 0 = 70 ∧ kw_P0 2 5 = 6 := by decide +kernel
theorem ks_ps : kw_ps kw_P0 := by
  obtain ⟨a1, a2, a3, a4, b1, b2, b3, c1, c2⟩ := ks_1
  refine ⟨⟨a1, a2, a3, a4⟩, ⟨b1, b2, b3⟩, fun d hd => ?_, fun p hp => (ks_pt p hp).1, fun p hp => (ks_pt p hp).2.1, fun p i hp hi => (ks_pt p hp).2.2 i hi, c1, ks_en, fun h hh => (ks_hm h hh).1, fun h hh => (ks_hm h hh).2, fun h r hh hr => ks_rc h hh r hr, fun k hk => ?_, fun i hi => ?_, ?_⟩
  · have h1 := hd.1
    have h2 := hd.2.1
    have h3 := hd.2.2
    have e : d = 6 + 2 * ((d - 6) / 2) := by omega
    rw [e]; exact ks_dg _ (by omega)
  · by_cases h : k < 20
    · exact ks_mo k h hk
    · exfalso
      apply hk
      unfold kw_mo
      split <;> first | omega | rfl
  · rw [ks_fl i hi]; exact ⟨by omega, by omega, by omega⟩
  · rw [c2]; exact ⟨by omega, by omega, by omega⟩
theorem ks_C : (∀ j, j < 4 → kw_C0 3 j = kw_M0 177 j ∧ kw_C0 4 j = kw_M0 178 j) ∧ kw_C0 2 3 = nI 0 ∧ kw_M0 176 7 = nI 0 ∧ (∀ p, p < 2 → ∀ i, i < 4 → ∀ k, k < 10 → kw_C0 (59 + 6 * p + i) k = kw_M0 184 (10 * (4 * p + i) + sm_o k)) ∧ kw_C0 2 4 = kw_M0 176 5 ∧ (∀ p, p < 2 → kw_C0 (57 + 6 * p) 0 = nI p ∧ kw_M0 185 p = nI 7 ∧ kw_C0 (57 + 6 * p) 2 = -1) ∧ (∀ r, r < 8 → kw_M0 184 (10 * r) = 0) := by decide +kernel
theorem ks_R : kw_M0 176 12 = nI 0 ∧ kw_M0 176 13 = nI 0 ∧ kw_C0 69 2 = nI 0 ∧ kw_C0 69 1 = -1 ∧ (∀ q, q < 8 → kw_C0 (71 + q) 0 = 0) := by decide +kernel
theorem ks_H : ∀ h, h < 2 → kw_C0 (80 + 48 * h) 5 = nI 0 ∧ kw_M0 188 h = nI 0 ∧ kw_C0 (80 + 48 * h) 6 = nI 0 ∧ kw_M0 189 h = nI 0 ∧ kw_C0 (80 + 48 * h) 0 = nI (3 + h) ∧ (∀ x, x < 12 → kw_M0 179 x = 0 ∧ kw_C0 (82 + 48 * h) x = -1) ∧ (∀ a, a < 6 → kw_C0 (84 + 48 * h) a = 0) ∧ kw_C0 (83 + 48 * h) 3 = 0 := by decide +kernel
theorem ks_h0 : ∀ h, h < 2 → sm_H kw_C0 kw_M0 h 0 0 := fun h hh => by
  obtain ⟨a1, a2, a3, a4, a5, a6, a7, a8⟩ := ks_H h hh
  refine ⟨Nat.le_refl _, by omega, a1, a2, a3, a4, a5, fun x hx => Or.inr ⟨fun g => g.2 (a6 x hx).1, (a6 x hx).2⟩, fun r hr => by omega, fun a ha => Or.inl ⟨rfl, a7 a ha⟩, a8, fun a b _ _ _ hn => absurd rfl hn⟩
theorem ks_all : sm_All kw_C0 kw_P0 kw_M0 0 := by
  obtain ⟨c1, c2, c3, c4, c5, c6, c7⟩ := ks_C
  obtain ⟨r1, r2, r3, r4, r5⟩ := ks_R
  have hng : ∀ r, r < 8 → ¬ xr_pg kw_M0 r := fun r hr => by unfold xr_pg; rw [c7 r hr]; decide
  refine ⟨ks_ps, ⟨0, c1, ⟨by omega, c2, c3, fun i hi j hj h => ?_, fun i hi h => ?_, fun i hi => by omega, fun i hi => by omega⟩, ⟨c4, c5, fun p hp => (c6 p hp).1, fun p hp => ⟨7, by omega, (c6 p hp).2.1, Or.inr ⟨rfl, (c6 p hp).2.2⟩⟩, ⟨fun r hr => Or.inl (c7 r hr), fun p hp i hi j hj g => absurd g (hng _ (by omega))⟩⟩⟩, fun r hr g => absurd g (hng r hr), ⟨0, 0, Nat.le_refl _, r1, r2, Nat.le_refl _, r3, by rw [if_pos rfl]; exact r4, fun e g1 g2 => by omega, fun q g1 _ => r5 q g1, fun e g1 g2 => by omega, fun e e' g1 g2 g3 => by omega⟩, ⟨0, 0, ks_h0 0 (by omega)⟩, ⟨0, 0, ks_h0 1 (by omega)⟩⟩
  · rw [ks_fl i hi, ks_fl j hj] at h; omega
  · rw [ks_fl i hi, ks_1.2.2.2.2.2.2.2.2] at h; omega
theorem ks_zP : ∀ q, 175 < q → ∀ j, xi_sF kw_Y q j = 0 := fun q g j => by
  unfold xi_sF xi_hm xi_hmB xi_se
  rw [ax_u_n (by omega), xi_ar_o (by omega), ax_u_n (by omega), ax_u_n (by omega), ax_u_n (by omega), ax_u_n (by omega), ax_u_n (by omega), ax_u_n (by omega), ax_u_n (by omega)]
  unfold xi_s7 xi_hm xi_hmB xi_se
  rw [ax_u_n (by omega), xi_ar_o (by omega), ax_u_n (by omega), ax_u_n (by omega), ax_u_n (by omega), ax_u_n (by omega), ax_u_n (by omega), ax_u_n (by omega), ax_u_n (by omega)]
  unfold xi_s6 xi_s5 xi_rel
  rw [ax_u_n (by omega), ax_u_n (by omega), xi_ar_o (by omega), ax_u_n (by omega)]
  unfold xi_s4 xi_s3 xi_pt
  rw [ax_u_n (by omega), xi_ar_o (by omega), ax_u_n (by omega), ax_u_n (by omega), xi_ar_o (by omega), ax_u_n (by omega)]
  unfold xi_s2 xi_s1 xi_net
  rw [ax_u_n (by omega), ax_u_n (by omega), xi_nt_o (by omega) (by omega), ax_u_n (by omega), ax_u_n (by omega), ax_u_n (by omega), ax_u_n (by omega), ax_u_n (by omega)]
  rfl
section QL
variable {l : Launch} {D : va_G} {aC : Nat → ClassId} {b : Nat} {own : String} {cc : ByteArray} {nL : Nat} {ret0 : Option FieldType} {ini : Bool} {R : Room} {N0 : Nat} {F : List Frame → Array Value → State → State → Prop} {Xs : State → Prop} {pc pc1 : Nat} {ls : List (Nat × ax_V)} {st : List ax_V} {cells slots : Nat} {C M : ax_I} {P : ax_P} {bS L : Nat} {xs : Nat → Int32}
theorem ql_len (hd : decode cc pc = .ok (.arraylength, 1)) (hp : pc + 1 = pc1) (hX : ∀ U : State, Xs U → va_X bS L xs U U.heap ∧ bS < U.heap.size ∧ ¬ b < bS) (k : ax_G l D aC b own cc nL ret0 ini R N0 F Xs pc1 ls (.inl (nI L) :: st) cells slots kw_K kw_L (kw_gl C M) P) : ax_G l D aC b own cc nL ret0 ini R N0 F Xs pc ls (.inr (.inr bS) :: st) cells slots kw_K kw_L (kw_gl C M) P := by
  subst hp
  intro p e s m args below meth c E hz lsR H locs hl hP hS
  obtain ⟨x1, x2, x3⟩ := hX s E.xs
  exact va_slen E.ex E.bt x1 x2 x3 hS hd (k p e s m args below meth c E hz lsR H locs hl hP hS)
theorem ql_ld {j : Nat} (hd : decode cc pc = .ok (.iaload, 1)) (hp : pc + 1 = pc1) (hX : ∀ U : State, Xs U → va_X bS L xs U U.heap ∧ bS < U.heap.size ∧ ¬ b < bS) (hj : j < L) (hL : L < 2 ^ 31) (k : ax_G l D aC b own cc nL ret0 ini R N0 F Xs pc1 ls (.inl (xs j) :: st) cells slots kw_K kw_L (kw_gl C M) P) : ax_G l D aC b own cc nL ret0 ini R N0 F Xs pc ls (.inl (nI j) :: .inr (.inr bS) :: st) cells slots kw_K kw_L (kw_gl C M) P := by
  subst hp
  rw [← nI_clamp (show j < 2 ^ 31 from by omega)] at k
  intro p e s m args below meth c E hz lsR H locs hl hP hS
  obtain ⟨x1, x2, x3⟩ := hX s E.xs
  exact va_sld E.ex E.bt x1 x2 x3 hS (vp_in_nI hj hL) hd (k p e s m args below meth c E hz lsR H locs hl hP hS)
end QL
theorem ks_lt {L j : Nat} (hL : L ≤ 3072) (hj : j ≤ 3072) : ¬ nI L - 6 < nI j ↔ j + 6 ≤ L := by
  by_cases h : 6 ≤ L
  · rw [show (6 : Int32) = nI 6 from rfl, kw_sub h, nI_ltI (by omega) (by omega)]
    omega
  · have h1 : nI L - 6 < 0 := by
      have : L = 0 ∨ L = 1 ∨ L = 2 ∨ L = 3 ∨ L = 4 ∨ L = 5 := by omega
      rcases this with rfl | rfl | rfl | rfl | rfl | rfl <;> decide
    constructor
    · intro g
      exact absurd (Int32.lt_of_lt_of_le h1 (nI_pos' (n := j) (by omega))) g
    · intro g; omega


section LAW
variable {l : Launch} {D : va_G} {aC : Nat → ClassId} {b : Nat} {Xs : State → Prop} {bS L : Nat} {xs : Nat → Int32}
/-- the law's end -/
theorem ql_ret {pc : Nat} {ls : List (Nat × ax_V)} {cells slots : Nat} {C M : ax_I} {P : ax_P} (hd : decode cL_law pc = .ok (.ireturn, 1)) (h1 : cells ≤ 600000) (h2 : slots ≤ 7302249) : ax_G l D aC b RL cL_law 4 (some .boolean) false room_1 0 lw_Z Xs pc ls [.inl 1] cells slots kw_K kw_L (kw_gl C M) P := by
  intro p e s m args below meth c E hz lsR H locs hl hP hS
  refine va_forget (fun q hq => ?_) (W.widen h1 h2 ?_)
  · have := hS.2.2 q hq
    have g : b < q.base := this
    omega
  · exact lw_retG E.ex E.bt E.rt E.lk hd

set_option maxRecDepth 20000 in
set_option maxHeartbeats 4000000 in
theorem ql_key {t : Nat} {C M : ax_I} {P : ax_P} (hX : ∀ U : State, Xs U → va_X bS L xs U U.heap ∧ bS < U.heap.size ∧ ¬ b < bS) (hL : L ≤ 3072) (ht : 6 * t + 6 ≤ L) (hA : sm_All C P M t) (k : ∀ C' M' P', sm_All C' P' M' (t + 1) → ax_G l D aC b RL cL_law 4 (some .boolean) false room_1 0 lw_Z Xs 677 [(3, .inl (nI (6 * t))), (0, .inr (.inr bS)), (1, .inr (.inl 1)), (2, .inr (.inl 176))] [] 191 5492 kw_K kw_L (kw_gl C' M') P') : ax_G l D aC b RL cL_law 4 (some .boolean) false room_1 0 lw_Z Xs 116 [(3, .inl (nI (6 * t))), (0, .inr (.inr bS)), (1, .inr (.inl 1)), (2, .inr (.inl 176))] [] 191 5492 kw_K kw_L (kw_gl C M) P := by
  obtain ⟨v, C2, P2, M2, k1, k2, hA2⟩ := op_key (l := l) (D := D) (aC := aC) (b := b) hA (by omega) (xs (6 * t + 1)) (xs (6 * t + 2)) (xs (6 * t + 3))
  refine qa_aload_n (pc1 := 117) dL_law_116 rfl rfl rfl ?_
  refine qa_aload_n (pc1 := 118) dL_law_117 rfl rfl rfl ?_
  refine qa_iload_n (pc1 := 119) dL_law_118 rfl rfl rfl ?_
  refine qa_iconst (pc1 := 120) dL_law_119 (v := (nI 1)) kc_i1N rfl ?_
  refine qn_iadd (pc1 := 121) dL_law_120 rfl ?_
  refine ql_ld (pc1 := 122) dL_law_121 rfl hX (by omega) (by omega) ?_
  refine qa_aload_n (pc1 := 123) dL_law_122 rfl rfl rfl ?_
  refine qa_iload_n (pc1 := 124) dL_law_123 rfl rfl rfl ?_
  refine qa_iconst (pc1 := 125) dL_law_124 (v := (nI 2)) kc_i2N rfl ?_
  refine qn_iadd (pc1 := 126) dL_law_125 rfl ?_
  refine ql_ld (pc1 := 127) dL_law_126 rfl hX (by omega) (by omega) ?_
  refine qa_aload_n (pc1 := 128) dL_law_127 rfl rfl rfl ?_
  refine qa_iload_n (pc1 := 129) dL_law_128 rfl rfl rfl ?_
  refine qa_iconst (pc1 := 130) dL_law_129 (v := (nI 3)) kc_i3N rfl ?_
  refine qn_iadd (pc1 := 131) dL_law_130 rfl ?_
  refine ql_ld (pc1 := 132) dL_law_131 rfl hX (by omega) (by omega) ?_
  refine qa_callVi (pc1 := 135) dL_law_132 rfl k1 wc_L_13 wy_X0_key rfl rfl (ci := k_rl) rfl ko_rl (by decide) rfl ?_
  refine qa_aload_n (pc1 := 136) dL_law_135 rfl rfl rfl ?_
  refine qa_aload_n (pc1 := 137) dL_law_136 rfl rfl rfl ?_
  refine qa_iload_n (pc1 := 138) dL_law_137 rfl rfl rfl ?_
  refine qa_iconst (pc1 := 139) dL_law_138 (v := (nI 1)) kc_i1N rfl ?_
  refine qn_iadd (pc1 := 140) dL_law_139 rfl ?_
  refine ql_ld (pc1 := 141) dL_law_140 rfl hX (by omega) (by omega) ?_
  refine qa_aload_n (pc1 := 142) dL_law_141 rfl rfl rfl ?_
  refine qa_iload_n (pc1 := 143) dL_law_142 rfl rfl rfl ?_
  refine qa_iconst (pc1 := 144) dL_law_143 (v := (nI 2)) kc_i2N rfl ?_
  refine qn_iadd (pc1 := 145) dL_law_144 rfl ?_
  refine ql_ld (pc1 := 146) dL_law_145 rfl hX (by omega) (by omega) ?_
  refine qa_aload_n (pc1 := 147) dL_law_146 rfl rfl rfl ?_
  refine qa_iload_n (pc1 := 148) dL_law_147 rfl rfl rfl ?_
  refine qa_iconst (pc1 := 149) dL_law_148 (v := (nI 3)) kc_i3N rfl ?_
  refine qn_iadd (pc1 := 150) dL_law_149 rfl ?_
  refine ql_ld (pc1 := 151) dL_law_150 rfl hX (by omega) (by omega) ?_
  refine qa_callVi (pc1 := 154) dL_law_151 rfl k2 wc_L_17 wy_X10_key rfl rfl (ci := k_mo) rfl ko_mo (by decide) rfl ?_
  refine qt_ic_eq (tgt := 677) dL_law_154 rfl rfl ?_
  exact qa_ls (by exact (kw_lsc rfl (kw_lsc rfl (kw_lsc rfl (kw_lsc rfl kw_lsn))))) (k _ _ _ hA2)
set_option maxRecDepth 20000 in
set_option maxHeartbeats 4000000 in
theorem ql_enrol {t : Nat} {C M : ax_I} {P : ax_P} (hX : ∀ U : State, Xs U → va_X bS L xs U U.heap ∧ bS < U.heap.size ∧ ¬ b < bS) (hL : L ≤ 3072) (ht : 6 * t + 6 ≤ L) (hA : sm_All C P M t) (k : ∀ C' M' P', sm_All C' P' M' (t + 1) → ax_G l D aC b RL cL_law 4 (some .boolean) false room_1 0 lw_Z Xs 677 [(3, .inl (nI (6 * t))), (0, .inr (.inr bS)), (1, .inr (.inl 1)), (2, .inr (.inl 176))] [] 191 5492 kw_K kw_L (kw_gl C' M') P') : ax_G l D aC b RL cL_law 4 (some .boolean) false room_1 0 lw_Z Xs 159 [(3, .inl (nI (6 * t))), (0, .inr (.inr bS)), (1, .inr (.inl 1)), (2, .inr (.inl 176))] [] 191 5492 kw_K kw_L (kw_gl C M) P := by
  obtain ⟨v, C2, P2, M2, k1, k2, hA2⟩ := op_enrol (l := l) (D := D) (aC := aC) (b := b) hA (by omega) (xs (6 * t + 1)) (xs (6 * t + 2)) (xs (6 * t + 3))
  refine qa_aload_n (pc1 := 160) dL_law_159 rfl rfl rfl ?_
  refine qa_aload_n (pc1 := 161) dL_law_160 rfl rfl rfl ?_
  refine qa_iload_n (pc1 := 162) dL_law_161 rfl rfl rfl ?_
  refine qa_iconst (pc1 := 163) dL_law_162 (v := (nI 1)) kc_i1N rfl ?_
  refine qn_iadd (pc1 := 164) dL_law_163 rfl ?_
  refine ql_ld (pc1 := 165) dL_law_164 rfl hX (by omega) (by omega) ?_
  refine qa_aload_n (pc1 := 166) dL_law_165 rfl rfl rfl ?_
  refine qa_iload_n (pc1 := 167) dL_law_166 rfl rfl rfl ?_
  refine qa_iconst (pc1 := 168) dL_law_167 (v := (nI 2)) kc_i2N rfl ?_
  refine qn_iadd (pc1 := 169) dL_law_168 rfl ?_
  refine ql_ld (pc1 := 170) dL_law_169 rfl hX (by omega) (by omega) ?_
  refine qa_aload_n (pc1 := 171) dL_law_170 rfl rfl rfl ?_
  refine qa_iload_n (pc1 := 172) dL_law_171 rfl rfl rfl ?_
  refine qa_iconst (pc1 := 173) dL_law_172 (v := (nI 3)) kc_i3N rfl ?_
  refine qn_iadd (pc1 := 174) dL_law_173 rfl ?_
  refine ql_ld (pc1 := 175) dL_law_174 rfl hX (by omega) (by omega) ?_
  refine qa_callVi (pc1 := 178) dL_law_175 rfl k1 wc_L_18 wy_X0_enrol rfl rfl (ci := k_rl) rfl ko_rl (by decide) rfl ?_
  refine qa_aload_n (pc1 := 179) dL_law_178 rfl rfl rfl ?_
  refine qa_aload_n (pc1 := 180) dL_law_179 rfl rfl rfl ?_
  refine qa_iload_n (pc1 := 181) dL_law_180 rfl rfl rfl ?_
  refine qa_iconst (pc1 := 182) dL_law_181 (v := (nI 1)) kc_i1N rfl ?_
  refine qn_iadd (pc1 := 183) dL_law_182 rfl ?_
  refine ql_ld (pc1 := 184) dL_law_183 rfl hX (by omega) (by omega) ?_
  refine qa_aload_n (pc1 := 185) dL_law_184 rfl rfl rfl ?_
  refine qa_iload_n (pc1 := 186) dL_law_185 rfl rfl rfl ?_
  refine qa_iconst (pc1 := 187) dL_law_186 (v := (nI 2)) kc_i2N rfl ?_
  refine qn_iadd (pc1 := 188) dL_law_187 rfl ?_
  refine ql_ld (pc1 := 189) dL_law_188 rfl hX (by omega) (by omega) ?_
  refine qa_aload_n (pc1 := 190) dL_law_189 rfl rfl rfl ?_
  refine qa_iload_n (pc1 := 191) dL_law_190 rfl rfl rfl ?_
  refine qa_iconst (pc1 := 192) dL_law_191 (v := (nI 3)) kc_i3N rfl ?_
  refine qn_iadd (pc1 := 193) dL_law_192 rfl ?_
  refine ql_ld (pc1 := 194) dL_law_193 rfl hX (by omega) (by omega) ?_
  refine qa_callVi (pc1 := 197) dL_law_194 rfl k2 wc_L_21 wy_X10_enrol rfl rfl (ci := k_mo) rfl ko_mo (by decide) rfl ?_
  refine qt_ic_eq (tgt := 677) dL_law_197 rfl rfl ?_
  exact qa_ls (by exact (kw_lsc rfl (kw_lsc rfl (kw_lsc rfl (kw_lsc rfl kw_lsn))))) (k _ _ _ hA2)
set_option maxRecDepth 20000 in
set_option maxHeartbeats 4000000 in
theorem ql_login {t : Nat} {C M : ax_I} {P : ax_P} (hX : ∀ U : State, Xs U → va_X bS L xs U U.heap ∧ bS < U.heap.size ∧ ¬ b < bS) (hL : L ≤ 3072) (ht : 6 * t + 6 ≤ L) (hA : sm_All C P M t) (k : ∀ C' M' P', sm_All C' P' M' (t + 1) → ax_G l D aC b RL cL_law 4 (some .boolean) false room_1 0 lw_Z Xs 677 [(3, .inl (nI (6 * t))), (0, .inr (.inr bS)), (1, .inr (.inl 1)), (2, .inr (.inl 176))] [] 191 5492 kw_K kw_L (kw_gl C' M') P') : ax_G l D aC b RL cL_law 4 (some .boolean) false room_1 0 lw_Z Xs 202 [(3, .inl (nI (6 * t))), (0, .inr (.inr bS)), (1, .inr (.inl 1)), (2, .inr (.inl 176))] [] 191 5492 kw_K kw_L (kw_gl C M) P := by
  obtain ⟨v, C2, P2, M2, k1, k2, hA2⟩ := op_login (l := l) (D := D) (aC := aC) (b := b) hA (by omega) (xs (6 * t + 1)) (xs (6 * t + 2)) (xs (6 * t + 3)) (xs (6 * t + 4)) (xs (6 * t + 5))
  refine qa_aload_n (pc1 := 203) dL_law_202 rfl rfl rfl ?_
  refine qa_aload_n (pc1 := 204) dL_law_203 rfl rfl rfl ?_
  refine qa_iload_n (pc1 := 205) dL_law_204 rfl rfl rfl ?_
  refine qa_iconst (pc1 := 206) dL_law_205 (v := (nI 1)) kc_i1N rfl ?_
  refine qn_iadd (pc1 := 207) dL_law_206 rfl ?_
  refine ql_ld (pc1 := 208) dL_law_207 rfl hX (by omega) (by omega) ?_
  refine qa_aload_n (pc1 := 209) dL_law_208 rfl rfl rfl ?_
  refine qa_iload_n (pc1 := 210) dL_law_209 rfl rfl rfl ?_
  refine qa_iconst (pc1 := 211) dL_law_210 (v := (nI 2)) kc_i2N rfl ?_
  refine qn_iadd (pc1 := 212) dL_law_211 rfl ?_
  refine ql_ld (pc1 := 213) dL_law_212 rfl hX (by omega) (by omega) ?_
  refine qa_aload_n (pc1 := 214) dL_law_213 rfl rfl rfl ?_
  refine qa_iload_n (pc1 := 215) dL_law_214 rfl rfl rfl ?_
  refine qa_iconst (pc1 := 216) dL_law_215 (v := (nI 3)) kc_i3N rfl ?_
  refine qn_iadd (pc1 := 217) dL_law_216 rfl ?_
  refine ql_ld (pc1 := 218) dL_law_217 rfl hX (by omega) (by omega) ?_
  refine qa_aload_n (pc1 := 219) dL_law_218 rfl rfl rfl ?_
  refine qa_iload_n (pc1 := 220) dL_law_219 rfl rfl rfl ?_
  refine qa_iconst (pc1 := 221) dL_law_220 (v := (nI 4)) kc_i4N rfl ?_
  refine qn_iadd (pc1 := 222) dL_law_221 rfl ?_
  refine ql_ld (pc1 := 223) dL_law_222 rfl hX (by omega) (by omega) ?_
  refine qa_aload_n (pc1 := 224) dL_law_223 rfl rfl rfl ?_
  refine qa_iload_n (pc1 := 225) dL_law_224 rfl rfl rfl ?_
  refine qa_iconst (pc1 := 226) dL_law_225 (v := (nI 5)) kc_i5N rfl ?_
  refine qn_iadd (pc1 := 227) dL_law_226 rfl ?_
  refine ql_ld (pc1 := 228) dL_law_227 rfl hX (by omega) (by omega) ?_
  refine qa_callVi (pc1 := 231) dL_law_228 rfl k1 wc_L_22 wy_X0_login rfl rfl (ci := k_rl) rfl ko_rl (by decide) rfl ?_
  refine qa_aload_n (pc1 := 232) dL_law_231 rfl rfl rfl ?_
  refine qa_aload_n (pc1 := 233) dL_law_232 rfl rfl rfl ?_
  refine qa_iload_n (pc1 := 234) dL_law_233 rfl rfl rfl ?_
  refine qa_iconst (pc1 := 235) dL_law_234 (v := (nI 1)) kc_i1N rfl ?_
  refine qn_iadd (pc1 := 236) dL_law_235 rfl ?_
  refine ql_ld (pc1 := 237) dL_law_236 rfl hX (by omega) (by omega) ?_
  refine qa_aload_n (pc1 := 238) dL_law_237 rfl rfl rfl ?_
  refine qa_iload_n (pc1 := 239) dL_law_238 rfl rfl rfl ?_
  refine qa_iconst (pc1 := 240) dL_law_239 (v := (nI 2)) kc_i2N rfl ?_
  refine qn_iadd (pc1 := 241) dL_law_240 rfl ?_
  refine ql_ld (pc1 := 242) dL_law_241 rfl hX (by omega) (by omega) ?_
  refine qa_aload_n (pc1 := 243) dL_law_242 rfl rfl rfl ?_
  refine qa_iload_n (pc1 := 244) dL_law_243 rfl rfl rfl ?_
  refine qa_iconst (pc1 := 245) dL_law_244 (v := (nI 3)) kc_i3N rfl ?_
  refine qn_iadd (pc1 := 246) dL_law_245 rfl ?_
  refine ql_ld (pc1 := 247) dL_law_246 rfl hX (by omega) (by omega) ?_
  refine qa_aload_n (pc1 := 248) dL_law_247 rfl rfl rfl ?_
  refine qa_iload_n (pc1 := 249) dL_law_248 rfl rfl rfl ?_
  refine qa_iconst (pc1 := 250) dL_law_249 (v := (nI 4)) kc_i4N rfl ?_
  refine qn_iadd (pc1 := 251) dL_law_250 rfl ?_
  refine ql_ld (pc1 := 252) dL_law_251 rfl hX (by omega) (by omega) ?_
  refine qa_aload_n (pc1 := 253) dL_law_252 rfl rfl rfl ?_
  refine qa_iload_n (pc1 := 254) dL_law_253 rfl rfl rfl ?_
  refine qa_iconst (pc1 := 255) dL_law_254 (v := (nI 5)) kc_i5N rfl ?_
  refine qn_iadd (pc1 := 256) dL_law_255 rfl ?_
  refine ql_ld (pc1 := 257) dL_law_256 rfl hX (by omega) (by omega) ?_
  refine qa_callVi (pc1 := 260) dL_law_257 rfl k2 wc_L_26 wy_X10_login rfl rfl (ci := k_mo) rfl ko_mo (by decide) rfl ?_
  refine qt_ic_eq (tgt := 677) dL_law_260 rfl rfl ?_
  exact qa_ls (by exact (kw_lsc rfl (kw_lsc rfl (kw_lsc rfl (kw_lsc rfl kw_lsn))))) (k _ _ _ hA2)
set_option maxRecDepth 20000 in
set_option maxHeartbeats 4000000 in
theorem ql_logout {t : Nat} {C M : ax_I} {P : ax_P} (hX : ∀ U : State, Xs U → va_X bS L xs U U.heap ∧ bS < U.heap.size ∧ ¬ b < bS) (hL : L ≤ 3072) (ht : 6 * t + 6 ≤ L) (hA : sm_All C P M t) (k : ∀ C' M' P', sm_All C' P' M' (t + 1) → ax_G l D aC b RL cL_law 4 (some .boolean) false room_1 0 lw_Z Xs 677 [(3, .inl (nI (6 * t))), (0, .inr (.inr bS)), (1, .inr (.inl 1)), (2, .inr (.inl 176))] [] 191 5492 kw_K kw_L (kw_gl C' M') P') : ax_G l D aC b RL cL_law 4 (some .boolean) false room_1 0 lw_Z Xs 265 [(3, .inl (nI (6 * t))), (0, .inr (.inr bS)), (1, .inr (.inl 1)), (2, .inr (.inl 176))] [] 191 5492 kw_K kw_L (kw_gl C M) P := by
  obtain ⟨v, C2, P2, M2, k1, k2, hA2⟩ := op_logout (l := l) (D := D) (aC := aC) (b := b) hA (by omega) (xs (6 * t + 1)) (xs (6 * t + 2)) (xs (6 * t + 3))
  refine qa_aload_n (pc1 := 266) dL_law_265 rfl rfl rfl ?_
  refine qa_aload_n (pc1 := 267) dL_law_266 rfl rfl rfl ?_
  refine qa_iload_n (pc1 := 268) dL_law_267 rfl rfl rfl ?_
  refine qa_iconst (pc1 := 269) dL_law_268 (v := (nI 1)) kc_i1N rfl ?_
  refine qn_iadd (pc1 := 270) dL_law_269 rfl ?_
  refine ql_ld (pc1 := 271) dL_law_270 rfl hX (by omega) (by omega) ?_
  refine qa_aload_n (pc1 := 272) dL_law_271 rfl rfl rfl ?_
  refine qa_iload_n (pc1 := 273) dL_law_272 rfl rfl rfl ?_
  refine qa_iconst (pc1 := 274) dL_law_273 (v := (nI 2)) kc_i2N rfl ?_
  refine qn_iadd (pc1 := 275) dL_law_274 rfl ?_
  refine ql_ld (pc1 := 276) dL_law_275 rfl hX (by omega) (by omega) ?_
  refine qa_aload_n (pc1 := 277) dL_law_276 rfl rfl rfl ?_
  refine qa_iload_n (pc1 := 278) dL_law_277 rfl rfl rfl ?_
  refine qa_iconst (pc1 := 279) dL_law_278 (v := (nI 3)) kc_i3N rfl ?_
  refine qn_iadd (pc1 := 280) dL_law_279 rfl ?_
  refine ql_ld (pc1 := 281) dL_law_280 rfl hX (by omega) (by omega) ?_
  refine qa_callVi (pc1 := 284) dL_law_281 rfl k1 wc_L_27 wy_X0_logout rfl rfl (ci := k_rl) rfl ko_rl (by decide) rfl ?_
  refine qa_aload_n (pc1 := 285) dL_law_284 rfl rfl rfl ?_
  refine qa_aload_n (pc1 := 286) dL_law_285 rfl rfl rfl ?_
  refine qa_iload_n (pc1 := 287) dL_law_286 rfl rfl rfl ?_
  refine qa_iconst (pc1 := 288) dL_law_287 (v := (nI 1)) kc_i1N rfl ?_
  refine qn_iadd (pc1 := 289) dL_law_288 rfl ?_
  refine ql_ld (pc1 := 290) dL_law_289 rfl hX (by omega) (by omega) ?_
  refine qa_aload_n (pc1 := 291) dL_law_290 rfl rfl rfl ?_
  refine qa_iload_n (pc1 := 292) dL_law_291 rfl rfl rfl ?_
  refine qa_iconst (pc1 := 293) dL_law_292 (v := (nI 2)) kc_i2N rfl ?_
  refine qn_iadd (pc1 := 294) dL_law_293 rfl ?_
  refine ql_ld (pc1 := 295) dL_law_294 rfl hX (by omega) (by omega) ?_
  refine qa_aload_n (pc1 := 296) dL_law_295 rfl rfl rfl ?_
  refine qa_iload_n (pc1 := 297) dL_law_296 rfl rfl rfl ?_
  refine qa_iconst (pc1 := 298) dL_law_297 (v := (nI 3)) kc_i3N rfl ?_
  refine qn_iadd (pc1 := 299) dL_law_298 rfl ?_
  refine ql_ld (pc1 := 300) dL_law_299 rfl hX (by omega) (by omega) ?_
  refine qa_callVi (pc1 := 303) dL_law_300 rfl k2 wc_L_31 wy_X10_logout rfl rfl (ci := k_mo) rfl ko_mo (by decide) rfl ?_
  refine qt_ic_eq (tgt := 677) dL_law_303 rfl rfl ?_
  exact qa_ls (by exact (kw_lsc rfl (kw_lsc rfl (kw_lsc rfl (kw_lsc rfl kw_lsn))))) (k _ _ _ hA2)
set_option maxRecDepth 20000 in
set_option maxHeartbeats 4000000 in
theorem ql_deliver {t : Nat} {C M : ax_I} {P : ax_P} (hX : ∀ U : State, Xs U → va_X bS L xs U U.heap ∧ bS < U.heap.size ∧ ¬ b < bS) (hL : L ≤ 3072) (ht : 6 * t + 6 ≤ L) (hA : sm_All C P M t) (k : ∀ C' M' P', sm_All C' P' M' (t + 1) → ax_G l D aC b RL cL_law 4 (some .boolean) false room_1 0 lw_Z Xs 677 [(3, .inl (nI (6 * t))), (0, .inr (.inr bS)), (1, .inr (.inl 1)), (2, .inr (.inl 176))] [] 191 5492 kw_K kw_L (kw_gl C' M') P') : ax_G l D aC b RL cL_law 4 (some .boolean) false room_1 0 lw_Z Xs 308 [(3, .inl (nI (6 * t))), (0, .inr (.inr bS)), (1, .inr (.inl 1)), (2, .inr (.inl 176))] [] 191 5492 kw_K kw_L (kw_gl C M) P := by
  obtain ⟨v, C2, P2, M2, k1, k2, hA2⟩ := op_deliver (l := l) (D := D) (aC := aC) (b := b) hA (by omega) (xs (6 * t + 1))
  refine qa_aload_n (pc1 := 309) dL_law_308 rfl rfl rfl ?_
  refine qa_aload_n (pc1 := 310) dL_law_309 rfl rfl rfl ?_
  refine qa_iload_n (pc1 := 311) dL_law_310 rfl rfl rfl ?_
  refine qa_iconst (pc1 := 312) dL_law_311 (v := (nI 1)) kc_i1N rfl ?_
  refine qn_iadd (pc1 := 313) dL_law_312 rfl ?_
  refine ql_ld (pc1 := 314) dL_law_313 rfl hX (by omega) (by omega) ?_
  refine qa_callVi (pc1 := 317) dL_law_314 rfl k1 wc_L_32 wy_X0_deliver rfl rfl (ci := k_rl) rfl ko_rl (by decide) rfl ?_
  refine qa_aload_n (pc1 := 318) dL_law_317 rfl rfl rfl ?_
  refine qa_aload_n (pc1 := 319) dL_law_318 rfl rfl rfl ?_
  refine qa_iload_n (pc1 := 320) dL_law_319 rfl rfl rfl ?_
  refine qa_iconst (pc1 := 321) dL_law_320 (v := (nI 1)) kc_i1N rfl ?_
  refine qn_iadd (pc1 := 322) dL_law_321 rfl ?_
  refine ql_ld (pc1 := 323) dL_law_322 rfl hX (by omega) (by omega) ?_
  refine qa_callVi (pc1 := 326) dL_law_323 rfl k2 wc_L_36 wy_X10_deliver rfl rfl (ci := k_mo) rfl ko_mo (by decide) rfl ?_
  refine qt_ic_eq (tgt := 677) dL_law_326 rfl rfl ?_
  exact qa_ls (by exact (kw_lsc rfl (kw_lsc rfl (kw_lsc rfl (kw_lsc rfl kw_lsn))))) (k _ _ _ hA2)
set_option maxRecDepth 20000 in
set_option maxHeartbeats 4000000 in
theorem ql_lose {t : Nat} {C M : ax_I} {P : ax_P} (hX : ∀ U : State, Xs U → va_X bS L xs U U.heap ∧ bS < U.heap.size ∧ ¬ b < bS) (hL : L ≤ 3072) (ht : 6 * t + 6 ≤ L) (hA : sm_All C P M t) (k : ∀ C' M' P', sm_All C' P' M' (t + 1) → ax_G l D aC b RL cL_law 4 (some .boolean) false room_1 0 lw_Z Xs 677 [(3, .inl (nI (6 * t))), (0, .inr (.inr bS)), (1, .inr (.inl 1)), (2, .inr (.inl 176))] [] 191 5492 kw_K kw_L (kw_gl C' M') P') : ax_G l D aC b RL cL_law 4 (some .boolean) false room_1 0 lw_Z Xs 331 [(3, .inl (nI (6 * t))), (0, .inr (.inr bS)), (1, .inr (.inl 1)), (2, .inr (.inl 176))] [] 191 5492 kw_K kw_L (kw_gl C M) P := by
  obtain ⟨v, C2, P2, M2, k1, k2, hA2⟩ := op_lose (l := l) (D := D) (aC := aC) (b := b) hA (by omega) (xs (6 * t + 1))
  refine qa_aload_n (pc1 := 332) dL_law_331 rfl rfl rfl ?_
  refine qa_aload_n (pc1 := 333) dL_law_332 rfl rfl rfl ?_
  refine qa_iload_n (pc1 := 334) dL_law_333 rfl rfl rfl ?_
  refine qa_iconst (pc1 := 335) dL_law_334 (v := (nI 1)) kc_i1N rfl ?_
  refine qn_iadd (pc1 := 336) dL_law_335 rfl ?_
  refine ql_ld (pc1 := 337) dL_law_336 rfl hX (by omega) (by omega) ?_
  refine qa_callVi (pc1 := 340) dL_law_337 rfl k1 wc_L_37 wy_X0_lose rfl rfl (ci := k_rl) rfl ko_rl (by decide) rfl ?_
  refine qa_aload_n (pc1 := 341) dL_law_340 rfl rfl rfl ?_
  refine qa_aload_n (pc1 := 342) dL_law_341 rfl rfl rfl ?_
  refine qa_iload_n (pc1 := 343) dL_law_342 rfl rfl rfl ?_
  refine qa_iconst (pc1 := 344) dL_law_343 (v := (nI 1)) kc_i1N rfl ?_
  refine qn_iadd (pc1 := 345) dL_law_344 rfl ?_
  refine ql_ld (pc1 := 346) dL_law_345 rfl hX (by omega) (by omega) ?_
  refine qa_callVi (pc1 := 349) dL_law_346 rfl k2 wc_L_41 wy_X10_lose rfl rfl (ci := k_mo) rfl ko_mo (by decide) rfl ?_
  refine qt_ic_eq (tgt := 677) dL_law_349 rfl rfl ?_
  exact qa_ls (by exact (kw_lsc rfl (kw_lsc rfl (kw_lsc rfl (kw_lsc rfl kw_lsn))))) (k _ _ _ hA2)
set_option maxRecDepth 20000 in
set_option maxHeartbeats 4000000 in
theorem ql_copy {t : Nat} {C M : ax_I} {P : ax_P} (hX : ∀ U : State, Xs U → va_X bS L xs U U.heap ∧ bS < U.heap.size ∧ ¬ b < bS) (hL : L ≤ 3072) (ht : 6 * t + 6 ≤ L) (hA : sm_All C P M t) (k : ∀ C' M' P', sm_All C' P' M' (t + 1) → ax_G l D aC b RL cL_law 4 (some .boolean) false room_1 0 lw_Z Xs 677 [(3, .inl (nI (6 * t))), (0, .inr (.inr bS)), (1, .inr (.inl 1)), (2, .inr (.inl 176))] [] 191 5492 kw_K kw_L (kw_gl C' M') P') : ax_G l D aC b RL cL_law 4 (some .boolean) false room_1 0 lw_Z Xs 354 [(3, .inl (nI (6 * t))), (0, .inr (.inr bS)), (1, .inr (.inl 1)), (2, .inr (.inl 176))] [] 191 5492 kw_K kw_L (kw_gl C M) P := by
  obtain ⟨v, C2, P2, M2, k1, k2, hA2⟩ := op_copy (l := l) (D := D) (aC := aC) (b := b) hA (by omega) (xs (6 * t + 1))
  refine qa_aload_n (pc1 := 355) dL_law_354 rfl rfl rfl ?_
  refine qa_aload_n (pc1 := 356) dL_law_355 rfl rfl rfl ?_
  refine qa_iload_n (pc1 := 357) dL_law_356 rfl rfl rfl ?_
  refine qa_iconst (pc1 := 358) dL_law_357 (v := (nI 1)) kc_i1N rfl ?_
  refine qn_iadd (pc1 := 359) dL_law_358 rfl ?_
  refine ql_ld (pc1 := 360) dL_law_359 rfl hX (by omega) (by omega) ?_
  refine qa_callVi (pc1 := 363) dL_law_360 rfl k1 wc_L_42 wy_X0_copy rfl rfl (ci := k_rl) rfl ko_rl (by decide) rfl ?_
  refine qa_aload_n (pc1 := 364) dL_law_363 rfl rfl rfl ?_
  refine qa_aload_n (pc1 := 365) dL_law_364 rfl rfl rfl ?_
  refine qa_iload_n (pc1 := 366) dL_law_365 rfl rfl rfl ?_
  refine qa_iconst (pc1 := 367) dL_law_366 (v := (nI 1)) kc_i1N rfl ?_
  refine qn_iadd (pc1 := 368) dL_law_367 rfl ?_
  refine ql_ld (pc1 := 369) dL_law_368 rfl hX (by omega) (by omega) ?_
  refine qa_callVi (pc1 := 372) dL_law_369 rfl k2 wc_L_45 wy_X10_copy rfl rfl (ci := k_mo) rfl ko_mo (by decide) rfl ?_
  refine qt_ic_eq (tgt := 677) dL_law_372 rfl rfl ?_
  exact qa_ls (by exact (kw_lsc rfl (kw_lsc rfl (kw_lsc rfl (kw_lsc rfl kw_lsn))))) (k _ _ _ hA2)
set_option maxRecDepth 20000 in
set_option maxHeartbeats 4000000 in
theorem ql_forge {t : Nat} {C M : ax_I} {P : ax_P} (hX : ∀ U : State, Xs U → va_X bS L xs U U.heap ∧ bS < U.heap.size ∧ ¬ b < bS) (hL : L ≤ 3072) (ht : 6 * t + 6 ≤ L) (hA : sm_All C P M t) (k : ∀ C' M' P', sm_All C' P' M' (t + 1) → ax_G l D aC b RL cL_law 4 (some .boolean) false room_1 0 lw_Z Xs 677 [(3, .inl (nI (6 * t))), (0, .inr (.inr bS)), (1, .inr (.inl 1)), (2, .inr (.inl 176))] [] 191 5492 kw_K kw_L (kw_gl C' M') P') : ax_G l D aC b RL cL_law 4 (some .boolean) false room_1 0 lw_Z Xs 377 [(3, .inl (nI (6 * t))), (0, .inr (.inr bS)), (1, .inr (.inl 1)), (2, .inr (.inl 176))] [] 191 5492 kw_K kw_L (kw_gl C M) P := by
  obtain ⟨v, C2, P2, M2, k1, k2, hA2⟩ := op_forge (l := l) (D := D) (aC := aC) (b := b) hA (by omega) (xs (6 * t + 1)) (xs (6 * t + 2)) (xs (6 * t + 3))
  refine qa_aload_n (pc1 := 378) dL_law_377 rfl rfl rfl ?_
  refine qa_aload_n (pc1 := 379) dL_law_378 rfl rfl rfl ?_
  refine qa_iload_n (pc1 := 380) dL_law_379 rfl rfl rfl ?_
  refine qa_iconst (pc1 := 381) dL_law_380 (v := (nI 1)) kc_i1N rfl ?_
  refine qn_iadd (pc1 := 382) dL_law_381 rfl ?_
  refine ql_ld (pc1 := 383) dL_law_382 rfl hX (by omega) (by omega) ?_
  refine qa_aload_n (pc1 := 384) dL_law_383 rfl rfl rfl ?_
  refine qa_iload_n (pc1 := 385) dL_law_384 rfl rfl rfl ?_
  refine qa_iconst (pc1 := 386) dL_law_385 (v := (nI 2)) kc_i2N rfl ?_
  refine qn_iadd (pc1 := 387) dL_law_386 rfl ?_
  refine ql_ld (pc1 := 388) dL_law_387 rfl hX (by omega) (by omega) ?_
  refine qa_aload_n (pc1 := 389) dL_law_388 rfl rfl rfl ?_
  refine qa_iload_n (pc1 := 390) dL_law_389 rfl rfl rfl ?_
  refine qa_iconst (pc1 := 391) dL_law_390 (v := (nI 3)) kc_i3N rfl ?_
  refine qn_iadd (pc1 := 392) dL_law_391 rfl ?_
  refine ql_ld (pc1 := 393) dL_law_392 rfl hX (by omega) (by omega) ?_
  refine qa_callVi (pc1 := 396) dL_law_393 rfl k1 wc_L_46 wy_X0_forge rfl rfl (ci := k_rl) rfl ko_rl (by decide) rfl ?_
  refine qa_aload_n (pc1 := 397) dL_law_396 rfl rfl rfl ?_
  refine qa_aload_n (pc1 := 398) dL_law_397 rfl rfl rfl ?_
  refine qa_iload_n (pc1 := 399) dL_law_398 rfl rfl rfl ?_
  refine qa_iconst (pc1 := 400) dL_law_399 (v := (nI 1)) kc_i1N rfl ?_
  refine qn_iadd (pc1 := 401) dL_law_400 rfl ?_
  refine ql_ld (pc1 := 402) dL_law_401 rfl hX (by omega) (by omega) ?_
  refine qa_aload_n (pc1 := 403) dL_law_402 rfl rfl rfl ?_
  refine qa_iload_n (pc1 := 404) dL_law_403 rfl rfl rfl ?_
  refine qa_iconst (pc1 := 405) dL_law_404 (v := (nI 2)) kc_i2N rfl ?_
  refine qn_iadd (pc1 := 406) dL_law_405 rfl ?_
  refine ql_ld (pc1 := 407) dL_law_406 rfl hX (by omega) (by omega) ?_
  refine qa_aload_n (pc1 := 408) dL_law_407 rfl rfl rfl ?_
  refine qa_iload_n (pc1 := 409) dL_law_408 rfl rfl rfl ?_
  refine qa_iconst (pc1 := 410) dL_law_409 (v := (nI 3)) kc_i3N rfl ?_
  refine qn_iadd (pc1 := 411) dL_law_410 rfl ?_
  refine ql_ld (pc1 := 412) dL_law_411 rfl hX (by omega) (by omega) ?_
  refine qa_callVi (pc1 := 415) dL_law_412 rfl k2 wc_L_49 wy_X10_forge rfl rfl (ci := k_mo) rfl ko_mo (by decide) rfl ?_
  refine qt_ic_eq (tgt := 677) dL_law_415 rfl rfl ?_
  exact qa_ls (by exact (kw_lsc rfl (kw_lsc rfl (kw_lsc rfl (kw_lsc rfl kw_lsn))))) (k _ _ _ hA2)
set_option maxRecDepth 20000 in
set_option maxHeartbeats 4000000 in
theorem ql_tick {t : Nat} {C M : ax_I} {P : ax_P} (hX : ∀ U : State, Xs U → va_X bS L xs U U.heap ∧ bS < U.heap.size ∧ ¬ b < bS) (hL : L ≤ 3072) (ht : 6 * t + 6 ≤ L) (hA : sm_All C P M t) (k : ∀ C' M' P', sm_All C' P' M' (t + 1) → ax_G l D aC b RL cL_law 4 (some .boolean) false room_1 0 lw_Z Xs 677 [(3, .inl (nI (6 * t))), (0, .inr (.inr bS)), (1, .inr (.inl 1)), (2, .inr (.inl 176))] [] 191 5492 kw_K kw_L (kw_gl C' M') P') : ax_G l D aC b RL cL_law 4 (some .boolean) false room_1 0 lw_Z Xs 420 [(3, .inl (nI (6 * t))), (0, .inr (.inr bS)), (1, .inr (.inl 1)), (2, .inr (.inl 176))] [] 191 5492 kw_K kw_L (kw_gl C M) P := by
  obtain ⟨v, C2, P2, M2, k1, k2, hA2⟩ := op_tick (l := l) (D := D) (aC := aC) (b := b) hA (by omega) (xs (6 * t + 1))
  refine qa_aload_n (pc1 := 421) dL_law_420 rfl rfl rfl ?_
  refine qa_aload_n (pc1 := 422) dL_law_421 rfl rfl rfl ?_
  refine qa_iload_n (pc1 := 423) dL_law_422 rfl rfl rfl ?_
  refine qa_iconst (pc1 := 424) dL_law_423 (v := (nI 1)) kc_i1N rfl ?_
  refine qn_iadd (pc1 := 425) dL_law_424 rfl ?_
  refine ql_ld (pc1 := 426) dL_law_425 rfl hX (by omega) (by omega) ?_
  refine qa_callVi (pc1 := 429) dL_law_426 rfl k1 wc_L_50 wy_X0_tick rfl rfl (ci := k_rl) rfl ko_rl (by decide) rfl ?_
  refine qa_aload_n (pc1 := 430) dL_law_429 rfl rfl rfl ?_
  refine qa_aload_n (pc1 := 431) dL_law_430 rfl rfl rfl ?_
  refine qa_iload_n (pc1 := 432) dL_law_431 rfl rfl rfl ?_
  refine qa_iconst (pc1 := 433) dL_law_432 (v := (nI 1)) kc_i1N rfl ?_
  refine qn_iadd (pc1 := 434) dL_law_433 rfl ?_
  refine ql_ld (pc1 := 435) dL_law_434 rfl hX (by omega) (by omega) ?_
  refine qa_callVi (pc1 := 438) dL_law_435 rfl k2 wc_L_53 wy_X10_tick rfl rfl (ci := k_mo) rfl ko_mo (by decide) rfl ?_
  refine qt_ic_eq (tgt := 677) dL_law_438 rfl rfl ?_
  exact qa_ls (by exact (kw_lsc rfl (kw_lsc rfl (kw_lsc rfl (kw_lsc rfl kw_lsn))))) (k _ _ _ hA2)
set_option maxRecDepth 20000 in
set_option maxHeartbeats 4000000 in
theorem ql_sync {t : Nat} {C M : ax_I} {P : ax_P} (hX : ∀ U : State, Xs U → va_X bS L xs U U.heap ∧ bS < U.heap.size ∧ ¬ b < bS) (hL : L ≤ 3072) (ht : 6 * t + 6 ≤ L) (hA : sm_All C P M t) (k : ∀ C' M' P', sm_All C' P' M' (t + 1) → ax_G l D aC b RL cL_law 4 (some .boolean) false room_1 0 lw_Z Xs 677 [(3, .inl (nI (6 * t))), (0, .inr (.inr bS)), (1, .inr (.inl 1)), (2, .inr (.inl 176))] [] 191 5492 kw_K kw_L (kw_gl C' M') P') : ax_G l D aC b RL cL_law 4 (some .boolean) false room_1 0 lw_Z Xs 443 [(3, .inl (nI (6 * t))), (0, .inr (.inr bS)), (1, .inr (.inl 1)), (2, .inr (.inl 176))] [] 191 5492 kw_K kw_L (kw_gl C M) P := by
  obtain ⟨v, C2, P2, M2, k1, k2, hA2⟩ := op_sync (l := l) (D := D) (aC := aC) (b := b) hA (by omega) (xs (6 * t + 1))
  refine qa_aload_n (pc1 := 444) dL_law_443 rfl rfl rfl ?_
  refine qa_aload_n (pc1 := 445) dL_law_444 rfl rfl rfl ?_
  refine qa_iload_n (pc1 := 446) dL_law_445 rfl rfl rfl ?_
  refine qa_iconst (pc1 := 447) dL_law_446 (v := (nI 1)) kc_i1N rfl ?_
  refine qn_iadd (pc1 := 448) dL_law_447 rfl ?_
  refine ql_ld (pc1 := 449) dL_law_448 rfl hX (by omega) (by omega) ?_
  refine qa_callVi (pc1 := 452) dL_law_449 rfl k1 wc_L_54 wy_X0_sync rfl rfl (ci := k_rl) rfl ko_rl (by decide) rfl ?_
  refine qa_aload_n (pc1 := 453) dL_law_452 rfl rfl rfl ?_
  refine qa_aload_n (pc1 := 454) dL_law_453 rfl rfl rfl ?_
  refine qa_iload_n (pc1 := 455) dL_law_454 rfl rfl rfl ?_
  refine qa_iconst (pc1 := 456) dL_law_455 (v := (nI 1)) kc_i1N rfl ?_
  refine qn_iadd (pc1 := 457) dL_law_456 rfl ?_
  refine ql_ld (pc1 := 458) dL_law_457 rfl hX (by omega) (by omega) ?_
  refine qa_callVi (pc1 := 461) dL_law_458 rfl k2 wc_L_57 wy_X10_sync rfl rfl (ci := k_mo) rfl ko_mo (by decide) rfl ?_
  refine qt_ic_eq (tgt := 677) dL_law_461 rfl rfl ?_
  exact qa_ls (by exact (kw_lsc rfl (kw_lsc rfl (kw_lsc rfl (kw_lsc rfl kw_lsn))))) (k _ _ _ hA2)
set_option maxRecDepth 20000 in
set_option maxHeartbeats 4000000 in
theorem ql_crash {t : Nat} {C M : ax_I} {P : ax_P} (hX : ∀ U : State, Xs U → va_X bS L xs U U.heap ∧ bS < U.heap.size ∧ ¬ b < bS) (hL : L ≤ 3072) (ht : 6 * t + 6 ≤ L) (hA : sm_All C P M t) (k : ∀ C' M' P', sm_All C' P' M' (t + 1) → ax_G l D aC b RL cL_law 4 (some .boolean) false room_1 0 lw_Z Xs 677 [(3, .inl (nI (6 * t))), (0, .inr (.inr bS)), (1, .inr (.inl 1)), (2, .inr (.inl 176))] [] 191 5492 kw_K kw_L (kw_gl C' M') P') : ax_G l D aC b RL cL_law 4 (some .boolean) false room_1 0 lw_Z Xs 466 [(3, .inl (nI (6 * t))), (0, .inr (.inr bS)), (1, .inr (.inl 1)), (2, .inr (.inl 176))] [] 191 5492 kw_K kw_L (kw_gl C M) P := by
  obtain ⟨v, C2, P2, M2, k1, k2, hA2⟩ := op_crash (l := l) (D := D) (aC := aC) (b := b) hA (by omega) (xs (6 * t + 1))
  refine qa_aload_n (pc1 := 467) dL_law_466 rfl rfl rfl ?_
  refine qa_aload_n (pc1 := 468) dL_law_467 rfl rfl rfl ?_
  refine qa_iload_n (pc1 := 469) dL_law_468 rfl rfl rfl ?_
  refine qa_iconst (pc1 := 470) dL_law_469 (v := (nI 1)) kc_i1N rfl ?_
  refine qn_iadd (pc1 := 471) dL_law_470 rfl ?_
  refine ql_ld (pc1 := 472) dL_law_471 rfl hX (by omega) (by omega) ?_
  refine qa_callVi (pc1 := 475) dL_law_472 rfl k1 wc_L_58 wy_X0_crash rfl rfl (ci := k_rl) rfl ko_rl (by decide) rfl ?_
  refine qa_aload_n (pc1 := 476) dL_law_475 rfl rfl rfl ?_
  refine qa_aload_n (pc1 := 477) dL_law_476 rfl rfl rfl ?_
  refine qa_iload_n (pc1 := 478) dL_law_477 rfl rfl rfl ?_
  refine qa_iconst (pc1 := 479) dL_law_478 (v := (nI 1)) kc_i1N rfl ?_
  refine qn_iadd (pc1 := 480) dL_law_479 rfl ?_
  refine ql_ld (pc1 := 481) dL_law_480 rfl hX (by omega) (by omega) ?_
  refine qa_callVi (pc1 := 484) dL_law_481 rfl k2 wc_L_61 wy_X10_crash rfl rfl (ci := k_mo) rfl ko_mo (by decide) rfl ?_
  refine qt_ic_eq (tgt := 677) dL_law_484 rfl rfl ?_
  exact qa_ls (by exact (kw_lsc rfl (kw_lsc rfl (kw_lsc rfl (kw_lsc rfl kw_lsn))))) (k _ _ _ hA2)
set_option maxRecDepth 20000 in
set_option maxHeartbeats 4000000 in
theorem ql_evict {t : Nat} {C M : ax_I} {P : ax_P} (hX : ∀ U : State, Xs U → va_X bS L xs U U.heap ∧ bS < U.heap.size ∧ ¬ b < bS) (hL : L ≤ 3072) (ht : 6 * t + 6 ≤ L) (hA : sm_All C P M t) (k : ∀ C' M' P', sm_All C' P' M' (t + 1) → ax_G l D aC b RL cL_law 4 (some .boolean) false room_1 0 lw_Z Xs 677 [(3, .inl (nI (6 * t))), (0, .inr (.inr bS)), (1, .inr (.inl 1)), (2, .inr (.inl 176))] [] 191 5492 kw_K kw_L (kw_gl C' M') P') : ax_G l D aC b RL cL_law 4 (some .boolean) false room_1 0 lw_Z Xs 489 [(3, .inl (nI (6 * t))), (0, .inr (.inr bS)), (1, .inr (.inl 1)), (2, .inr (.inl 176))] [] 191 5492 kw_K kw_L (kw_gl C M) P := by
  obtain ⟨v, C2, P2, M2, k1, k2, hA2⟩ := op_evict (l := l) (D := D) (aC := aC) (b := b) hA (by omega) (xs (6 * t + 1)) (xs (6 * t + 2))
  refine qa_aload_n (pc1 := 490) dL_law_489 rfl rfl rfl ?_
  refine qa_aload_n (pc1 := 491) dL_law_490 rfl rfl rfl ?_
  refine qa_iload_n (pc1 := 492) dL_law_491 rfl rfl rfl ?_
  refine qa_iconst (pc1 := 493) dL_law_492 (v := (nI 1)) kc_i1N rfl ?_
  refine qn_iadd (pc1 := 494) dL_law_493 rfl ?_
  refine ql_ld (pc1 := 495) dL_law_494 rfl hX (by omega) (by omega) ?_
  refine qa_aload_n (pc1 := 496) dL_law_495 rfl rfl rfl ?_
  refine qa_iload_n (pc1 := 497) dL_law_496 rfl rfl rfl ?_
  refine qa_iconst (pc1 := 498) dL_law_497 (v := (nI 2)) kc_i2N rfl ?_
  refine qn_iadd (pc1 := 499) dL_law_498 rfl ?_
  refine ql_ld (pc1 := 500) dL_law_499 rfl hX (by omega) (by omega) ?_
  refine qa_callVi (pc1 := 503) dL_law_500 rfl k1 wc_L_62 wy_X0_evict rfl rfl (ci := k_rl) rfl ko_rl (by decide) rfl ?_
  refine qa_aload_n (pc1 := 504) dL_law_503 rfl rfl rfl ?_
  refine qa_aload_n (pc1 := 505) dL_law_504 rfl rfl rfl ?_
  refine qa_iload_n (pc1 := 506) dL_law_505 rfl rfl rfl ?_
  refine qa_iconst (pc1 := 507) dL_law_506 (v := (nI 1)) kc_i1N rfl ?_
  refine qn_iadd (pc1 := 508) dL_law_507 rfl ?_
  refine ql_ld (pc1 := 509) dL_law_508 rfl hX (by omega) (by omega) ?_
  refine qa_aload_n (pc1 := 510) dL_law_509 rfl rfl rfl ?_
  refine qa_iload_n (pc1 := 511) dL_law_510 rfl rfl rfl ?_
  refine qa_iconst (pc1 := 512) dL_law_511 (v := (nI 2)) kc_i2N rfl ?_
  refine qn_iadd (pc1 := 513) dL_law_512 rfl ?_
  refine ql_ld (pc1 := 514) dL_law_513 rfl hX (by omega) (by omega) ?_
  refine qa_callVi (pc1 := 517) dL_law_514 rfl k2 wc_L_66 wy_X10_evict rfl rfl (ci := k_mo) rfl ko_mo (by decide) rfl ?_
  refine qt_ic_eq (tgt := 677) dL_law_517 rfl rfl ?_
  exact qa_ls (by exact (kw_lsc rfl (kw_lsc rfl (kw_lsc rfl (kw_lsc rfl kw_lsn))))) (k _ _ _ hA2)
set_option maxRecDepth 20000 in
set_option maxHeartbeats 4000000 in
theorem ql_flight {t : Nat} {C M : ax_I} {P : ax_P} (hX : ∀ U : State, Xs U → va_X bS L xs U U.heap ∧ bS < U.heap.size ∧ ¬ b < bS) (hL : L ≤ 3072) (ht : 6 * t + 6 ≤ L) (hA : sm_All C P M t) (k : ∀ C' M' P', sm_All C' P' M' (t + 1) → ax_G l D aC b RL cL_law 4 (some .boolean) false room_1 0 lw_Z Xs 677 [(3, .inl (nI (6 * t))), (0, .inr (.inr bS)), (1, .inr (.inl 1)), (2, .inr (.inl 176))] [] 191 5492 kw_K kw_L (kw_gl C' M') P') : ax_G l D aC b RL cL_law 4 (some .boolean) false room_1 0 lw_Z Xs 522 [(3, .inl (nI (6 * t))), (0, .inr (.inr bS)), (1, .inr (.inl 1)), (2, .inr (.inl 176))] [] 191 5492 kw_K kw_L (kw_gl C M) P := by
  obtain ⟨v, C2, P2, M2, k1, k2, hA2⟩ := op_flight (l := l) (D := D) (aC := aC) (b := b) hA (by omega) 
  refine qa_aload_n (pc1 := 523) dL_law_522 rfl rfl rfl ?_
  refine qa_callVi (pc1 := 526) dL_law_523 rfl k1 wc_L_67 wy_X0_flight rfl rfl (ci := k_rl) rfl ko_rl (by decide) rfl ?_
  refine qa_aload_n (pc1 := 527) dL_law_526 rfl rfl rfl ?_
  refine qa_callVi (pc1 := 530) dL_law_527 rfl k2 wc_L_71 wy_X10_flight rfl rfl (ci := k_mo) rfl ko_mo (by decide) rfl ?_
  refine qt_ic_eq (tgt := 677) dL_law_530 rfl rfl ?_
  exact qa_ls (by exact (kw_lsc rfl (kw_lsc rfl (kw_lsc rfl (kw_lsc rfl kw_lsn))))) (k _ _ _ hA2)
set_option maxRecDepth 20000 in
set_option maxHeartbeats 4000000 in
theorem ql_field {t : Nat} {C M : ax_I} {P : ax_P} (hX : ∀ U : State, Xs U → va_X bS L xs U U.heap ∧ bS < U.heap.size ∧ ¬ b < bS) (hL : L ≤ 3072) (ht : 6 * t + 6 ≤ L) (hA : sm_All C P M t) (k : ∀ C' M' P', sm_All C' P' M' (t + 1) → ax_G l D aC b RL cL_law 4 (some .boolean) false room_1 0 lw_Z Xs 677 [(3, .inl (nI (6 * t))), (0, .inr (.inr bS)), (1, .inr (.inl 1)), (2, .inr (.inl 176))] [] 191 5492 kw_K kw_L (kw_gl C' M') P') : ax_G l D aC b RL cL_law 4 (some .boolean) false room_1 0 lw_Z Xs 535 [(3, .inl (nI (6 * t))), (0, .inr (.inr bS)), (1, .inr (.inl 1)), (2, .inr (.inl 176))] [] 191 5492 kw_K kw_L (kw_gl C M) P := by
  obtain ⟨v, C2, P2, M2, k1, k2, hA2⟩ := op_field (l := l) (D := D) (aC := aC) (b := b) hA (by omega) (xs (6 * t + 1)) (xs (6 * t + 2))
  refine qa_aload_n (pc1 := 536) dL_law_535 rfl rfl rfl ?_
  refine qa_aload_n (pc1 := 537) dL_law_536 rfl rfl rfl ?_
  refine qa_iload_n (pc1 := 538) dL_law_537 rfl rfl rfl ?_
  refine qa_iconst (pc1 := 539) dL_law_538 (v := (nI 1)) kc_i1N rfl ?_
  refine qn_iadd (pc1 := 540) dL_law_539 rfl ?_
  refine ql_ld (pc1 := 541) dL_law_540 rfl hX (by omega) (by omega) ?_
  refine qa_aload_n (pc1 := 542) dL_law_541 rfl rfl rfl ?_
  refine qa_iload_n (pc1 := 543) dL_law_542 rfl rfl rfl ?_
  refine qa_iconst (pc1 := 544) dL_law_543 (v := (nI 2)) kc_i2N rfl ?_
  refine qn_iadd (pc1 := 545) dL_law_544 rfl ?_
  refine ql_ld (pc1 := 546) dL_law_545 rfl hX (by omega) (by omega) ?_
  refine qa_callVi (pc1 := 549) dL_law_546 rfl k1 wc_L_72 wy_X0_field rfl rfl (ci := k_rl) rfl ko_rl (by decide) rfl ?_
  refine qa_aload_n (pc1 := 550) dL_law_549 rfl rfl rfl ?_
  refine qa_aload_n (pc1 := 551) dL_law_550 rfl rfl rfl ?_
  refine qa_iload_n (pc1 := 552) dL_law_551 rfl rfl rfl ?_
  refine qa_iconst (pc1 := 553) dL_law_552 (v := (nI 1)) kc_i1N rfl ?_
  refine qn_iadd (pc1 := 554) dL_law_553 rfl ?_
  refine ql_ld (pc1 := 555) dL_law_554 rfl hX (by omega) (by omega) ?_
  refine qa_aload_n (pc1 := 556) dL_law_555 rfl rfl rfl ?_
  refine qa_iload_n (pc1 := 557) dL_law_556 rfl rfl rfl ?_
  refine qa_iconst (pc1 := 558) dL_law_557 (v := (nI 2)) kc_i2N rfl ?_
  refine qn_iadd (pc1 := 559) dL_law_558 rfl ?_
  refine ql_ld (pc1 := 560) dL_law_559 rfl hX (by omega) (by omega) ?_
  refine qa_callVi (pc1 := 563) dL_law_560 rfl k2 wc_L_76 wy_X10_field rfl rfl (ci := k_mo) rfl ko_mo (by decide) rfl ?_
  refine qt_ic_eq (tgt := 677) dL_law_563 rfl rfl ?_
  exact qa_ls (by exact (kw_lsc rfl (kw_lsc rfl (kw_lsc rfl (kw_lsc rfl kw_lsn))))) (k _ _ _ hA2)
set_option maxRecDepth 20000 in
set_option maxHeartbeats 4000000 in
theorem ql_line {t : Nat} {C M : ax_I} {P : ax_P} (hX : ∀ U : State, Xs U → va_X bS L xs U U.heap ∧ bS < U.heap.size ∧ ¬ b < bS) (hL : L ≤ 3072) (ht : 6 * t + 6 ≤ L) (hA : sm_All C P M t) (k : ∀ C' M' P', sm_All C' P' M' (t + 1) → ax_G l D aC b RL cL_law 4 (some .boolean) false room_1 0 lw_Z Xs 677 [(3, .inl (nI (6 * t))), (0, .inr (.inr bS)), (1, .inr (.inl 1)), (2, .inr (.inl 176))] [] 191 5492 kw_K kw_L (kw_gl C' M') P') : ax_G l D aC b RL cL_law 4 (some .boolean) false room_1 0 lw_Z Xs 568 [(3, .inl (nI (6 * t))), (0, .inr (.inr bS)), (1, .inr (.inl 1)), (2, .inr (.inl 176))] [] 191 5492 kw_K kw_L (kw_gl C M) P := by
  obtain ⟨v, C2, P2, M2, k1, k2, hA2⟩ := op_line (l := l) (D := D) (aC := aC) (b := b) hA (by omega) (xs (6 * t + 1)) (xs (6 * t + 2)) (xs (6 * t + 3))
  refine qa_aload_n (pc1 := 569) dL_law_568 rfl rfl rfl ?_
  refine qa_aload_n (pc1 := 570) dL_law_569 rfl rfl rfl ?_
  refine qa_iload_n (pc1 := 571) dL_law_570 rfl rfl rfl ?_
  refine qa_iconst (pc1 := 572) dL_law_571 (v := (nI 1)) kc_i1N rfl ?_
  refine qn_iadd (pc1 := 573) dL_law_572 rfl ?_
  refine ql_ld (pc1 := 574) dL_law_573 rfl hX (by omega) (by omega) ?_
  refine qa_aload_n (pc1 := 575) dL_law_574 rfl rfl rfl ?_
  refine qa_iload_n (pc1 := 576) dL_law_575 rfl rfl rfl ?_
  refine qa_iconst (pc1 := 577) dL_law_576 (v := (nI 2)) kc_i2N rfl ?_
  refine qn_iadd (pc1 := 578) dL_law_577 rfl ?_
  refine ql_ld (pc1 := 579) dL_law_578 rfl hX (by omega) (by omega) ?_
  refine qa_aload_n (pc1 := 580) dL_law_579 rfl rfl rfl ?_
  refine qa_iload_n (pc1 := 581) dL_law_580 rfl rfl rfl ?_
  refine qa_iconst (pc1 := 582) dL_law_581 (v := (nI 3)) kc_i3N rfl ?_
  refine qn_iadd (pc1 := 583) dL_law_582 rfl ?_
  refine ql_ld (pc1 := 584) dL_law_583 rfl hX (by omega) (by omega) ?_
  refine qa_callVi (pc1 := 587) dL_law_584 rfl k1 wc_L_77 wy_X0_line rfl rfl (ci := k_rl) rfl ko_rl (by decide) rfl ?_
  refine qa_aload_n (pc1 := 588) dL_law_587 rfl rfl rfl ?_
  refine qa_aload_n (pc1 := 589) dL_law_588 rfl rfl rfl ?_
  refine qa_iload_n (pc1 := 590) dL_law_589 rfl rfl rfl ?_
  refine qa_iconst (pc1 := 591) dL_law_590 (v := (nI 1)) kc_i1N rfl ?_
  refine qn_iadd (pc1 := 592) dL_law_591 rfl ?_
  refine ql_ld (pc1 := 593) dL_law_592 rfl hX (by omega) (by omega) ?_
  refine qa_aload_n (pc1 := 594) dL_law_593 rfl rfl rfl ?_
  refine qa_iload_n (pc1 := 595) dL_law_594 rfl rfl rfl ?_
  refine qa_iconst (pc1 := 596) dL_law_595 (v := (nI 2)) kc_i2N rfl ?_
  refine qn_iadd (pc1 := 597) dL_law_596 rfl ?_
  refine ql_ld (pc1 := 598) dL_law_597 rfl hX (by omega) (by omega) ?_
  refine qa_aload_n (pc1 := 599) dL_law_598 rfl rfl rfl ?_
  refine qa_iload_n (pc1 := 600) dL_law_599 rfl rfl rfl ?_
  refine qa_iconst (pc1 := 601) dL_law_600 (v := (nI 3)) kc_i3N rfl ?_
  refine qn_iadd (pc1 := 602) dL_law_601 rfl ?_
  refine ql_ld (pc1 := 603) dL_law_602 rfl hX (by omega) (by omega) ?_
  refine qa_callVi (pc1 := 606) dL_law_603 rfl k2 wc_L_80 wy_X10_line rfl rfl (ci := k_mo) rfl ko_mo (by decide) rfl ?_
  refine qt_ic_eq (tgt := 677) dL_law_606 rfl rfl ?_
  exact qa_ls (by exact (kw_lsc rfl (kw_lsc rfl (kw_lsc rfl (kw_lsc rfl kw_lsn))))) (k _ _ _ hA2)
set_option maxRecDepth 20000 in
set_option maxHeartbeats 4000000 in
theorem ql_holder {t : Nat} {C M : ax_I} {P : ax_P} (hX : ∀ U : State, Xs U → va_X bS L xs U U.heap ∧ bS < U.heap.size ∧ ¬ b < bS) (hL : L ≤ 3072) (ht : 6 * t + 6 ≤ L) (hA : sm_All C P M t) (k : ∀ C' M' P', sm_All C' P' M' (t + 1) → ax_G l D aC b RL cL_law 4 (some .boolean) false room_1 0 lw_Z Xs 677 [(3, .inl (nI (6 * t))), (0, .inr (.inr bS)), (1, .inr (.inl 1)), (2, .inr (.inl 176))] [] 191 5492 kw_K kw_L (kw_gl C' M') P') : ax_G l D aC b RL cL_law 4 (some .boolean) false room_1 0 lw_Z Xs 611 [(3, .inl (nI (6 * t))), (0, .inr (.inr bS)), (1, .inr (.inl 1)), (2, .inr (.inl 176))] [] 191 5492 kw_K kw_L (kw_gl C M) P := by
  obtain ⟨v, C2, P2, M2, k1, k2, hA2⟩ := op_holder (l := l) (D := D) (aC := aC) (b := b) hA (by omega) (xs (6 * t + 1)) (xs (6 * t + 2))
  refine qa_aload_n (pc1 := 612) dL_law_611 rfl rfl rfl ?_
  refine qa_aload_n (pc1 := 613) dL_law_612 rfl rfl rfl ?_
  refine qa_iload_n (pc1 := 614) dL_law_613 rfl rfl rfl ?_
  refine qa_iconst (pc1 := 615) dL_law_614 (v := (nI 1)) kc_i1N rfl ?_
  refine qn_iadd (pc1 := 616) dL_law_615 rfl ?_
  refine ql_ld (pc1 := 617) dL_law_616 rfl hX (by omega) (by omega) ?_
  refine qa_aload_n (pc1 := 618) dL_law_617 rfl rfl rfl ?_
  refine qa_iload_n (pc1 := 619) dL_law_618 rfl rfl rfl ?_
  refine qa_iconst (pc1 := 620) dL_law_619 (v := (nI 2)) kc_i2N rfl ?_
  refine qn_iadd (pc1 := 621) dL_law_620 rfl ?_
  refine ql_ld (pc1 := 622) dL_law_621 rfl hX (by omega) (by omega) ?_
  refine qa_callVi (pc1 := 625) dL_law_622 rfl k1 wc_L_81 wy_X0_holder rfl rfl (ci := k_rl) rfl ko_rl (by decide) rfl ?_
  refine qa_aload_n (pc1 := 626) dL_law_625 rfl rfl rfl ?_
  refine qa_aload_n (pc1 := 627) dL_law_626 rfl rfl rfl ?_
  refine qa_iload_n (pc1 := 628) dL_law_627 rfl rfl rfl ?_
  refine qa_iconst (pc1 := 629) dL_law_628 (v := (nI 1)) kc_i1N rfl ?_
  refine qn_iadd (pc1 := 630) dL_law_629 rfl ?_
  refine ql_ld (pc1 := 631) dL_law_630 rfl hX (by omega) (by omega) ?_
  refine qa_aload_n (pc1 := 632) dL_law_631 rfl rfl rfl ?_
  refine qa_iload_n (pc1 := 633) dL_law_632 rfl rfl rfl ?_
  refine qa_iconst (pc1 := 634) dL_law_633 (v := (nI 2)) kc_i2N rfl ?_
  refine qn_iadd (pc1 := 635) dL_law_634 rfl ?_
  refine ql_ld (pc1 := 636) dL_law_635 rfl hX (by omega) (by omega) ?_
  refine qa_callVi (pc1 := 639) dL_law_636 rfl k2 wc_L_84 wy_X10_holder rfl rfl (ci := k_mo) rfl ko_mo (by decide) rfl ?_
  refine qt_ic_eq (tgt := 677) dL_law_639 rfl rfl ?_
  exact qa_ls (by exact (kw_lsc rfl (kw_lsc rfl (kw_lsc rfl (kw_lsc rfl kw_lsn))))) (k _ _ _ hA2)
set_option maxRecDepth 20000 in
set_option maxHeartbeats 4000000 in
theorem ql_journal {t : Nat} {C M : ax_I} {P : ax_P} (hX : ∀ U : State, Xs U → va_X bS L xs U U.heap ∧ bS < U.heap.size ∧ ¬ b < bS) (hL : L ≤ 3072) (ht : 6 * t + 6 ≤ L) (hA : sm_All C P M t) (k : ∀ C' M' P', sm_All C' P' M' (t + 1) → ax_G l D aC b RL cL_law 4 (some .boolean) false room_1 0 lw_Z Xs 677 [(3, .inl (nI (6 * t))), (0, .inr (.inr bS)), (1, .inr (.inl 1)), (2, .inr (.inl 176))] [] 191 5492 kw_K kw_L (kw_gl C' M') P') : ax_G l D aC b RL cL_law 4 (some .boolean) false room_1 0 lw_Z Xs 644 [(3, .inl (nI (6 * t))), (0, .inr (.inr bS)), (1, .inr (.inl 1)), (2, .inr (.inl 176))] [] 191 5492 kw_K kw_L (kw_gl C M) P := by
  obtain ⟨v, C2, P2, M2, k1, k2, hA2⟩ := op_journal (l := l) (D := D) (aC := aC) (b := b) hA (by omega) (xs (6 * t + 1)) (xs (6 * t + 2))
  refine qa_aload_n (pc1 := 645) dL_law_644 rfl rfl rfl ?_
  refine qa_aload_n (pc1 := 646) dL_law_645 rfl rfl rfl ?_
  refine qa_iload_n (pc1 := 647) dL_law_646 rfl rfl rfl ?_
  refine qa_iconst (pc1 := 648) dL_law_647 (v := (nI 1)) kc_i1N rfl ?_
  refine qn_iadd (pc1 := 649) dL_law_648 rfl ?_
  refine ql_ld (pc1 := 650) dL_law_649 rfl hX (by omega) (by omega) ?_
  refine qa_aload_n (pc1 := 651) dL_law_650 rfl rfl rfl ?_
  refine qa_iload_n (pc1 := 652) dL_law_651 rfl rfl rfl ?_
  refine qa_iconst (pc1 := 653) dL_law_652 (v := (nI 2)) kc_i2N rfl ?_
  refine qn_iadd (pc1 := 654) dL_law_653 rfl ?_
  refine ql_ld (pc1 := 655) dL_law_654 rfl hX (by omega) (by omega) ?_
  refine qa_callVi (pc1 := 658) dL_law_655 rfl k1 wc_L_85 wy_X0_journal rfl rfl (ci := k_rl) rfl ko_rl (by decide) rfl ?_
  refine qa_aload_n (pc1 := 659) dL_law_658 rfl rfl rfl ?_
  refine qa_aload_n (pc1 := 660) dL_law_659 rfl rfl rfl ?_
  refine qa_iload_n (pc1 := 661) dL_law_660 rfl rfl rfl ?_
  refine qa_iconst (pc1 := 662) dL_law_661 (v := (nI 1)) kc_i1N rfl ?_
  refine qn_iadd (pc1 := 663) dL_law_662 rfl ?_
  refine ql_ld (pc1 := 664) dL_law_663 rfl hX (by omega) (by omega) ?_
  refine qa_aload_n (pc1 := 665) dL_law_664 rfl rfl rfl ?_
  refine qa_iload_n (pc1 := 666) dL_law_665 rfl rfl rfl ?_
  refine qa_iconst (pc1 := 667) dL_law_666 (v := (nI 2)) kc_i2N rfl ?_
  refine qn_iadd (pc1 := 668) dL_law_667 rfl ?_
  refine ql_ld (pc1 := 669) dL_law_668 rfl hX (by omega) (by omega) ?_
  refine qa_callVi (pc1 := 672) dL_law_669 rfl k2 wc_L_88 wy_X10_journal rfl rfl (ci := k_mo) rfl ko_mo (by decide) rfl ?_
  refine qt_ic_eq (tgt := 677) dL_law_672 rfl rfl ?_
  exact qa_ls (by exact (kw_lsc rfl (kw_lsc rfl (kw_lsc rfl (kw_lsc rfl kw_lsn))))) (k _ _ _ hA2)
set_option maxRecDepth 20000 in
set_option maxHeartbeats 4000000 in
theorem ql_loop (hX : ∀ U : State, Xs U → va_X bS L xs U U.heap ∧ bS < U.heap.size ∧ ¬ b < bS) (hL : L ≤ 3072) : ∀ t, t ≤ 512 → ∀ (C M : ax_I) (P : ax_P), sm_All C P M t → ax_G l D aC b RL cL_law 4 (some .boolean) false room_1 0 lw_Z Xs 18 [(3, .inl (nI (6 * t))), (0, .inr (.inr bS)), (1, .inr (.inl 1)), (2, .inr (.inl 176))] [] 191 5492 kw_K kw_L (kw_gl C M) P := by
  refine  kw_loopB 512 (fun t hiN ih C M P hA => ?_)
  refine qa_iload_n (pc1 := 19) dL_law_18 rfl rfl rfl ?_
  refine qa_aload_n (pc1 := 20) dL_law_19 rfl rfl rfl ?_
  refine ql_len (pc1 := 21) dL_law_20 rfl hX ?_
  refine qa_bipush (pc1 := 23) dL_law_21 (v := 6) kc_b6 rfl ?_
  refine qa_isub (pc1 := 24) dL_law_23 rfl ?_
  refine qa_ic_gt (tgt := 683) (pc1 := 27) dL_law_24 rfl rfl (fun h24 => ?_) (fun h24 => ?_)
  · refine qa_iconst (pc1 := 684) dL_law_683 (v := 1) kc_i1 rfl ?_
    exact ql_ret dL_law_684 (by decide) (by decide)
  · have ht : 6 * t + 6 ≤ L := (ks_lt hL (by omega)).mp h24
    obtain ⟨z, hz32, hz⟩ := pk_andE (xs (6 * t)) (m := 31) 5 (by decide)
    have hzc : z = 0 ∨ z = 1 ∨ z = 2 ∨ z = 3 ∨ z = 4 ∨ z = 5 ∨ z = 6 ∨ z = 7 ∨ z = 8 ∨ z = 9 ∨ z = 10 ∨ z = 11 ∨ z = 12 ∨ z = 13 ∨ z = 14 ∨ z = 15 ∨ z = 16 ∨ 17 ≤ z := by omega
    have k677 : ∀ C1 M1 P1, sm_All C1 P1 M1 (t + 1) → ax_G l D aC b RL cL_law 4 (some .boolean) false room_1 0 lw_Z Xs 677 [(3, .inl (nI (6 * t))), (0, .inr (.inr bS)), (1, .inr (.inl 1)), (2, .inr (.inl 176))] [] 191 5492 kw_K kw_L (kw_gl C1 M1) P1 := by
      intro C1 M1 P1 hA1
      refine qa_iinc (pc1 := 680) dL_law_677 rfl (show nI (6 * t) + Int32.ofInt 6 = nI (6 * (t + 1)) from by rw [show Int32.ofInt 6 = nI 6 from rfl, nI_add]; exact congrArg nI (by omega)) (by decide) rfl ?_
      refine qa_goto (tgt := 18) dL_law_680 rfl ?_
      exact qa_ls (by exact (kw_lsc rfl (kw_lsc rfl (kw_lsc rfl (kw_lsc rfl kw_lsn))))) (ih (by omega) C1 M1 P1 hA1)
    refine qa_aload_n (pc1 := 28) dL_law_27 rfl rfl rfl ?_
    refine qa_iload_n (pc1 := 29) dL_law_28 rfl rfl rfl ?_
    refine ql_ld (pc1 := 30) dL_law_29 rfl hX (by omega) (by omega) ?_
    refine qa_bipush (pc1 := 32) dL_law_30 (v := 31) kc_b31 rfl ?_
    refine qa_iand (pc1 := 33) dL_law_32 rfl ?_
    refine qa_top hz ?_
    rcases hzc with rfl | rfl | rfl | rfl | rfl | rfl | rfl | rfl | rfl | rfl | rfl | rfl | rfl | rfl | rfl | rfl | rfl | hz17
    · refine qa_tableIn (tgt := 116) dL_law_33 (by decide) (by decide) rfl rfl ?_
      exact ql_key hX hL ht hA k677
    · refine qa_tableIn (tgt := 159) dL_law_33 (by decide) (by decide) rfl rfl ?_
      exact ql_enrol hX hL ht hA k677
    · refine qa_tableIn (tgt := 202) dL_law_33 (by decide) (by decide) rfl rfl ?_
      exact ql_login hX hL ht hA k677
    · refine qa_tableIn (tgt := 265) dL_law_33 (by decide) (by decide) rfl rfl ?_
      exact ql_logout hX hL ht hA k677
    · refine qa_tableIn (tgt := 308) dL_law_33 (by decide) (by decide) rfl rfl ?_
      exact ql_deliver hX hL ht hA k677
    · refine qa_tableIn (tgt := 331) dL_law_33 (by decide) (by decide) rfl rfl ?_
      exact ql_lose hX hL ht hA k677
    · refine qa_tableIn (tgt := 354) dL_law_33 (by decide) (by decide) rfl rfl ?_
      exact ql_copy hX hL ht hA k677
    · refine qa_tableIn (tgt := 377) dL_law_33 (by decide) (by decide) rfl rfl ?_
      exact ql_forge hX hL ht hA k677
    · refine qa_tableIn (tgt := 420) dL_law_33 (by decide) (by decide) rfl rfl ?_
      exact ql_tick hX hL ht hA k677
    · refine qa_tableIn (tgt := 443) dL_law_33 (by decide) (by decide) rfl rfl ?_
      exact ql_sync hX hL ht hA k677
    · refine qa_tableIn (tgt := 466) dL_law_33 (by decide) (by decide) rfl rfl ?_
      exact ql_crash hX hL ht hA k677
    · refine qa_tableIn (tgt := 489) dL_law_33 (by decide) (by decide) rfl rfl ?_
      exact ql_evict hX hL ht hA k677
    · refine qa_tableIn (tgt := 522) dL_law_33 (by decide) (by decide) rfl rfl ?_
      exact ql_flight hX hL ht hA k677
    · refine qa_tableIn (tgt := 535) dL_law_33 (by decide) (by decide) rfl rfl ?_
      exact ql_field hX hL ht hA k677
    · refine qa_tableIn (tgt := 568) dL_law_33 (by decide) (by decide) rfl rfl ?_
      exact ql_line hX hL ht hA k677
    · refine qa_tableIn (tgt := 611) dL_law_33 (by decide) (by decide) rfl rfl ?_
      exact ql_holder hX hL ht hA k677
    · refine qa_tableIn (tgt := 644) dL_law_33 (by decide) (by decide) rfl rfl ?_
      exact ql_journal hX hL ht hA k677
    · refine qa_tableOut (tgt := 677) dL_law_33 rfl (Or.inr (by rw [nI_toInt (by omega)]; omega)) ?_
      exact k677 C M P (sm_mono hA)
set_option maxRecDepth 20000 in
set_option maxHeartbeats 4000000 in
theorem ql_law (hX : ∀ U : State, Xs U → va_X bS L xs U U.heap ∧ bS < U.heap.size ∧ ¬ b < bS) (hL : L ≤ 3072) : ax_G l D aC b RL cL_law 4 (some .boolean) false room_1 0 lw_Z Xs 0 [(0, .inr (.inr bS))] [] 0 0 kw_K kw_L (kw_gl kw_Z kw_Z) kw_Y := by
  refine qi_new (pc1 := 3) dL_law_0 rfl wn_L_7 (ci := k_rl) rfl (m := 1) rfl rfl rfl (fun j => rfl) (fun j => rfl) (by decide) (by decide) ?_
  refine qa_dup (pc1 := 4) dL_law_3 rfl ?_
  refine qi_callI (pc1 := 7) dL_law_4 rfl (ci_rl (C := kw_Z) (M := kw_Z) (P := kw_Y) (fun q g1 g2 j => rfl) (fun q g1 g2 j => rfl)) wc_L_9 wy_X0_init rfl (by decide) (by decide) rfl (by decide) rfl ?_
  refine qa_astore_n (pc1 := 8) dL_law_7 rfl (by decide) rfl ?_
  refine qi_new (pc1 := 11) dL_law_8 rfl wn_L_10 (ci := k_mo) rfl (m := 176) rfl rfl rfl (fun j => rfl) (fun j => ks_zP 176 (by decide) j) (by decide) (by decide) ?_
  refine qa_dup (pc1 := 12) dL_law_11 rfl ?_
  refine qi_callI (pc1 := 15) dL_law_12 rfl (ci_mo (C := kw_C0) (M := kw_Z) (P := xi_sF kw_Y) (fun q g1 j => rfl) (fun q g1 j => ks_zP q (by omega) j)) wc_L_12 wy_X10_init rfl (by decide) (by decide) rfl (by decide) rfl ?_
  refine qa_astore_n (pc1 := 16) dL_law_15 rfl (by decide) rfl ?_
  refine qa_iconst (pc1 := 17) dL_law_16 (v := (nI 0)) kc_i0N rfl ?_
  refine qa_istore_n (pc1 := 18) dL_law_17 rfl (by decide) rfl ?_
  exact qa_ls (by exact (kw_lsc rfl (kw_lsc rfl (kw_lsc rfl (kw_lsc rfl kw_lsn))))) (ql_loop hX hL 0 (by omega) kw_C0 kw_M0 kw_P0 ks_all)
end LAW
