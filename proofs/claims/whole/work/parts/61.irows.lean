/-! rows for constructors: all cells are named ahead (kw_K, kw_L), new ones hold zeros -/
theorem qi_K {m : Nat} {v : Nat ⊕ Nat} (h : kw_K m = v) : ax_kn kw_K m v = kw_K := by
  funext a; unfold ax_kn; split
  · subst_vars; rfl
  · rfl
theorem qi_L {m v : Nat} (h : kw_L m = v) : ax_ln kw_L m v = kw_L := by
  funext a; unfold ax_ln; split
  · subst_vars; rfl
  · rfl
theorem qi_z {α : Type} {f : Nat → Nat → α} {m : Nat} {v : α} (h : ∀ j, f m j = v) : ax_z f m v = f := by
  funext a j; unfold ax_z; split
  · subst_vars; exact (h j).symm
  · rfl
def kw_rmc (d mc ms : Nat) : Room := { frames := d, cells := mc, slots := ms, locals := 30 * d }
def kw_roomI (R rm : Room) (mc ms ny cells slots : Nat) : Bool := Nat.beq rm.cells mc && (Nat.beq rm.slots ms && (Nat.ble (rm.frames + 1) R.frames && Nat.ble (8 + (ny + 11) + rm.locals) R.locals))
theorem kw_roomI_ok {R rm : Room} {mc ms ny cells slots : Nat} (h : kw_roomI R rm mc ms ny cells slots = true) (h1 : cells + mc ≤ R.cells) (h2 : slots + ms ≤ R.slots) : ax_room R rm mc ms ny cells slots := by
  unfold kw_roomI at h
  simp only [Bool.and_eq_true] at h
  obtain ⟨g1, g2, g3, g4⟩ := h
  exact ⟨Nat.eq_of_beq_eq_true g1, Nat.eq_of_beq_eq_true g2, ⟨Nat.le_of_ble_eq_true g3, Nat.le_of_ble_eq_true g4⟩, h1, h2⟩
section QI
variable {l : Launch} {D : va_G} {aC : Nat → ClassId} {b : Nat} {own : String} {cc : ByteArray} {nL : Nat} {ret : Option FieldType} {ini : Bool} {R : Room} {N0 : Nat} {F : List Frame → Array Value → State → State → Prop} {Xs : State → Prop} {pc pc1 : Nat} {ls : List (Nat × ax_V)} {st : List ax_V} {cells slots : Nat} {C M : ax_I} {P : ax_P}
theorem qi_new {ci ix Nf m : Nat} {Cn : String} {T : u_T} (hd : decode cc pc = .ok (.new ix, 3)) (hp : pc + 3 = pc1) (hw : Cond.classLink own ix Cn ∈ ax_ws ∧ Cond.instantiable Cn Nf ∈ ax_ws ∧ Cond.initialized Cn ∈ ax_ws) (hc : ax_cl[ci]? = some (Cn, T, Nf)) (hm : N0 + cells + 1 = m) (hk : kw_K m = .inl ci) (hl : kw_L m = 0) (hz : ∀ j, kw_gl C M m j = 0) (hzP : ∀ j, P m j = 0) (hcells : cells + 1 ≤ R.cells) (hslots : slots + Nf ≤ R.slots) (k : ax_G l D aC b own cc nL ret ini R N0 F Xs pc1 ls (.inr (.inl m) :: st) (cells + 1) (slots + Nf) kw_K kw_L (kw_gl C M) P) : ax_G l D aC b own cc nL ret ini R N0 F Xs pc ls st cells slots kw_K kw_L (kw_gl C M) P := by
  subst hp hm
  refine ax_new hc hw.1 hw.2.1 hw.2.2 hcells hslots hd ?_
  rw [qi_K hk, qi_L hl, qi_z hz, qi_z hzP]
  exact k
theorem qi_newa {t N1 m : Nat} {at_ : ArrayType} (hd : decode cc pc = .ok (.newarray at_, 2)) (hp : pc + 2 = pc1) (hty : newarray.typeOf at_ = ax_aty t) (ht : t < ax_nA) (hr : ax_ref (ax_aty t) = false) (hdf : defaultValue (ax_aty t) = .int 0) (w1 : Cond.arrayClass (newarray.typeOf at_) ∈ ax_ws) (hby : N1 * componentBytes (ax_aty t) ≤ 536870912) (hN : N1 < 2 ^ 31) (hm : N0 + cells + 1 = m) (hk : kw_K m = .inr t) (hl : kw_L m = N1) (hz : ∀ j, kw_gl C M m j = 0) (hzP : ∀ j, P m j = 0) (hcells : cells + 1 ≤ R.cells) (hslots : slots + N1 ≤ R.slots) (k : ax_G l D aC b own cc nL ret ini R N0 F Xs pc1 ls (.inr (.inl m) :: st) (cells + 1) (slots + N1) kw_K kw_L (kw_gl C M) P) : ax_G l D aC b own cc nL ret ini R N0 F Xs pc ls (.inl (nI N1) :: st) cells slots kw_K kw_L (kw_gl C M) P := by
  subst hp hm
  refine ax_newa ht hty hr hdf w1 (nI_pos hN) (nI_clamp hN) hby hcells hslots hd ?_
  rw [qi_K hk, qi_L hl, qi_z hz, qi_z hzP]
  exact k
theorem qi_newq {t N1 m ix : Nat} {Cn : String} (hd : decode cc pc = .ok (.anewarray ix, 3)) (hp : pc + 3 = pc1) (hty : ax_aty t = .object Cn) (ht : t < ax_nA) (w1 : Cond.classLink own ix Cn ∈ ax_ws) (hao : Cn ∈ ax_ao) (hby : N1 * 4 ≤ 536870912) (hN : N1 < 2 ^ 31) (hm : N0 + cells + 1 = m) (hk : kw_K m = .inr t) (hl : kw_L m = N1) (hz : ∀ j, kw_gl C M m j = 0) (hzP : ∀ j, P m j = 0) (hcells : cells + 1 ≤ R.cells) (hslots : slots + N1 ≤ R.slots) (k : ax_G l D aC b own cc nL ret ini R N0 F Xs pc1 ls (.inr (.inl m) :: st) (cells + 1) (slots + N1) kw_K kw_L (kw_gl C M) P) : ax_G l D aC b own cc nL ret ini R N0 F Xs pc ls (.inl (nI N1) :: st) cells slots kw_K kw_L (kw_gl C M) P := by
  subst hp hm
  refine ax_newq ht hty w1 hao (nI_pos hN) (nI_clamp hN) hby hcells hslots hd ?_
  rw [qi_K hk, qi_L hl, qi_z hz, qi_z hzP]
  exact k
theorem qi_obj {n ix : Nat} (hd : decode cc pc = .ok (.invokespecial ix, 3)) (hp : pc + 3 = pc1) (hw : Cond.methodLink own ix Lib.objectInit ∈ ax_ws ∧ Cond.instanceMethod Lib.objectInit ∈ ax_ws ∧ Cond.code Lib.objectInit ⟨#[0xb1]⟩ 1 none ∈ ax_ws) (h0 : n ≠ 0) (hfr : 1 ≤ R.frames) (hlo : st.length + 12 ≤ R.locals) (k : ax_G l D aC b own cc nL ret ini R N0 F Xs pc1 ls st cells slots kw_K kw_L (kw_gl C M) P) : ax_G l D aC b own cc nL ret ini R N0 F Xs pc ls (.inr (.inl n) :: st) cells slots kw_K kw_L (kw_gl C M) P := by
  subst hp
  exact ax_objInit hw.1 hw.2.1 hw.2.2 h0 hfr hlo hd k
variable {y : MethodName} {cy : ByteArray} {ny : Nat} {rm : Room} {ix n mcy msy : Nat} {av st0 : List ax_V} {C1 M1 : ax_I} {P1 : ax_P}
theorem qi_callI (hd : decode cc pc = .ok (.invokespecial ix, 3)) (hp : pc + 3 = pc1) (hM : ax_C l D aC b y cy ny none rm (N0 + cells) mcy msy (.inr (.inl n) :: av) kw_K kw_L (kw_gl C M) P (kw_R none kw_K kw_L (kw_gl C1 M1) P1)) (hL : ax_LI own ix y cy ny) (hyo : ax_yok y av.length) (hrm : kw_roomI R rm mcy msy ny cells slots = true) (h1 : cells + mcy ≤ R.cells) (h2 : slots + msy ≤ R.slots) (hro : Nat.ble st.length 8 = true) (h0 : n ≠ 0) (hst : st0 = av.reverse ++ .inr (.inl n) :: st) (k : ax_G l D aC b own cc nL ret ini R N0 F Xs pc1 ls st (cells + mcy) (slots + msy) kw_K kw_L (kw_gl C1 M1) P1) : ax_G l D aC b own cc nL ret ini R N0 F Xs pc ls st0 cells slots kw_K kw_L (kw_gl C M) P := by
  subst hp
  exact ax_callI hM hL hyo (kw_roomI_ok hrm h1 h2) (Nat.le_of_ble_eq_true hro) h0 hst hd (fun r K' Ln' I' P' h => by obtain ⟨rfl, rfl, rfl, rfl, rfl⟩ := h; exact k)
theorem qi_callJ (hd : decode cc pc = .ok (.invokespecial ix, 3)) (hp : pc + 3 = pc1) (hM : ax_C l D aC b y cy ny none rm (N0 + cells) mcy msy (.inr (.inl n) :: av) kw_K kw_L (kw_gl C M) P (kw_R none kw_K kw_L (kw_gl C1 M1) P1)) (hL : ax_NI own ix y cy ny) (hyo : ax_yok y av.length) (hrm : kw_roomI R rm mcy msy ny cells slots = true) (h1 : cells + mcy ≤ R.cells) (h2 : slots + msy ≤ R.slots) (hro : Nat.ble st.length 8 = true) (h0 : n ≠ 0) (hst : st0 = av.reverse ++ .inr (.inl n) :: st) (k : ax_G l D aC b own cc nL ret ini R N0 F Xs pc1 ls st (cells + mcy) (slots + msy) kw_K kw_L (kw_gl C1 M1) P1) : ax_G l D aC b own cc nL ret ini R N0 F Xs pc ls st0 cells slots kw_K kw_L (kw_gl C M) P := by
  subst hp
  exact ax_callIN hM hL hyo (kw_roomI_ok hrm h1 h2) (Nat.le_of_ble_eq_true hro) h0 hst hd (fun r K' Ln' I' P' h => by obtain ⟨rfl, rfl, rfl, rfl, rfl⟩ := h; exact k)
theorem qa_cs {c1 s1 : Nat} (e1 : cells = c1) (e2 : slots = s1) (k : ax_G l D aC b own cc nL ret ini R N0 F Xs pc ls st c1 s1 kw_K kw_L (kw_gl C M) P) : ax_G l D aC b own cc nL ret ini R N0 F Xs pc ls st cells slots kw_K kw_L (kw_gl C M) P := by subst e1 e2; exact k
end QI

theorem kl_dg : ∀ d, d < 25 → kw_L (6 + 2 * d) = 0 := by decide
theorem kl_ln : ∀ p, p < 2 → ∀ i, i < 4 → kw_L (59 + 6 * p + i) = 0 := by decide
theorem kl_pt : ∀ p, p < 2 → kw_L (57 + 6 * p) = 0 := by decide
theorem kl_en : ∀ i, i < 8 → kw_L (71 + i) = 0 := by decide
theorem kl_hm : ∀ h, h < 2 → kw_L (80 + 48 * h) = 0 := by decide
theorem kl_se : ∀ h, h < 2 → kw_L (83 + 48 * h) = 0 := by decide
theorem kl_rc : ∀ h, h < 2 → ∀ r, r < 40 → kw_L (88 + 48 * h + r) = 0 := by decide
theorem kl_dg' {d : Nat} (h : kw_dg d) : kw_L d = 0 := by
  have h1 := h.1
  have h2 := h.2.1
  have h3 := h.2.2
  have e : d = 6 + 2 * ((d - 6) / 2) := by omega
  rw [e]; exact kl_dg _ (by omega)

