/-! the start: what the tables say of the classes and of the arrays -/
theorem st_cls {s : State} {A : Array Value} (hts : ∀ w ∈ ax_ws, w.before A s = true) : ∃ D : va_G, ∀ (c : Nat) (q : vw_C), ax_cl[c]? = some q → u_Kn s q.1 q.2.1 q.2.2 (D.1 c) (D.2 c) := by
  have h : ∀ ci : Nat, ∃ x : ClassId × (Nat → Nat), ∀ q : vw_C, ax_cl[ci]? = some q → u_Kn s q.1 q.2.1 q.2.2 x.1 x.2 := by
    intro ci
    match ci with
    | 0 => obtain ⟨a, i, h⟩ := u_known hts ax_in0 (hts _ wn_L_7.2.1); exact ⟨(a, i), fun q e => by cases e; exact h⟩
    | 1 => obtain ⟨a, i, h⟩ := u_known hts ax_in1 (hts _ wn_X6_18.2.1); exact ⟨(a, i), fun q e => by cases e; exact h⟩
    | 2 => obtain ⟨a, i, h⟩ := u_known hts ax_in2 (hts _ wn_X8_11.2.1); exact ⟨(a, i), fun q e => by cases e; exact h⟩
    | 3 => obtain ⟨a, i, h⟩ := u_known hts ax_in3 (hts _ wn_X0_32.2.1); exact ⟨(a, i), fun q e => by cases e; exact h⟩
    | 4 => obtain ⟨a, i, h⟩ := u_known hts ax_in4 (hts _ wn_X3_25.2.1); exact ⟨(a, i), fun q e => by cases e; exact h⟩
    | 5 => obtain ⟨a, i, h⟩ := u_known hts ax_in5 (hts _ wn_X7_11.2.1); exact ⟨(a, i), fun q e => by cases e; exact h⟩
    | 6 => obtain ⟨a, i, h⟩ := u_known hts ax_in6 (hts _ wn_X0_7.2.1); exact ⟨(a, i), fun q e => by cases e; exact h⟩
    | 7 => obtain ⟨a, i, h⟩ := u_known hts ax_in7 (hts _ wn_X0_16.2.1); exact ⟨(a, i), fun q e => by cases e; exact h⟩
    | 8 => obtain ⟨a, i, h⟩ := u_known hts ax_in8 (hts _ wn_X0_25.2.1); exact ⟨(a, i), fun q e => by cases e; exact h⟩
    | 9 => obtain ⟨a, i, h⟩ := u_known hts ax_in9 (hts _ wn_X3_18.2.1); exact ⟨(a, i), fun q e => by cases e; exact h⟩
    | 10 => obtain ⟨a, i, h⟩ := u_known hts ax_in10 (hts _ wn_L_10.2.1); exact ⟨(a, i), fun q e => by cases e; exact h⟩
    | n + 11 => exact ⟨(0, fun _ => 0), fun q e => by cases e⟩
  exact ⟨(fun c => (Classical.choose (h c)).1, fun c => (Classical.choose (h c)).2), fun c q e => Classical.choose_spec (h c) q e⟩
theorem st_nm : ∀ q ∈ ax_nm, Cond.methodLinkNest q.1 q.2.1 q.2.2.1 q.2.2.2 ∈ lw_tbl := by decide +kernel
theorem st_ao : ∀ C ∈ ax_ao, Cond.arrayOver (.object C) ∈ lw_tbl := by decide +kernel
theorem st_a1 {s : State} {A : Array Value} {C : String} (h : (Cond.arrayOver (.object C)).before A s = true) : ∃ c : ClassId, ArrOfT s c (.object C) ∧ va_RA s c (.object C) := by
  obtain ⟨comp, c, k, h1, -, h2, h3, h4⟩ := Cond.arrayOver_spec h
  exact ⟨c, fun N z => ⟨(fun k h => by cases h), k, h2, comp, h3⟩, k, comp, h2, h3, h1, h4⟩
theorem st_a0 {s : State} {A : Array Value} (h : (Cond.arrayClass .int).before A s = true) : ∃ c : ClassId, ArrOfT s c .int ∧ va_RA s c .int := by
  obtain ⟨c, k, comp, h1, h2, h3⟩ := Cond.arrayClass_spec h
  exact ⟨c, fun N z => ⟨(fun k h => by cases h), k, h2, comp, h3⟩, h1⟩
theorem st_a2 {s : State} {A : Array Value} (h : (Cond.arrayClass .boolean).before A s = true) : ∃ c : ClassId, ArrOfT s c .boolean ∧ va_RA s c .boolean := by
  obtain ⟨c, k, comp, h1, h2, h3⟩ := Cond.arrayClass_spec h
  exact ⟨c, fun N z => ⟨(fun k h => by cases h), k, h2, comp, h3⟩, h1⟩
theorem st_arr {s : State} {A : Array Value} (hts : ∀ w ∈ lw_tbl, w.before A s = true) : ∃ aC : Nat → ClassId, ∀ (k : Nat) (q : ClassId × FieldType), (ax_tys aC)[k]? = some q → ArrOfT s q.1 q.2 ∧ va_RA s q.1 q.2 := by
  have ho : ∀ C ∈ ax_ao, ∃ c : ClassId, ArrOfT s c (.object C) ∧ va_RA s c (.object C) := fun C hC => st_a1 (hts _ (st_ao C hC))
  have h : ∀ t, ∃ c : ClassId, t < ax_nA → ArrOfT s c (ax_aty t) ∧ va_RA s c (ax_aty t) := by
    intro t
    match t with
    | 0 => obtain ⟨c, h⟩ := st_a0 (hts _ (List.mem_filter.mp wa_int).1); exact ⟨c, fun _ => h⟩
    | 1 => obtain ⟨c, h⟩ := st_a2 (hts _ (List.mem_filter.mp wa_boolean).1); exact ⟨c, fun _ => h⟩
    | 2 => obtain ⟨c, h⟩ := ho "RealmLogins$Datagram" (by decide); exact ⟨c, fun _ => h⟩
    | 3 => obtain ⟨c, h⟩ := ho "RealmLogins$Point" (by decide); exact ⟨c, fun _ => h⟩
    | 4 => obtain ⟨c, h⟩ := ho "RealmLogins$Line" (by decide); exact ⟨c, fun _ => h⟩
    | 5 => obtain ⟨c, h⟩ := ho "RealmLogins$Entry" (by decide); exact ⟨c, fun _ => h⟩
    | 6 => obtain ⟨c, h⟩ := ho "RealmLogins$Home" (by decide); exact ⟨c, fun _ => h⟩
    | 7 => obtain ⟨c, h⟩ := ho "RealmLogins$JournalRecord" (by decide); exact ⟨c, fun _ => h⟩
    | n + 8 => exact ⟨0, fun h => absurd h (by show ¬ (n + 8 < 8); omega)⟩
  refine ⟨fun t => Classical.choose (h t), fun k q e => ?_⟩
  have hk : k < ax_nA := by
    have := (List.getElem?_eq_some_iff.mp e).1
    simpa [ax_tys] using this
  rw [ax_tys_get hk] at e
  cases e
  exact Classical.choose_spec (h k) hk
theorem st_T {s : State} {A : Array Value} (hts : ∀ w ∈ lw_tbl, w.before A s = true) : ∃ (D : va_G) (aC : Nat → ClassId), ax_T D aC s := by
  obtain ⟨D, hD⟩ := st_cls (s := s) (A := A) (fun w h => hts w (List.mem_filter.mp h).1)
  obtain ⟨aC, hA⟩ := st_arr hts
  exact ⟨D, aC, ⟨hD, hA⟩, fun q hq => va_Nw.of rfl (hts _ (st_nm q hq)), fun q hq => (by cases hq), fun C hC => va_AO.of (hts _ (st_ao C hC))⟩
