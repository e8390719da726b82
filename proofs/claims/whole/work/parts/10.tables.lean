def ax_ref (t : FieldType) : Bool := match t with
  | .object _ => true
  | .array _ => true
  | _ => false
/-! the layer's tables -/
abbrev k_rl : Nat := 0
abbrev k_dg : Nat := 1
abbrev k_en : Nat := 2
abbrev k_hm : Nat := 3
abbrev k_rc : Nat := 4
abbrev k_ln : Nat := 5
abbrev k_net : Nat := 6
abbrev k_pt : Nat := 7
abbrev k_rel : Nat := 8
abbrev k_se : Nat := 9
abbrev k_mo : Nat := 10
abbrev ax_cl : List vw_C := [(RX0, TX0, 4), (RX1, TX1, 1), (RX2, TX2, 7), (RX3, TX3, 7), (RX4, TX4, 8), (RX5, TX5, 10), (RX6, TX6, 6), (RX7, TX7, 3), (RX8, TX8, 3), (RX9, TX9, 4), (RX10, TX10, 20)]
def ax_nf (ci : Nat) : Nat := match ci with
  | 0 => 4
  | 1 => 1
  | 2 => 7
  | 3 => 7
  | 4 => 8
  | 5 => 10
  | 6 => 6
  | 7 => 3
  | 8 => 3
  | 9 => 4
  | 10 => 20
  | _ => 0
def ax_ty0 (k : Nat) : FieldType := match k with
  | 0 => .object "RealmLogins$Network"
  | 1 => .array (.object "RealmLogins$Point")
  | 2 => .object "RealmLogins$Relay"
  | 3 => .array (.object "RealmLogins$Home")
  | _ => .int
def ax_ty1 (k : Nat) : FieldType := match k with
  | 0 => .array .int
  | _ => .int
def ax_ty2 (k : Nat) : FieldType := match k with
  | 0 => .boolean
  | 1 => .int
  | 2 => .int
  | 3 => .int
  | 4 => .int
  | 5 => .int
  | 6 => .int
  | _ => .int
def ax_ty3 (k : Nat) : FieldType := match k with
  | 0 => .int
  | 1 => .array .int
  | 2 => .array .int
  | 3 => .object "RealmLogins$Sessions"
  | 4 => .array (.object "RealmLogins$JournalRecord")
  | 5 => .int
  | 6 => .int
  | _ => .int
def ax_ty4 (k : Nat) : FieldType := match k with
  | 0 => .int
  | 1 => .int
  | 2 => .int
  | 3 => .int
  | 4 => .int
  | 5 => .int
  | 6 => .int
  | 7 => .int
  | _ => .int
def ax_ty5 (k : Nat) : FieldType := match k with
  | 0 => .int
  | 1 => .int
  | 2 => .int
  | 3 => .int
  | 4 => .int
  | 5 => .int
  | 6 => .int
  | 7 => .int
  | 8 => .int
  | 9 => .int
  | _ => .int
def ax_ty6 (k : Nat) : FieldType := match k with
  | 0 => .array .int
  | 1 => .array .int
  | 2 => .array (.object "RealmLogins$Datagram")
  | 3 => .int
  | 4 => .int
  | 5 => .object "RealmLogins$Datagram"
  | _ => .int
def ax_ty7 (k : Nat) : FieldType := match k with
  | 0 => .int
  | 1 => .array (.object "RealmLogins$Line")
  | 2 => .int
  | _ => .int
def ax_ty8 (k : Nat) : FieldType := match k with
  | 0 => .array (.object "RealmLogins$Entry")
  | 1 => .int
  | 2 => .int
  | _ => .int
def ax_ty9 (k : Nat) : FieldType := match k with
  | 0 => .array .boolean
  | 1 => .array .int
  | 2 => .array .int
  | 3 => .int
  | _ => .int
def ax_ty10 (k : Nat) : FieldType := match k with
  | 0 => .array .int
  | 1 => .array .int
  | 2 => .array .boolean
  | 3 => .array .int
  | 4 => .array .int
  | 5 => .int
  | 6 => .array .int
  | 7 => .int
  | 8 => .array .int
  | 9 => .array .int
  | 10 => .array .int
  | 11 => .array .int
  | 12 => .int
  | 13 => .int
  | 14 => .array .int
  | 15 => .array .int
  | 16 => .array .int
  | 17 => .array .int
  | 18 => .array .int
  | 19 => .int
  | _ => .int
def ax_fty (ci k : Nat) : FieldType := match ci with
  | 0 => ax_ty0 k
  | 1 => ax_ty1 k
  | 2 => ax_ty2 k
  | 3 => ax_ty3 k
  | 4 => ax_ty4 k
  | 5 => ax_ty5 k
  | 6 => ax_ty6 k
  | 7 => ax_ty7 k
  | 8 => ax_ty8 k
  | 9 => ax_ty9 k
  | 10 => ax_ty10 k
  | _ => .int
def ax_aty (t : Nat) : FieldType := match t with
  | 0 => .int
  | 1 => .boolean
  | 2 => .object "RealmLogins$Datagram"
  | 3 => .object "RealmLogins$Point"
  | 4 => .object "RealmLogins$Line"
  | 5 => .object "RealmLogins$Entry"
  | 6 => .object "RealmLogins$Home"
  | 7 => .object "RealmLogins$JournalRecord"
  | _ => .int
abbrev ax_nA : Nat := 8
def ax_ws : List Cond := lw_tbl.filter goodWord
def ax_nm : List (String × Nat × MethodName × String) := [("RealmLogins$Network", 24, ⟨"RealmLogins$Datagram", "<init>", "()V"⟩, "RealmLogins"), ("RealmLogins$Point", 24, ⟨"RealmLogins$Line", "<init>", "()V"⟩, "RealmLogins"), ("RealmLogins$Relay", 21, ⟨"RealmLogins$Entry", "<init>", "()V"⟩, "RealmLogins"), ("RealmLogins$Home", 20, ⟨"RealmLogins$Sessions", "<init>", "()V"⟩, "RealmLogins"), ("RealmLogins$Home", 35, ⟨"RealmLogins$JournalRecord", "<init>", "()V"⟩, "RealmLogins"), ("RealmLogins$Point", 72, ⟨"RealmLogins", "mix", "(II)I"⟩, "RealmLogins"), ("RealmLogins$Network", 55, ⟨"RealmLogins", "isRequest", "(I)Z"⟩, "RealmLogins"), ("RealmLogins$Datagram", 13, ⟨"RealmLogins", "mix", "(II)I"⟩, "RealmLogins"), ("RealmLogins$Home", 41, ⟨"RealmLogins", "isRequest", "(I)Z"⟩, "RealmLogins"), ("RealmLogins$Home", 101, ⟨"RealmLogins", "mix", "(II)I"⟩, "RealmLogins"), ("RealmLogins$Home", 119, ⟨"RealmLogins", "isUser", "(I)Z"⟩, "RealmLogins"), ("RealmLogins$Relay", 35, ⟨"RealmLogins", "isRequest", "(I)Z"⟩, "RealmLogins"), ("RealmLogins$Relay", 72, ⟨"RealmLogins", "homeOf", "(I)I"⟩, "RealmLogins"), ("RealmLogins$Relay", 82, ⟨"RealmLogins", "mix", "(II)I"⟩, "RealmLogins"), ("RealmLogins$Relay", 96, ⟨"RealmLogins", "isAnswer", "(I)Z"⟩, "RealmLogins")]
def ax_nfl : List (String × Nat × String × String × String × String) := []
def ax_ao : List String := ["RealmLogins$Datagram", "RealmLogins$Point", "RealmLogins$Line", "RealmLogins$Entry", "RealmLogins$Home", "RealmLogins$JournalRecord"]
theorem kw_in {i : Nat} {w : Cond} (h : lw_tbl[i]? = some w) (g : goodWord w = true) : w ∈ ax_ws := List.mem_filter.mpr ⟨List.mem_of_getElem? h, g⟩
theorem ax_good : ∀ w ∈ ax_ws, goodWord w = true := fun w h => (List.mem_filter.mp h).2
theorem ax_in0 : ∀ w ∈ u_ws RX0 TX0 4, w ∈ ax_ws := by
  intro w hw
  obtain ⟨k, hk, rfl⟩ := List.mem_map.mp hw
  have hk := List.mem_range.mp hk
  match k, hk with
  | 0, _ => exact kw_in (i := 297) (by decide +kernel) (by decide +kernel)
  | 1, _ => exact kw_in (i := 299) (by decide +kernel) (by decide +kernel)
  | 2, _ => exact kw_in (i := 301) (by decide +kernel) (by decide +kernel)
  | 3, _ => exact kw_in (i := 303) (by decide +kernel) (by decide +kernel)
  | k + 4, hk => omega
theorem ax_ok0 : (∀ k, k < 4 → parseFieldDescriptor (TX0 k).2.2.1 = some (ax_ty0 k)) ∧ (∀ a, a < 4 → ∀ b, b < 4 → a ≠ b → (TX0 a).2.1 ≠ (TX0 b).2.1) := by decide +kernel
theorem ax_df0 : ∀ k, k < 4 → defaultValue (ax_ty0 k) = if ax_ref (ax_ty0 k) = true then .null else .int 0 := by
  intro k hk
  match k, hk with
  | 0, _ => rfl
  | 1, _ => rfl
  | 2, _ => rfl
  | 3, _ => rfl
  | k + 4, hk => omega
theorem ax_in1 : ∀ w ∈ u_ws RX1 TX1 1, w ∈ ax_ws := by
  intro w hw
  obtain ⟨k, hk, rfl⟩ := List.mem_map.mp hw
  have hk := List.mem_range.mp hk
  match k, hk with
  | 0, _ => exact kw_in (i := 62) (by decide +kernel) (by decide +kernel)
  | k + 1, hk => omega
theorem ax_ok1 : (∀ k, k < 1 → parseFieldDescriptor (TX1 k).2.2.1 = some (ax_ty1 k)) ∧ (∀ a, a < 1 → ∀ b, b < 1 → a ≠ b → (TX1 a).2.1 ≠ (TX1 b).2.1) := by decide +kernel
theorem ax_df1 : ∀ k, k < 1 → defaultValue (ax_ty1 k) = if ax_ref (ax_ty1 k) = true then .null else .int 0 := by
  intro k hk
  match k, hk with
  | 0, _ => rfl
  | k + 1, hk => omega
theorem ax_in2 : ∀ w ∈ u_ws RX2 TX2 7, w ∈ ax_ws := by
  intro w hw
  obtain ⟨k, hk, rfl⟩ := List.mem_map.mp hw
  have hk := List.mem_range.mp hk
  match k, hk with
  | 0, _ => exact kw_in (i := 175) (by decide +kernel) (by decide +kernel)
  | 1, _ => exact kw_in (i := 177) (by decide +kernel) (by decide +kernel)
  | 2, _ => exact kw_in (i := 179) (by decide +kernel) (by decide +kernel)
  | 3, _ => exact kw_in (i := 181) (by decide +kernel) (by decide +kernel)
  | 4, _ => exact kw_in (i := 183) (by decide +kernel) (by decide +kernel)
  | 5, _ => exact kw_in (i := 185) (by decide +kernel) (by decide +kernel)
  | 6, _ => exact kw_in (i := 187) (by decide +kernel) (by decide +kernel)
  | k + 7, hk => omega
theorem ax_ok2 : (∀ k, k < 7 → parseFieldDescriptor (TX2 k).2.2.1 = some (ax_ty2 k)) ∧ (∀ a, a < 7 → ∀ b, b < 7 → a ≠ b → (TX2 a).2.1 ≠ (TX2 b).2.1) := by decide +kernel
theorem ax_df2 : ∀ k, k < 7 → defaultValue (ax_ty2 k) = if ax_ref (ax_ty2 k) = true then .null else .int 0 := by
  intro k hk
  match k, hk with
  | 0, _ => rfl
  | 1, _ => rfl
  | 2, _ => rfl
  | 3, _ => rfl
  | 4, _ => rfl
  | 5, _ => rfl
  | 6, _ => rfl
  | k + 7, hk => omega
theorem ax_in3 : ∀ w ∈ u_ws RX3 TX3 7, w ∈ ax_ws := by
  intro w hw
  obtain ⟨k, hk, rfl⟩ := List.mem_map.mp hw
  have hk := List.mem_range.mp hk
  match k, hk with
  | 0, _ => exact kw_in (i := 278) (by decide +kernel) (by decide +kernel)
  | 1, _ => exact kw_in (i := 280) (by decide +kernel) (by decide +kernel)
  | 2, _ => exact kw_in (i := 282) (by decide +kernel) (by decide +kernel)
  | 3, _ => exact kw_in (i := 284) (by decide +kernel) (by decide +kernel)
  | 4, _ => exact kw_in (i := 286) (by decide +kernel) (by decide +kernel)
  | 5, _ => exact kw_in (i := 288) (by decide +kernel) (by decide +kernel)
  | 6, _ => exact kw_in (i := 290) (by decide +kernel) (by decide +kernel)
  | k + 7, hk => omega
theorem ax_ok3 : (∀ k, k < 7 → parseFieldDescriptor (TX3 k).2.2.1 = some (ax_ty3 k)) ∧ (∀ a, a < 7 → ∀ b, b < 7 → a ≠ b → (TX3 a).2.1 ≠ (TX3 b).2.1) := by decide +kernel
theorem ax_df3 : ∀ k, k < 7 → defaultValue (ax_ty3 k) = if ax_ref (ax_ty3 k) = true then .null else .int 0 := by
  intro k hk
  match k, hk with
  | 0, _ => rfl
  | 1, _ => rfl
  | 2, _ => rfl
  | 3, _ => rfl
  | 4, _ => rfl
  | 5, _ => rfl
  | 6, _ => rfl
  | k + 7, hk => omega
theorem ax_in4 : ∀ w ∈ u_ws RX4 TX4 8, w ∈ ax_ws := by
  intro w hw
  obtain ⟨k, hk, rfl⟩ := List.mem_map.mp hw
  have hk := List.mem_range.mp hk
  match k, hk with
  | 0, _ => exact kw_in (i := 251) (by decide +kernel) (by decide +kernel)
  | 1, _ => exact kw_in (i := 253) (by decide +kernel) (by decide +kernel)
  | 2, _ => exact kw_in (i := 255) (by decide +kernel) (by decide +kernel)
  | 3, _ => exact kw_in (i := 257) (by decide +kernel) (by decide +kernel)
  | 4, _ => exact kw_in (i := 259) (by decide +kernel) (by decide +kernel)
  | 5, _ => exact kw_in (i := 261) (by decide +kernel) (by decide +kernel)
  | 6, _ => exact kw_in (i := 263) (by decide +kernel) (by decide +kernel)
  | 7, _ => exact kw_in (i := 265) (by decide +kernel) (by decide +kernel)
  | k + 8, hk => omega
theorem ax_ok4 : (∀ k, k < 8 → parseFieldDescriptor (TX4 k).2.2.1 = some (ax_ty4 k)) ∧ (∀ a, a < 8 → ∀ b, b < 8 → a ≠ b → (TX4 a).2.1 ≠ (TX4 b).2.1) := by decide +kernel
theorem ax_df4 : ∀ k, k < 8 → defaultValue (ax_ty4 k) = if ax_ref (ax_ty4 k) = true then .null else .int 0 := by
  intro k hk
  match k, hk with
  | 0, _ => rfl
  | 1, _ => rfl
  | 2, _ => rfl
  | 3, _ => rfl
  | 4, _ => rfl
  | 5, _ => rfl
  | 6, _ => rfl
  | 7, _ => rfl
  | k + 8, hk => omega
theorem ax_in5 : ∀ w ∈ u_ws RX5 TX5 10, w ∈ ax_ws := by
  intro w hw
  obtain ⟨k, hk, rfl⟩ := List.mem_map.mp hw
  have hk := List.mem_range.mp hk
  match k, hk with
  | 0, _ => exact kw_in (i := 123) (by decide +kernel) (by decide +kernel)
  | 1, _ => exact kw_in (i := 125) (by decide +kernel) (by decide +kernel)
  | 2, _ => exact kw_in (i := 127) (by decide +kernel) (by decide +kernel)
  | 3, _ => exact kw_in (i := 129) (by decide +kernel) (by decide +kernel)
  | 4, _ => exact kw_in (i := 131) (by decide +kernel) (by decide +kernel)
  | 5, _ => exact kw_in (i := 133) (by decide +kernel) (by decide +kernel)
  | 6, _ => exact kw_in (i := 135) (by decide +kernel) (by decide +kernel)
  | 7, _ => exact kw_in (i := 137) (by decide +kernel) (by decide +kernel)
  | 8, _ => exact kw_in (i := 139) (by decide +kernel) (by decide +kernel)
  | 9, _ => exact kw_in (i := 141) (by decide +kernel) (by decide +kernel)
  | k + 10, hk => omega
theorem ax_ok5 : (∀ k, k < 10 → parseFieldDescriptor (TX5 k).2.2.1 = some (ax_ty5 k)) ∧ (∀ a, a < 10 → ∀ b, b < 10 → a ≠ b → (TX5 a).2.1 ≠ (TX5 b).2.1) := by decide +kernel
theorem ax_df5 : ∀ k, k < 10 → defaultValue (ax_ty5 k) = if ax_ref (ax_ty5 k) = true then .null else .int 0 := by
  intro k hk
  match k, hk with
  | 0, _ => rfl
  | 1, _ => rfl
  | 2, _ => rfl
  | 3, _ => rfl
  | 4, _ => rfl
  | 5, _ => rfl
  | 6, _ => rfl
  | 7, _ => rfl
  | 8, _ => rfl
  | 9, _ => rfl
  | k + 10, hk => omega
theorem ax_in6 : ∀ w ∈ u_ws RX6 TX6 6, w ∈ ax_ws := by
  intro w hw
  obtain ⟨k, hk, rfl⟩ := List.mem_map.mp hw
  have hk := List.mem_range.mp hk
  match k, hk with
  | 0, _ => exact kw_in (i := 78) (by decide +kernel) (by decide +kernel)
  | 1, _ => exact kw_in (i := 80) (by decide +kernel) (by decide +kernel)
  | 2, _ => exact kw_in (i := 82) (by decide +kernel) (by decide +kernel)
  | 3, _ => exact kw_in (i := 84) (by decide +kernel) (by decide +kernel)
  | 4, _ => exact kw_in (i := 86) (by decide +kernel) (by decide +kernel)
  | 5, _ => exact kw_in (i := 88) (by decide +kernel) (by decide +kernel)
  | k + 6, hk => omega
theorem ax_ok6 : (∀ k, k < 6 → parseFieldDescriptor (TX6 k).2.2.1 = some (ax_ty6 k)) ∧ (∀ a, a < 6 → ∀ b, b < 6 → a ≠ b → (TX6 a).2.1 ≠ (TX6 b).2.1) := by decide +kernel
theorem ax_df6 : ∀ k, k < 6 → defaultValue (ax_ty6 k) = if ax_ref (ax_ty6 k) = true then .null else .int 0 := by
  intro k hk
  match k, hk with
  | 0, _ => rfl
  | 1, _ => rfl
  | 2, _ => rfl
  | 3, _ => rfl
  | 4, _ => rfl
  | 5, _ => rfl
  | k + 6, hk => omega
theorem ax_in7 : ∀ w ∈ u_ws RX7 TX7 3, w ∈ ax_ws := by
  intro w hw
  obtain ⟨k, hk, rfl⟩ := List.mem_map.mp hw
  have hk := List.mem_range.mp hk
  match k, hk with
  | 0, _ => exact kw_in (i := 148) (by decide +kernel) (by decide +kernel)
  | 1, _ => exact kw_in (i := 150) (by decide +kernel) (by decide +kernel)
  | 2, _ => exact kw_in (i := 152) (by decide +kernel) (by decide +kernel)
  | k + 3, hk => omega
theorem ax_ok7 : (∀ k, k < 3 → parseFieldDescriptor (TX7 k).2.2.1 = some (ax_ty7 k)) ∧ (∀ a, a < 3 → ∀ b, b < 3 → a ≠ b → (TX7 a).2.1 ≠ (TX7 b).2.1) := by decide +kernel
theorem ax_df7 : ∀ k, k < 3 → defaultValue (ax_ty7 k) = if ax_ref (ax_ty7 k) = true then .null else .int 0 := by
  intro k hk
  match k, hk with
  | 0, _ => rfl
  | 1, _ => rfl
  | 2, _ => rfl
  | k + 3, hk => omega
theorem ax_in8 : ∀ w ∈ u_ws RX8 TX8 3, w ∈ ax_ws := by
  intro w hw
  obtain ⟨k, hk, rfl⟩ := List.mem_map.mp hw
  have hk := List.mem_range.mp hk
  match k, hk with
  | 0, _ => exact kw_in (i := 193) (by decide +kernel) (by decide +kernel)
  | 1, _ => exact kw_in (i := 195) (by decide +kernel) (by decide +kernel)
  | 2, _ => exact kw_in (i := 197) (by decide +kernel) (by decide +kernel)
  | k + 3, hk => omega
theorem ax_ok8 : (∀ k, k < 3 → parseFieldDescriptor (TX8 k).2.2.1 = some (ax_ty8 k)) ∧ (∀ a, a < 3 → ∀ b, b < 3 → a ≠ b → (TX8 a).2.1 ≠ (TX8 b).2.1) := by decide +kernel
theorem ax_df8 : ∀ k, k < 3 → defaultValue (ax_ty8 k) = if ax_ref (ax_ty8 k) = true then .null else .int 0 := by
  intro k hk
  match k, hk with
  | 0, _ => rfl
  | 1, _ => rfl
  | 2, _ => rfl
  | k + 3, hk => omega
theorem ax_in9 : ∀ w ∈ u_ws RX9 TX9 4, w ∈ ax_ws := by
  intro w hw
  obtain ⟨k, hk, rfl⟩ := List.mem_map.mp hw
  have hk := List.mem_range.mp hk
  match k, hk with
  | 0, _ => exact kw_in (i := 218) (by decide +kernel) (by decide +kernel)
  | 1, _ => exact kw_in (i := 220) (by decide +kernel) (by decide +kernel)
  | 2, _ => exact kw_in (i := 222) (by decide +kernel) (by decide +kernel)
  | 3, _ => exact kw_in (i := 224) (by decide +kernel) (by decide +kernel)
  | k + 4, hk => omega
theorem ax_ok9 : (∀ k, k < 4 → parseFieldDescriptor (TX9 k).2.2.1 = some (ax_ty9 k)) ∧ (∀ a, a < 4 → ∀ b, b < 4 → a ≠ b → (TX9 a).2.1 ≠ (TX9 b).2.1) := by decide +kernel
theorem ax_df9 : ∀ k, k < 4 → defaultValue (ax_ty9 k) = if ax_ref (ax_ty9 k) = true then .null else .int 0 := by
  intro k hk
  match k, hk with
  | 0, _ => rfl
  | 1, _ => rfl
  | 2, _ => rfl
  | 3, _ => rfl
  | k + 4, hk => omega
theorem ax_in10 : ∀ w ∈ u_ws RX10 TX10 20, w ∈ ax_ws := by
  intro w hw
  obtain ⟨k, hk, rfl⟩ := List.mem_map.mp hw
  have hk := List.mem_range.mp hk
  match k, hk with
  | 0, _ => exact kw_in (i := 653) (by decide +kernel) (by decide +kernel)
  | 1, _ => exact kw_in (i := 655) (by decide +kernel) (by decide +kernel)
  | 2, _ => exact kw_in (i := 657) (by decide +kernel) (by decide +kernel)
  | 3, _ => exact kw_in (i := 659) (by decide +kernel) (by decide +kernel)
  | 4, _ => exact kw_in (i := 661) (by decide +kernel) (by decide +kernel)
  | 5, _ => exact kw_in (i := 663) (by decide +kernel) (by decide +kernel)
  | 6, _ => exact kw_in (i := 665) (by decide +kernel) (by decide +kernel)
  | 7, _ => exact kw_in (i := 667) (by decide +kernel) (by decide +kernel)
  | 8, _ => exact kw_in (i := 669) (by decide +kernel) (by decide +kernel)
  | 9, _ => exact kw_in (i := 671) (by decide +kernel) (by decide +kernel)
  | 10, _ => exact kw_in (i := 673) (by decide +kernel) (by decide +kernel)
  | 11, _ => exact kw_in (i := 675) (by decide +kernel) (by decide +kernel)
  | 12, _ => exact kw_in (i := 677) (by decide +kernel) (by decide +kernel)
  | 13, _ => exact kw_in (i := 679) (by decide +kernel) (by decide +kernel)
  | 14, _ => exact kw_in (i := 681) (by decide +kernel) (by decide +kernel)
  | 15, _ => exact kw_in (i := 683) (by decide +kernel) (by decide +kernel)
  | 16, _ => exact kw_in (i := 685) (by decide +kernel) (by decide +kernel)
  | 17, _ => exact kw_in (i := 687) (by decide +kernel) (by decide +kernel)
  | 18, _ => exact kw_in (i := 689) (by decide +kernel) (by decide +kernel)
  | 19, _ => exact kw_in (i := 691) (by decide +kernel) (by decide +kernel)
  | k + 20, hk => omega
theorem ax_ok10 : (∀ k, k < 20 → parseFieldDescriptor (TX10 k).2.2.1 = some (ax_ty10 k)) ∧ (∀ a, a < 20 → ∀ b, b < 20 → a ≠ b → (TX10 a).2.1 ≠ (TX10 b).2.1) := by decide +kernel
theorem ax_df10 : ∀ k, k < 20 → defaultValue (ax_ty10 k) = if ax_ref (ax_ty10 k) = true then .null else .int 0 := by
  intro k hk
  match k, hk with
  | 0, _ => rfl
  | 1, _ => rfl
  | 2, _ => rfl
  | 3, _ => rfl
  | 4, _ => rfl
  | 5, _ => rfl
  | 6, _ => rfl
  | 7, _ => rfl
  | 8, _ => rfl
  | 9, _ => rfl
  | 10, _ => rfl
  | 11, _ => rfl
  | 12, _ => rfl
  | 13, _ => rfl
  | 14, _ => rfl
  | 15, _ => rfl
  | 16, _ => rfl
  | 17, _ => rfl
  | 18, _ => rfl
  | 19, _ => rfl
  | k + 20, hk => omega
theorem ax_clf : ∀ ci C T Nf, ax_cl[ci]? = some (C, T, Nf) → ax_nf ci = Nf ∧ (∀ w ∈ u_ws C T Nf, w ∈ ax_ws) ∧ (∀ k, k < Nf → parseFieldDescriptor (T k).2.2.1 = some (ax_fty ci k)) ∧ (∀ a, a < Nf → ∀ b, b < Nf → a ≠ b → (T a).2.1 ≠ (T b).2.1) ∧ (∀ j, j < Nf → defaultValue (ax_fty ci j) = if ax_ref (ax_fty ci j) = true then .null else .int 0) := by
  intro ci C T Nf h
  match ci, h with
  | 0, h => cases h; exact ⟨rfl, ax_in0, ax_ok0.1, ax_ok0.2, ax_df0⟩
  | 1, h => cases h; exact ⟨rfl, ax_in1, ax_ok1.1, ax_ok1.2, ax_df1⟩
  | 2, h => cases h; exact ⟨rfl, ax_in2, ax_ok2.1, ax_ok2.2, ax_df2⟩
  | 3, h => cases h; exact ⟨rfl, ax_in3, ax_ok3.1, ax_ok3.2, ax_df3⟩
  | 4, h => cases h; exact ⟨rfl, ax_in4, ax_ok4.1, ax_ok4.2, ax_df4⟩
  | 5, h => cases h; exact ⟨rfl, ax_in5, ax_ok5.1, ax_ok5.2, ax_df5⟩
  | 6, h => cases h; exact ⟨rfl, ax_in6, ax_ok6.1, ax_ok6.2, ax_df6⟩
  | 7, h => cases h; exact ⟨rfl, ax_in7, ax_ok7.1, ax_ok7.2, ax_df7⟩
  | 8, h => cases h; exact ⟨rfl, ax_in8, ax_ok8.1, ax_ok8.2, ax_df8⟩
  | 9, h => cases h; exact ⟨rfl, ax_in9, ax_ok9.1, ax_ok9.2, ax_df9⟩
  | 10, h => cases h; exact ⟨rfl, ax_in10, ax_ok10.1, ax_ok10.2, ax_df10⟩
  | n + 11, h => cases h
