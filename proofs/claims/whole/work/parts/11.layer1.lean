/-! DRAFT, never compiled yet. THE LAYER: a world of cells that lie one behind another above the address b; each has a name 1, 2, ..; 0 is null.
It rests on four names of the tables part: ax_cl (classes), ax_fty (types of fields), ax_aty (types of arrays), ax_nA (how many array types), ax_ws (words), ax_nw (words of private links), ax_ao (element classes). -/
abbrev ax_V : Type := Int32 ⊕ (Nat ⊕ Nat)
abbrev ax_K : Type := Nat → Nat ⊕ Nat
abbrev ax_I : Type := Nat → Nat → Int32
abbrev ax_P : Type := Nat → Nat → Nat
def ax_rv (b : Nat) (n : Nat) : Option Nat := match n with
  | 0 => none
  | k + 1 => some (b + (k + 1))
def ax_cv (b : Nat) (v : ax_V) : Value := match v with
  | .inl x => .int x
  | .inr (.inl n) => va_rf (ax_rv b n)
  | .inr (.inr a) => .ref a
theorem ax_cat (b : Nat) (v : ax_V) : (ax_cv b v).category = 1 := by
  rcases v with x | n | a
  · rfl
  · cases n <;> rfl
  · rfl
theorem ax_rv_pos {b n : Nat} (h : n ≠ 0) : ax_rv b n = some (b + n) := by
  cases n with
  | zero => exact absurd rfl h
  | succ k => rfl
theorem ax_cv_ref {b n : Nat} (h : n ≠ 0) : ax_cv b (.inr (.inl n)) = .ref (b + n) := by
  show va_rf (ax_rv b n) = _
  rw [ax_rv_pos h]; rfl
theorem ax_rv_inj {b x y : Nat} : ax_rv b x = ax_rv b y ↔ x = y := by
  cases x <;> cases y <;> simp [ax_rv]
/-- a memory is changed at one place -/
def ax_u {α : Type} (f : Nat → Nat → α) (n k : Nat) (v : α) : Nat → Nat → α := fun a j => if a = n then (if j = k then v else f a j) else f a j
theorem ax_u_at {α : Type} {f : Nat → Nat → α} {n k : Nat} {v : α} : ax_u f n k v n k = v := by simp [ax_u]
theorem ax_u_n {α : Type} {f : Nat → Nat → α} {n k : Nat} {v : α} {a j : Nat} (h : a ≠ n) : ax_u f n k v a j = f a j := by simp [ax_u, h]
theorem ax_u_k {α : Type} {f : Nat → Nat → α} {n k : Nat} {v : α} {a j : Nat} (h : j ≠ k) : ax_u f n k v a j = f a j := by
  by_cases e : a = n <;> simp [ax_u, h, e]
def ax_fs (b ci n : Nat) (I : ax_I) (P : ax_P) : List Value := (List.range (ax_nf ci)).map (fun k => if ax_ref (ax_fty ci k) = true then va_rf (ax_rv b (P n k)) else .int (I n k))
theorem ax_fs_get {b ci n k : Nat} {I : ax_I} {P : ax_P} (hk : k < ax_nf ci) : (ax_fs b ci n I P)[k]? = some (if ax_ref (ax_fty ci k) = true then va_rf (ax_rv b (P n k)) else .int (I n k)) := by
  simp [ax_fs, hk]
theorem ax_fs_len {b ci n : Nat} {I : ax_I} {P : ax_P} : (ax_fs b ci n I P).length = ax_nf ci := by simp [ax_fs]
theorem ax_fs_setI {b ci n k : Nat} {I : ax_I} {P : ax_P} {v : Int32} (hk : k < ax_nf ci) (hr : ax_ref (ax_fty ci k) = false) : (ax_fs b ci n I P).set k (.int v) = ax_fs b ci n (ax_u I n k v) P := by
  apply List.ext_getElem?
  intro j
  by_cases hj : j < ax_nf ci
  · by_cases e : j = k
    · subst e
      rw [List.getElem?_set_self (by rw [ax_fs_len]; exact hj), ax_fs_get hj, hr]
      simp [ax_u]
    · rw [List.getElem?_set_ne (Ne.symm e), ax_fs_get hj, ax_fs_get hj, ax_u_k e]
  · rw [List.getElem?_eq_none (by rw [List.length_set, ax_fs_len]; omega), List.getElem?_eq_none (by rw [ax_fs_len]; omega)]
theorem ax_fs_setP {b ci n k : Nat} {I : ax_I} {P : ax_P} {v : Nat} (hk : k < ax_nf ci) (hr : ax_ref (ax_fty ci k) = true) : (ax_fs b ci n I P).set k (va_rf (ax_rv b v)) = ax_fs b ci n I (ax_u P n k v) := by
  apply List.ext_getElem?
  intro j
  by_cases hj : j < ax_nf ci
  · by_cases e : j = k
    · subst e
      rw [List.getElem?_set_self (by rw [ax_fs_len]; exact hj), ax_fs_get hj, hr]
      simp [ax_u]
    · rw [List.getElem?_set_ne (Ne.symm e), ax_fs_get hj, ax_fs_get hj, ax_u_k e]
  · rw [List.getElem?_eq_none (by rw [List.length_set, ax_fs_len]; omega), List.getElem?_eq_none (by rw [ax_fs_len]; omega)]
def ax_ar (b n t : Nat) (I : ax_I) (P : ax_P) : (Nat → Int32) ⊕ (Nat → Int64) ⊕ (Nat → UInt32) ⊕ (Nat → UInt64) ⊕ (Nat → Option Nat) :=
  if ax_ref (ax_aty t) = true then .inr (.inr (.inr (.inr (fun j => ax_rv b (P n j))))) else .inl (I n)
def ax_e (aC : Nat → ClassId) (b : Nat) (K : ax_K) (Ln : Nat → Nat) (I : ax_I) (P : ax_P) (n : Nat) : va_E := match K n with
  | .inl ci => .inr (ci, ax_fs b ci n I P)
  | .inr t => .inl (aC t, Ln n, ax_ar b n t I P)
def ax_w (aC : Nat → ClassId) (b N : Nat) (K : ax_K) (Ln : Nat → Nat) (I : ax_I) (P : ax_P) : va_W := (List.range N).map (fun i => (b + (i + 1), ax_e aC b K Ln I P (i + 1)))
section AXW
variable {aC : Nat → ClassId} {b N : Nat} {K K' : ax_K} {Ln Ln' : Nat → Nat} {I I' : ax_I} {P P' : ax_P}
theorem ax_w_len : (ax_w aC b N K Ln I P).length = N := by simp [ax_w]
theorem ax_w_k {k : Nat} (hk : k < N) : (ax_w aC b N K Ln I P)[k]? = some (b + (k + 1), ax_e aC b K Ln I P (k + 1)) := by
  simp [ax_w, hk]
theorem ax_w_get {n : Nat} (h0 : n ≠ 0) (hN : n ≤ N) : (ax_w aC b N K Ln I P)[n - 1]? = some (b + n, ax_e aC b K Ln I P n) := by
  have h := ax_w_k (aC := aC) (b := b) (K := K) (Ln := Ln) (I := I) (P := P) (N := N) (k := n - 1) (by omega)
  have e : n - 1 + 1 = n := by omega
  rw [e] at h
  exact h
theorem ax_w_at {k : Nat} {q : Nat × va_E} (h : (ax_w aC b N K Ln I P)[k]? = some q) : k < N ∧ q = (b + (k + 1), ax_e aC b K Ln I P (k + 1)) := by
  have hk : k < N := by
    have := (List.getElem?_eq_some_iff.mp h).1
    rwa [ax_w_len] at this
  exact ⟨hk, Option.some.inj (h.symm.trans (ax_w_k hk))⟩
theorem ax_w_D : va_D (fun q => b < q) (ax_w aC b N K Ln I P) := by
  refine ⟨fun i j p q hi hj he => ?_, fun k q hk => ?_⟩
  · obtain ⟨-, rfl⟩ := ax_w_at hi
    obtain ⟨-, rfl⟩ := ax_w_at hj
    have he : b + (i + 1) = b + (j + 1) := he
    omega
  · obtain ⟨-, rfl⟩ := ax_w_at hk
    show b < b + (k + 1)
    omega
theorem ax_w_set {n : Nat} {e : va_E} (h0 : n ≠ 0) (hN : n ≤ N) (he : ax_e aC b K' Ln' I' P' n = e) (ho : ∀ j, j ≠ n → ax_e aC b K' Ln' I' P' j = ax_e aC b K Ln I P j) : (ax_w aC b N K Ln I P).set (n - 1) (b + n, e) = ax_w aC b N K' Ln' I' P' := by
  apply List.ext_getElem?
  intro k
  by_cases hk : k = n - 1
  · subst hk
    rw [List.getElem?_set_self (by rw [ax_w_len]; omega), ax_w_get h0 hN, he]
  · rw [List.getElem?_set_ne (Ne.symm hk)]
    by_cases hl : k < N
    · rw [ax_w_k hl, ax_w_k hl, ho (k + 1) (by omega)]
    · rw [List.getElem?_eq_none (by rw [ax_w_len]; omega), List.getElem?_eq_none (by rw [ax_w_len]; omega)]
theorem ax_w_push {e : va_E} (he : ax_e aC b K' Ln' I' P' (N + 1) = e) (ho : ∀ j, j ≤ N → ax_e aC b K' Ln' I' P' j = ax_e aC b K Ln I P j) : ax_w aC b N K Ln I P ++ [(b + (N + 1), e)] = ax_w aC b (N + 1) K' Ln' I' P' := by
  apply List.ext_getElem?
  intro k
  by_cases hk : k < N
  · rw [List.getElem?_append_left (by rw [ax_w_len]; exact hk), ax_w_k hk, ax_w_k (by omega), ho (k + 1) (by omega)]
  · rw [List.getElem?_append_right (by rw [ax_w_len]; omega), ax_w_len]
    by_cases e1 : k = N
    · subst e1
      rw [Nat.sub_self, ax_w_k (by omega), he]
      rfl
    · rw [List.getElem?_eq_none (by simp; omega), List.getElem?_eq_none (by rw [ax_w_len]; omega)]
theorem ax_e_obj {n ci : Nat} (h : K n = .inl ci) : ax_e aC b K Ln I P n = .inr (ci, ax_fs b ci n I P) := by
  unfold ax_e; rw [h]
theorem ax_e_arr {n t : Nat} (h : K n = .inr t) : ax_e aC b K Ln I P n = .inl (aC t, Ln n, ax_ar b n t I P) := by
  unfold ax_e; rw [h]
theorem ax_e_u {j : Nat} (hI : ∀ k, I' j k = I j k) (hP : ∀ k, P' j k = P j k) : ax_e aC b K Ln I' P' j = ax_e aC b K Ln I P j := by
  have e1 : I' j = I j := funext hI
  have e2 : P' j = P j := funext hP
  unfold ax_e ax_fs ax_ar
  cases K j <;> simp [e1, e2]
end AXW
