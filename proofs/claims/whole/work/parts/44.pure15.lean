theorem allS {P : Nat → Prop} {i : Nat} : (∀ j, j < i + 1 → P j) ↔ ((∀ j, j < i → P j) ∧ P i) := ⟨fun h => ⟨fun j hj => h j (by omega), h i (by omega)⟩, fun h j hj => by
  by_cases e : j = i
  · rw [e]; exact h.2
  · exact h.1 j (by omega)⟩
theorem exS {P : Nat → Prop} {i : Nat} : (∃ j, j < i + 1 ∧ P j) ↔ ((∃ j, j < i ∧ P j) ∨ P i) := ⟨fun ⟨j, hj, hp⟩ => by
  by_cases e : j = i
  · rw [e] at hp; exact Or.inr hp
  · exact Or.inl ⟨j, by omega, hp⟩, fun h => h.elim (fun ⟨j, hj, hp⟩ => ⟨j, by omega, hp⟩) (fun hp => ⟨i, by omega, hp⟩)⟩
def toR (h : HpT) (n : Nat) (x : Nat) : Int32 := match x with
  | 0 => h 31 0
  | 1 => h 31 1
  | 2 => h 31 2
  | 3 => h 23 4
  | 4 => h 23 8
  | 5 => h 23 6
  | 6 => h 23 10
  | _ => fbF (h 27) n
/-- best by the reference's own test: below 0 for none -/
def bbN (f : Nat → Int32) : Nat → Option Nat
  | 0 => none
  | j + 1 => if f j < 0 then bbN f j else match bbN f j with
    | none => some j
    | some q => if f j < f q then some j else some q
theorem bbN_lt (f : Nat → Int32) : ∀ j q, bbN f j = some q → q < j
  | 0, q, h => by cases h
  | j + 1, q, h => by
    unfold bbN at h
    by_cases e : f j < 0
    · rw [if_pos e] at h; have := bbN_lt f j q h; omega
    · rw [if_neg e] at h
      cases hr : bbN f j with
      | none => rw [hr] at h; injection h with h; omega
      | some z =>
        have hz := bbN_lt f j z hr
        rw [hr] at h
        by_cases e2 : f j < f z
        · simp only [e2, if_true] at h; injection h with h; omega
        · simp only [e2, if_false] at h; injection h with h; omega
