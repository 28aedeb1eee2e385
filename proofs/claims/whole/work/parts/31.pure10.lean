def ov : Option Nat → Int32
  | none => -1
  | some j => nI j
def cobN (f : Nat → Int32) : Nat → Option Nat
  | 0 => none
  | j + 1 => if f j = -1 then cobN f j else match cobN f j with
    | none => some j
    | some q => if f j < f q then some j else some q
theorem cobN_lt (f : Nat → Int32) : ∀ j q, cobN f j = some q → q < j
  | 0, q, h => by cases h
  | j + 1, q, h => by
    unfold cobN at h
    by_cases e : f j = -1
    · rw [if_pos e] at h; have := cobN_lt f j q h; omega
    · rw [if_neg e] at h
      cases hr : cobN f j with
      | none => rw [hr] at h; injection h with h; omega
      | some z =>
        have hz := cobN_lt f j z hr
        rw [hr] at h
        by_cases e2 : f j < f z
        · simp only [e2, if_true] at h; injection h with h; omega
        · simp only [e2, if_false] at h; injection h with h; omega
def fwN (f : Nat → Int32) (g : Int32) : Nat → Option Nat
  | 0 => none
  | j + 1 => match fwN f g j with
    | some q => some q
    | none => if f j = -1 ∨ g < f j then none else some j
theorem fwN_up (f : Nat → Int32) (g : Int32) {j q : Nat} (h : fwN f g j = some q) : ∀ m, fwN f g (j + m) = some q
  | 0 => h
  | m + 1 => by
    show fwN f g (j + m + 1) = _
    rw [fwN, fwN_up f g h m]
theorem nI_m1 {j : Nat} (h : j < 100) : ¬ nI j = -1 := fun e => by
  have := congrArg Int32.toInt e
  rw [nI_toInt (by omega)] at this
  have e2 : (-1 : Int32).toInt = -1 := rfl
  omega
