theorem shl1 : ∀ x, x < 9 → (1 : Int32) <<< (nI x &&& 31) = nI (2 ^ x) := by decide +kernel
theorem shr1 : ∀ m, m < 512 → ∀ o, o < 9 → (nI m >>> (nI o &&& 31)) &&& 1 = if m.testBit o then nI 1 else nI 0 := by decide +kernel
def pmN (tx ty : Nat → Nat) (k : Nat) : Nat := 2 ^ tx k ||| 2 ^ ty k
/-- one pass over the pairs -/
def psN (tx ty : Nat → Nat) (m : Nat) : Nat → Nat
  | 0 => m
  | k + 1 => if psN tx ty m k &&& pmN tx ty k = 0 then psN tx ty m k else psN tx ty m k ||| pmN tx ty k
def clN (tx ty : Nat → Nat) (q m : Nat) : Nat → Nat
  | 0 => m
  | t + 1 => psN tx ty (clN tx ty q m t) q
theorem two9 {x : Nat} (h : x < 9) : 2 ^ x < 2 ^ 9 := Nat.pow_lt_pow_right (by decide) h
theorem psN_lt {tx ty : Nat → Nat} {m q : Nat} (hm : m < 2 ^ 9) (hx : ∀ k, k < q → tx k < 9 ∧ ty k < 9) : ∀ k, k ≤ q → psN tx ty m k < 2 ^ 9
  | 0, _ => hm
  | k + 1, hk => by
    have := psN_lt hm hx k (by omega)
    unfold psN
    split
    · exact this
    · exact Nat.or_lt_two_pow this (Nat.or_lt_two_pow (two9 (hx k (by omega)).1) (two9 (hx k (by omega)).2))
theorem clN_lt {tx ty : Nat → Nat} {m q : Nat} (hm : m < 2 ^ 9) (hx : ∀ k, k < q → tx k < 9 ∧ ty k < 9) : ∀ t, clN tx ty q m t < 2 ^ 9
  | 0 => hm
  | t + 1 => psN_lt (clN_lt hm hx t) hx q (Nat.le_refl q)
