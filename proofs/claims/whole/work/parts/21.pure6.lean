def rtF (h : HpT) (k : Nat) : Nat → Int32 := fun j => if j < k then tkV (h 2 (j / 6)) (h 3 (j / 6)) (j % 6) else h 15 j
theorem rt_step (h : HpT) (i t : Nat) (ht : t < 6) : hs (va_up h 15 (rtF h (i * 6 + t))) 15 (i * 6 + t) (tkV (h 2 i) (h 3 i) t) = va_up h 15 (rtF h (i * 6 + (t + 1))) := by
  rw [hs_up]
  congr 1
  funext j
  simp only [upd, rtF]
  by_cases h1 : j = i * 6 + t
  · subst h1
    rw [if_pos rfl, if_pos (by omega), show (i * 6 + t) / 6 = i by omega, show (i * 6 + t) % 6 = t by omega]
  · rw [if_neg h1]
    by_cases h2 : j < i * 6 + t
    · rw [if_pos h2, if_pos (by omega)]
    · rw [if_neg h2, if_neg (by omega)]
theorem rt_0 (h : HpT) : rtF h 0 = h 15 := by funext j; simp [rtF]
theorem ix9 (p t : Nat) : nI p * 9 + nI t = nI (p * 9 + t) := by rw [show (9 : Int32) = nI 9 from rfl, pk_mul, nI_add]
theorem ix3 (p t : Nat) : nI p * 3 + nI t = nI (p * 3 + t) := by rw [show (3 : Int32) = nI 3 from rfl, pk_mul, nI_add]
def mxI (x y : Int32) : Int32 := if x < y then y else x
/-- what houses take, and give, in an hour; f: takings -/
def takS (f : Nat → Int32) (t : Nat) : Nat → Int32
  | 0 => 0
  | i + 1 => takS f t i + mxI (f (i * 6 + t)) 0
def givS (f : Nat → Int32) (t : Nat) : Nat → Int32
  | 0 => 0
  | i + 1 => givS f t i + mxI (-f (i * 6 + t)) 0
/-- whether an hour is tight -/
def tgB (f : Nat → Int32) (fu : Int32) (n t : Nat) : Bool := decide (fu < mxI (takS f t n) (givS f t n))
def tcN (b : Nat → Bool) : Nat → Nat
  | 0 => 0
  | t + 1 => tcN b t + (if b t then 1 else 0)
def thF (b : Nat → Bool) (f : Nat → Int32) : Nat → (Nat → Int32)
  | 0 => f
  | t + 1 => if b t then upd (thF b f t) (tcN b t) (nI t) else thF b f t
theorem tcN_le (b : Nat → Bool) : ∀ t, tcN b t ≤ t
  | 0 => Nat.le_refl _
  | t + 1 => by unfold tcN; have := tcN_le b t; split <;> omega
def prF (w : Nat → Int32) (f : Nat → Int32) (i o : Nat) : Nat → Int32
  | 0 => 0
  | t + 1 => prF w f i o t + w t * f (i * 6 + t) * f (o * 6 + t)
def mpF (h : HpT) (i o : Nat) : Nat → Int32 := fun j => if (j / 9 < i ∧ j % 9 ≤ j / 9) ∨ (j / 9 = i ∧ j % 9 < o) then prF (h 9) (h 15) (j / 9) (j % 9) 6 else h 16 j
theorem mp_step (h : HpT) (i o : Nat) (ho : o < 9) : hs (va_up h 16 (mpF h i o)) 16 (i * 9 + o) (prF (h 9) (h 15) i o 6) = va_up h 16 (mpF h i (o + 1)) := by
  rw [hs_up]
  congr 1
  funext j
  simp only [upd, mpF]
  by_cases h1 : j = i * 9 + o
  · subst h1
    rw [if_pos rfl, if_pos (Or.inr ⟨by omega, by omega⟩), show (i * 9 + o) / 9 = i by omega, show (i * 9 + o) % 9 = o by omega]
  · rw [if_neg h1]
    by_cases h2 : (j / 9 < i ∧ j % 9 ≤ j / 9) ∨ (j / 9 = i ∧ j % 9 < o)
    · rw [if_pos h2, if_pos (by omega)]
    · rw [if_neg h2, if_neg (by omega)]
theorem mp_next (h : HpT) (i : Nat) : mpF h i (i + 1) = mpF h (i + 1) 0 := by
  funext j
  simp only [mpF]
  by_cases h2 : (j / 9 < i ∧ j % 9 ≤ j / 9) ∨ (j / 9 = i ∧ j % 9 < i + 1)
  · rw [if_pos h2, if_pos (by omega)]
  · rw [if_neg h2, if_neg (by omega)]
theorem mp_0 (h : HpT) : mpF h 0 0 = h 16 := by funext j; simp [mpF]
def gaI (f : Nat → Int32) (i : Nat) (x : Int32) : Nat → Int32
  | 0 => x
  | o + 1 => gaI f i x o - f (i * 9 + o)
def gaF (f : Nat → Int32) : Nat → Int32
  | 0 => 0
  | i + 1 => gaI f i (gaF f i + f (i * 9 + i)) i
