def bI (c : Prop) [Decidable c] : Int32 := if c then 1 else 0
theorem bI_0 {c : Prop} [Decidable c] (h : bI c = 0) : ¬ c := by unfold bI at h; split at h <;> simp_all
theorem bI_1 {c : Prop} [Decidable c] (h : ¬ bI c = 0) : c := by unfold bI at h; split at h <;> simp_all
theorem bI_nar {c : Prop} [Decidable c] : narrow .boolean (.int (bI c)) = .int (bI c) := by unfold bI; split <;> rfl
theorem bI_t {c : Prop} [Decidable c] (h : c) : bI c = 1 := if_pos h
theorem bI_f {c : Prop} [Decidable c] (h : ¬ c) : bI c = 0 := if_neg h
theorem rI {v x : Int32} {h1 h2 : HpT} (e : v = x) (e2 : h1 = h2) : some (Value.int v) = some (Value.int x) ∧ h1 = h2 := ⟨by rw [e], e2⟩
def ntF (a b c : Int32) : Int32 := a * a + b * b + c * c - a * b - b * c - c * a
def gsum (w n : Nat → Int32) : Nat → Int32
  | 0 => 0
  | k + 1 => gsum w n k + w k * n k
/-- what a house of that sort and size takes -/
def tkV (so sz : Int32) (t : Nat) : Int32 := sz * tmI.getD (so.toNatClampNeg * 6 + t) 0
def packF (f : Nat → Int32) : Nat → Int32
  | 0 => 0
  | k + 1 => packF f k ||| (f k <<< ((2 * nI k) &&& 31))
def phF (l x : Int32) : Int32 := (l.toUInt32 >>> ((2 * x).toUInt32 &&& Int32.toUInt32 31)).toInt32 &&& 3
def refC (h : HpT) (w : Int32) : HpT := if w = -2 then hs h 0 4 (h 0 4 + 1) else if w = -3 then hs h 0 5 (h 0 5 + 1) else hs h 0 6 (h 0 6 + 1)
def ntC (h : HpT) (t : Nat) : Int32 := ntF (h 10 t) (h 10 (6 + t)) (h 10 (12 + t))
def grC (h : HpT) : Int32 := gsum (h 9) (ntC h) 6
theorem ix6 (p t : Nat) : nI p * 6 + nI t = nI (p * 6 + t) := by rw [show (6 : Int32) = nI 6 from rfl, pk_mul, nI_add]
def fillF (f : Nat → Int32) (n : Nat) (v : Int32) : Nat → Int32 := fun j => if j < n then v else f j
def alF (f : Nat → Int32) (p : Nat) (v : Nat → Int32) (t : Nat) : Nat → Int32 := fun j => if p * 6 ≤ j ∧ j < p * 6 + t then f j + v (j - p * 6) else f j
theorem up_up {α : Type} (f : Nat → α) (k : Nat) (v w : α) : va_up (va_up f k v) k w = va_up f k w := by funext j; simp only [va_up]; split <;> rfl
theorem up_id {α : Type} (f : Nat → α) (k : Nat) : va_up f k (f k) = f := by funext j; simp only [va_up]; split <;> simp_all
theorem hs_up (h : HpT) (k j : Nat) (f : Nat → Int32) (v : Int32) : hs (va_up h k f) k j v = va_up h k (upd f j v) := by
  show va_up (va_up h k f) k (upd (va_up h k f k) j v) = _
  rw [va_up_self, up_up]
