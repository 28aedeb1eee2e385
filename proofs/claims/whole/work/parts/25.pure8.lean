theorem tcN_inj (b : Nat → Bool) {q r : Nat} (hq : b q = true) (hr : b r = true) (e : tcN b q = tcN b r) : q = r := by
  rcases Nat.lt_trichotomy q r with z | z | z
  · have h1 := tcN_mono b (show q + 1 ≤ r from z)
    rw [tcN, if_pos hq] at h1
    omega
  · exact z
  · have h1 := tcN_mono b (show r + 1 ≤ q from z)
    rw [tcN, if_pos hr] at h1
    omega
/-- loads of the laid ones in tight hours, the first k of these: one more is laid on p -/
def alT (b : Nat → Bool) (f : Nat → Int32) (p : Nat) (v : Nat → Int32) (k : Nat) : Nat → Int32 := fun j => if j / 6 = p ∧ b (j % 6) = true ∧ tcN b (j % 6) < k then f j + v (j % 6) else f j
theorem alT_0 (b : Nat → Bool) (f : Nat → Int32) (p : Nat) (v : Nat → Int32) : alT b f p v 0 = f := by funext j; simp [alT]
theorem alT_step (b : Nat → Bool) (h : HpT) (f : Nat → Int32) (p q : Nat) (v : Nat → Int32) (hq : q < 6) (hb : b q = true) : hs (va_up h 18 (alT b f p v (tcN b q))) 18 (p * 6 + q) (alT b f p v (tcN b q) (p * 6 + q) + v q) = va_up h 18 (alT b f p v (tcN b q + 1)) := by
  rw [hs_up]
  congr 1
  funext j
  simp only [upd, alT]
  by_cases h1 : j = p * 6 + q
  · subst h1
    rw [if_pos rfl, show (p * 6 + q) / 6 = p by omega, show (p * 6 + q) % 6 = q by omega, if_neg (by omega), if_pos ⟨rfl, hb, by omega⟩]
  · rw [if_neg h1]
    by_cases h2 : j / 6 = p ∧ b (j % 6) = true ∧ tcN b (j % 6) < tcN b q
    · rw [if_pos h2, if_pos ⟨h2.1, h2.2.1, by omega⟩]
    · rw [if_neg h2, if_neg (fun z => h2 ⟨z.1, z.2.1, by
        rcases Nat.lt_or_ge (tcN b (j % 6)) (tcN b q) with y | y
        · exact y
        · have := tcN_inj b z.2.1 hb (by omega)
          omega⟩)]
theorem alT_undo (b : Nat → Bool) (f : Nat → Int32) (p : Nat) (v : Nat → Int32) (k : Nat) : alT b (alT b f p (fun t => 1 * v t) k) p (fun t => -1 * v t) k = f := by
  funext j
  simp only [alT]
  by_cases h2 : j / 6 = p ∧ b (j % 6) = true ∧ tcN b (j % 6) < k
  · rw [if_pos h2, if_pos h2]; grind
  · rw [if_neg h2, if_neg h2]
def TG (b : Nat → Bool) (h : HpT) : Prop := h 11 10 = nI (tcN b 6) ∧ ∃ f, h 19 = thF b f 6
def sfT (b : Nat → Bool) (l : Nat → Int32) (fu : Int32) : Prop := ∀ t, t < 6 → b t = true → ∀ p, p < 3 → absI (l (p * 6 + t)) ≤ fu
def mtF (a f : Nat → Int32) (i p : Nat) : Nat → Int32
  | 0 => 0
  | o + 1 => mtF a f i p o + (if a o = nI p then f (i * 9 + o) else 0)
def mzF (f : Nat → Int32) (i k : Nat) : Nat → Int32 := fun x => if i * 3 ≤ x ∧ x < i * 3 + k then 0 else f x
def meF (f a pr : Nat → Int32) (i o : Nat) : Nat → Int32 := fun x => if i * 3 ≤ x ∧ x < i * 3 + 3 then mtF a pr i (x - i * 3) o else f x
theorem mz_step (h : HpT) (f : Nat → Int32) (i k : Nat) : hs (va_up h 17 (mzF f i k)) 17 (i * 3 + k) 0 = va_up h 17 (mzF f i (k + 1)) := by
  rw [hs_up]
  congr 1
  funext j
  simp only [upd, mzF]
  by_cases h1 : j = i * 3 + k
  · rw [if_pos h1, if_pos (by omega)]
  · rw [if_neg h1]
    by_cases h2 : i * 3 ≤ j ∧ j < i * 3 + k
    · rw [if_pos h2, if_pos (by omega)]
    · rw [if_neg h2, if_neg (by omega)]
theorem mz_me (f a pr : Nat → Int32) (i : Nat) : mzF f i 3 = meF f a pr i 0 := rfl
theorem mz_0 (f : Nat → Int32) (i : Nat) : mzF f i 0 = f := by funext j; unfold mzF; rw [if_neg (by omega)]
theorem me_step (h : HpT) (f a pr : Nat → Int32) (i o p : Nat) (hp : p < 3) (e : a o = nI p) : hs (va_up h 17 (meF f a pr i o)) 17 (i * 3 + p) (meF f a pr i o (i * 3 + p) + pr (i * 9 + o)) = va_up h 17 (meF f a pr i (o + 1)) := by
  rw [hs_up]
  congr 1
  funext j
  simp only [upd, meF]
  by_cases h1 : j = i * 3 + p
  · subst h1
    rw [if_pos rfl, if_pos (by omega), if_pos (by omega), Nat.add_sub_cancel_left, mtF, if_pos e]
  · rw [if_neg h1]
    by_cases h2 : i * 3 ≤ j ∧ j < i * 3 + 3
    · rw [if_pos h2, if_pos h2, mtF, e, if_neg (fun z => h1 (by
        have := (nI_eqs (by omega) (by omega)).mp z
        omega))]
      grind
    · rw [if_neg h2, if_neg h2]
