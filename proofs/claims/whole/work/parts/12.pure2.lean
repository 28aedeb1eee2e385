theorem fill_0 (f : Nat → Int32) (v : Int32) : fillF f 0 v = f := by funext j; simp [fillF]
theorem fill_step (h : HpT) (q i : Nat) (f : Nat → Int32) (v : Int32) : hs (va_up h q (fillF f i v)) q i v = va_up h q (fillF f (i + 1) v) := by
  rw [hs_up]
  congr 1
  funext j
  simp only [upd, fillF]
  by_cases h1 : j = i
  · rw [if_pos h1, if_pos (by omega)]
  · rw [if_neg h1]
    by_cases h2 : j < i
    · rw [if_pos h2, if_pos (by omega)]
    · rw [if_neg h2, if_neg (by omega)]
/-- the load of a phase in an hour -/
def ldV (so sz ph : Nat → Int32) (p t : Nat) : Nat → Int32
  | 0 => 0
  | k + 1 => ldV so sz ph p t k + (if ph k = nI p then tkV (so k) (sz k) t else 0)
def ldH (n : Nat) (h : HpT) : Nat → Int32 := fun j => if j < 18 then ldV (h 2) (h 3) (h 4) (j / 6) (j % 6) n else h 10 j
/-- the world with the loads as they must be -/
def cano (n : Nat) (h : HpT) : HpT := va_up h 10 (ldH n h)
def LI (n : Nat) (h : HpT) : Prop := ∀ j, j < 18 → h 10 j = ldV (h 2) (h 3) (h 4) (j / 6) (j % 6) n
theorem cano_id {n : Nat} {h : HpT} (hl : LI n h) : cano n h = h := by
  unfold cano
  have e : ldH n h = h 10 := by
    funext j
    unfold ldH
    split
    · rename_i hj; exact (hl j hj).symm
    · rfl
  rw [e, up_id]
theorem cano_LI (n : Nat) (h : HpT) : LI n (cano n h) := by
  intro j hj
  show ldH n h j = _
  unfold ldH
  rw [if_pos hj]
  rfl
theorem cano_cell (n : Nat) (h : HpT) {k : Nat} (hk : k ≠ 10) : cano n h k = h k := by unfold cano; exact va_up_ne _ _ hk
theorem ldV_cong {so sz ph so' sz' ph' : Nat → Int32} {p t : Nat} : ∀ {n : Nat}, (∀ i, i < n → so i = so' i ∧ sz i = sz' i ∧ ph i = ph' i) → ldV so sz ph p t n = ldV so' sz' ph' p t n
  | 0, _ => rfl
  | n + 1, hh => by
    have h1 := hh n (Nat.lt_succ_self n)
    unfold ldV
    rw [ldV_cong (fun i hi => hh i (Nat.lt_succ_of_lt hi)), h1.1, h1.2.1, h1.2.2]
theorem ldV_ph {so sz ph : Nat → Int32} {p t i : Nat} {x : Int32} : ∀ {n : Nat}, i < n → ldV so sz (upd ph i x) p t n = ldV so sz ph p t n - (if ph i = nI p then tkV (so i) (sz i) t else 0) + (if x = nI p then tkV (so i) (sz i) t else 0)
  | 0, hi => absurd hi (Nat.not_lt_zero _)
  | n + 1, hi => by
    unfold ldV
    by_cases e : i = n
    · subst e
      rw [pk_us, ldV_cong (ph' := ph) (fun j hj => ⟨rfl, rfl, pk_un (by omega)⟩)]
      grind
    · rw [pk_un (by omega), ldV_ph (by omega)]
      grind
theorem ldV_so {so sz ph so' sz' : Nat → Int32} {p t i : Nat} : ∀ {n : Nat}, i < n → (∀ j, j ≠ i → so' j = so j ∧ sz' j = sz j) → ldV so' sz' ph p t n = ldV so sz ph p t n - (if ph i = nI p then tkV (so i) (sz i) t else 0) + (if ph i = nI p then tkV (so' i) (sz' i) t else 0)
  | 0, hi, _ => absurd hi (Nat.not_lt_zero _)
  | n + 1, hi, hj => by
    unfold ldV
    by_cases e : i = n
    · subst e
      rw [ldV_cong (so' := so) (sz' := sz) (fun j hj2 => ⟨(hj j (by omega)).1, (hj j (by omega)).2, rfl⟩)]
      grind
    · rw [(hj n (by omega)).1, (hj n (by omega)).2, ldV_so (by omega) hj]
      grind
theorem al_step (h : HpT) (f : Nat → Int32) (p t : Nat) (v : Nat → Int32) : hs (va_up h 10 (alF f p v t)) 10 (p * 6 + t) (va_up h 10 (alF f p v t) 10 (p * 6 + t) + v t) = va_up h 10 (alF f p v (t + 1)) := by
  rw [hs_up, va_up_self]
  congr 1
  funext j
  simp only [upd, alF]
  by_cases h1 : j = p * 6 + t
  · subst h1
    rw [if_pos rfl, if_neg (by omega), if_pos (by omega), Nat.add_sub_cancel_left]
  · rw [if_neg h1]
    by_cases h2 : p * 6 ≤ j ∧ j < p * 6 + t
    · rw [if_pos h2, if_pos (by omega)]
    · rw [if_neg h2, if_neg (by omega)]
theorem al_0 (f : Nat → Int32) (p : Nat) (v : Nat → Int32) : alF f p v 0 = f := by funext j; unfold alF; rw [if_neg (by omega)]
/-- what holds of the street's cells -/
def SI (n : Nat) (h : HpT) : Prop := n ≤ 9 ∧ h 1 9 = nI n ∧ (∀ i, i < 9 → ∃ a, a < 6 ∧ h 2 i = nI a) ∧ (∀ i, i < 9 → ∃ a, a < 3 ∧ h 4 i = nI a) ∧ LI n h
