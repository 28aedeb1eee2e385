theorem mg_step (h : HpT) (i : Nat) (f : Nat → Int32) (a b : Int32) (e : f i = b) : hs (va_up h 6 (mgF f a b i)) 6 i a = va_up h 6 (mgF f a b (i + 1)) := by
  rw [hs_up]
  congr 1
  funext j
  simp only [upd, mgF]
  by_cases h1 : j = i
  · rw [if_pos h1, if_pos ⟨by omega, by rw [h1]; exact e⟩]
  · rw [if_neg h1]
    by_cases h2 : j < i ∧ f j = b
    · rw [if_pos h2, if_pos ⟨by omega, h2.2⟩]
    · rw [if_neg h2, if_neg (fun q => h2 ⟨by omega, q.2⟩)]
theorem mg_skip (i : Nat) (f : Nat → Int32) (a b : Int32) (e : ¬ f i = b) : mgF f a b i = mgF f a b (i + 1) := by
  funext j
  simp only [mgF]
  by_cases h2 : j < i ∧ f j = b
  · rw [if_pos h2, if_pos ⟨by omega, h2.2⟩]
  · rw [if_neg h2, if_neg (fun q => h2 ⟨by
      rcases Nat.lt_or_ge j i with z | z
      · exact z
      · exact absurd (by rw [← show j = i by omega]; exact q.2) e, q.2⟩)]
theorem mg_0 (f : Nat → Int32) (a b : Int32) : mgF f a b 0 = f := by funext j; simp [mgF]
theorem mg_at (f : Nat → Int32) (a b : Int32) (i : Nat) : mgF f a b i i = f i := by simp [mgF]
def glI (h : HpT) (k : Nat) : Int32 := h 10 ((k % 3) * 6 + k / 3)
theorem SI_ly {n i : Nat} {h : HpT} {l : Int32} (hS : SI n h) (hi : i ≤ n) (hl : ∀ i, i < n → ∃ p, p < 3 ∧ phF l (nI i) = nI p) : SI n (cano n (va_up h 4 (lyF l (h 4) i))) := SI_ph hS (fun j hj => by
  unfold lyF
  by_cases e : j < i
  · rw [if_pos e]; exact hl j (by omega)
  · rw [if_neg e]; exact hS.2.2.2.1 j hj)
theorem ly_heap {n i : Nat} {h : HpT} {l : Int32} : cano n (hs (cano n (va_up h 4 (lyF l (h 4) i))) 4 i (phF l (nI i))) = cano n (va_up h 4 (lyF l (h 4) (i + 1))) := by
  show cano n (va_up (cano n (va_up h 4 (lyF l (h 4) i))) 4 (upd (lyF l (h 4) i) i (phF l (nI i)))) = _
  rw [cano_up (by decide), up_up, ly_step]
theorem ly_0 (l : Int32) (f : Nat → Int32) : lyF l f 0 = f := by funext j; simp [lyF]
