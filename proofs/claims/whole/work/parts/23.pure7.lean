def tgh (h : HpT) (b : Nat → Bool) (t : Nat) : HpT := va_up (va_up h 11 (upd (h 11) 10 (nI (tcN b t)))) 19 (thF b (h 19) t)
theorem tg_skip {h : HpT} {b : Nat → Bool} {t : Nat} (e : b t = false) : tgh h b t = tgh h b (t + 1) := by
  unfold tgh; rw [tcN, thF, e]; simp
theorem tg_step {h : HpT} {b : Nat → Bool} {t : Nat} (e : b t = true) : hs (hs (tgh h b t) 19 (tcN b t) (nI t)) 11 10 (nI (tcN b t + 1)) = tgh h b (t + 1) := by
  unfold tgh
  rw [hs_up, tcN, thF, e]
  simp only [if_true]
  show va_up (va_up (va_up h 11 (upd (h 11) 10 (nI (tcN b t)))) 19 (upd (thF b (h 19) t) (tcN b t) (nI t))) 11 (upd (upd (h 11) 10 (nI (tcN b t))) 10 (nI (tcN b t + 1))) = _
  rw [up_comm _ _ _ (by decide), up_up, upd_upd]
theorem thF_in (b : Nat → Bool) (f : Nat → Int32) : ∀ (t j : Nat), j < tcN b t → ∃ q, q < t ∧ b q = true ∧ thF b f t j = nI q ∧ tcN b q = j
  | 0, j, hj => absurd hj (Nat.not_lt_zero _)
  | t + 1, j, hj => by
    unfold tcN at hj
    unfold thF
    by_cases e : b t = true
    · rw [if_pos e] at hj
      rw [if_pos e]
      by_cases e2 : j = tcN b t
      · subst e2; exact ⟨t, by omega, e, pk_us, rfl⟩
      · obtain ⟨q, h1, h2, h3, h4⟩ := thF_in b f t j (by omega)
        exact ⟨q, by omega, h2, by rw [pk_un e2]; exact h3, h4⟩
    · rw [if_neg e] at hj
      rw [if_neg e]
      obtain ⟨q, h1, h2, h3, h4⟩ := thF_in b f t j (by omega)
      exact ⟨q, by omega, h2, h3, h4⟩
theorem thF_at (b : Nat → Bool) (f : Nat → Int32) : ∀ (t q : Nat), q < t → b q = true → thF b f t (tcN b q) = nI q ∧ tcN b q < tcN b t
  | 0, q, hq, _ => absurd hq (Nat.not_lt_zero _)
  | t + 1, q, hq, hb => by
    unfold thF
    by_cases e2 : q = t
    · subst e2
      rw [if_pos hb, pk_us, tcN, if_pos hb]
      exact ⟨rfl, by omega⟩
    · obtain ⟨h1, h2⟩ := thF_at b f t q (by omega) hb
      by_cases e : b t = true
      · rw [if_pos e, pk_un (by omega), tcN, if_pos e]
        exact ⟨h1, by omega⟩
      · rw [if_neg e, tcN, if_neg e]
        exact ⟨h1, by omega⟩
theorem tcN_mono (b : Nat → Bool) {q t : Nat} (h : q ≤ t) : tcN b q ≤ tcN b t := by
  induction t with
  | zero => rw [show q = 0 by omega]; exact Nat.le_refl _
  | succ t ih =>
    by_cases e : q = t + 1
    · rw [e]; exact Nat.le_refl _
    · have := ih (by omega)
      rw [tcN]
      omega
