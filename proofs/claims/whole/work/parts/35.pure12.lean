theorem keep_cell {h : HpT} {u : Nat} {l : Int32} {k : Nat} (h1 : k ≠ 21) (h2 : k ≠ 22) : keepC h u l k = h k := by
  unfold keepC hs
  split <;> simp only [va_up, h1, h2, if_false]
/-- ahead of a call told D -/
def phC (h : HpT) (u n : Nat) : HpT := hs (keepC h u (packF (h 4) n)) 11 13 0
theorem phC_cell {h : HpT} {u n k : Nat} (h1 : k ≠ 21) (h2 : k ≠ 22) (h3 : k ≠ 11) : phC h u n k = h k := by
  unfold phC hs
  rw [va_up_ne _ _ h3, keep_cell h1 h2]
theorem c_X4_phasesChange' {G : GxT} (hF : Full G) {h : HpT} {n u : Nat} (hn : n ≤ 9) (eh : h 1 9 = nI n) (hu : u ≤ 8) (e : h 21 0 = nI u) : mcv G yX4_phasesChange cX4_phasesChange 1 none 2 [.ref (gad G 0)] h (phC h u n) := c_X4_phasesChange hF hn eh hu e
theorem SI_cells {n : Nat} {h h2 : HpT} (hS : SI n h) (e1 : h2 1 9 = h 1 9) (e2 : h2 2 = h 2) (e3 : h2 3 = h 3) (e4 : h2 4 = h 4) (e10 : h2 10 = h 10) : SI n h2 := by
  unfold SI LI
  rw [e1, e2, e3, e4, e10]
  exact hS
theorem SI_phC {n u : Nat} {h : HpT} (hS : SI n h) : SI n (phC h u n) := SI_cells hS (by rw [phC_cell (by decide) (by decide) (by decide)]) (phC_cell (by decide) (by decide) (by decide)) (phC_cell (by decide) (by decide) (by decide)) (phC_cell (by decide) (by decide) (by decide)) (phC_cell (by decide) (by decide) (by decide))
theorem stt_up {n : Nat} {h : HpT} {f : Nat → Int32} (hS : SI n h) : stt n h f (h 4) = va_up h 20 f := by
  have := stt_20 (n := n) (h := h) (f := h 20) (f2 := f) (g := h 4)
  rw [stt_self hS] at this
  exact this.symm
noncomputable def fS (h : HpT) (n : Nat) : StF := fdF (cmpC (h 2) (h 3) (h 9) (h 1 11) n) (frC h n) (h 4) n (upd (h 20) 0 0)
theorem c_X1_find' {G : GxT} (hF : Full G) {h : HpT} {n : Nat} (hS : SI n h) : mcv G yX1_find cX1_find 2 none 5 [.ref (gad G 20)] h (va_up h 20 (fS h n)) := by
  have := c_X1_find hF hS
  rw [stt_up hS] at this
  exact this
theorem SI_20 {n : Nat} {h : HpT} {f : Nat → Int32} (hS : SI n h) : SI n (va_up h 20 f) := SI_cells hS rfl rfl rfl rfl rfl
def dhH (h : HpT) (n : Nat) : HpT := va_up (hs (va_up (hs (scH h) 1 10 0) 6 (idF (h 6) n)) 1 9 0) 10 (fillF (h 10) 18 0)
theorem SI_dh {h : HpT} {n : Nat} (hS : SI n h) : SI 0 (dhH h n) := by
  refine ⟨by omega, rfl, hS.2.2.1, hS.2.2.2.1, ?_⟩
  intro j hj
  show fillF (h 10) 18 0 j = 0
  unfold fillF
  rw [if_pos hj]
theorem FaR_cell {h h' : HpT} {n : Nat} {lt : Nat → Nat} (hf : FaR h n lt h') {k : Nat} (hk : k < 11 ∨ 19 < k) : h' k = h k := by
  rcases hf with ⟨-, rfl⟩ | ⟨-, a', m', rfl⟩
  · rfl
  · unfold lyh
    rw [va_up_ne _ _ (by omega), va_up_ne _ _ (by omega), va_up_ne _ _ (by omega), va_up_ne _ _ (by omega), va_up_ne _ _ (by omega), va_up_ne _ _ (by omega), fa8_cell (by omega) (by omega) (by omega) (by omega) (by omega)]
theorem SI_Fa {h h' : HpT} {n : Nat} {lt : Nat → Nat} (hf : FaR h n lt h') (hS : SI n h) : SI n h' := SI_cells hS (by rw [FaR_cell hf (by decide)]) (FaR_cell hf (by decide)) (FaR_cell hf (by decide)) (FaR_cell hf (by decide)) (FaR_cell hf (by decide))
theorem ov_m1 {o : Option Nat} (h : ov o = -1) (hb : ∀ q, o = some q → q < 100) : o = none := by
  cases o with
  | none => rfl
  | some q => exact absurd h (nI_m1 (hb q rfl))
