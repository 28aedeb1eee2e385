theorem keepR_cell {h : HpT} {u k : Nat} (h1 : k ≠ 30) (h2 : k ≠ 23) : keepR h u k = h k := by
  unfold keepR hs
  split <;> simp only [va_up, h1, h2, if_false]
theorem keepR_23 {h : HpT} {u j : Nat} (hj : j ≠ 10) : keepR h u 23 j = h 23 j := by
  unfold keepR
  split
  · rw [hs_at, if_neg (by omega)]; rfl
  · rw [hs_at, if_neg (by omega)]
    show hs (va_up h 30 (shF (h 30) 63)) 23 10 7 23 j = _
    rw [hs_at, if_neg (by omega)]; rfl
theorem RI_cells {n : Nat} {h h2 : HpT} (hS : RI n h) (e1 : h2 23 4 = h 23 4) (e2 : h2 24 = h 24) (e3 : h2 25 = h 25) (e4 : h2 26 = h 26) : RI n h2 := by
  unfold RI
  rw [e1, e2, e4]
  exact hS
theorem RI_keepR {n u : Nat} {h : HpT} (hS : RI n h) : RI n (keepR h u) := RI_cells hS (keepR_23 (by decide)) (keepR_cell (by decide) (by decide)) (keepR_cell (by decide) (by decide)) (keepR_cell (by decide) (by decide))
theorem RI_ph {n : Nat} {h : HpT} {g : Nat → Int32} (hS : RI n h) (hg : ∀ i, i < 9 → ∃ a, a < 3 ∧ g i = nI a) : RI n (va_up h 26 g) := ⟨hS.1, hS.2.1, hS.2.2.1, hg⟩
theorem hs_swp (h : HpT) (k i o : Nat) : hs (hs h k i (h k o)) k o (h k i) = va_up h k (swp (h k) i o) := by
  show hs (va_up h k (upd (h k) i (h k o))) k o (h k i) = _
  rw [hs_up]; rfl
def dgT (v : Nat → Int32) : Nat → Int64 → Int64 := dgS v
/-- the step's cell by the reference's own test -/
noncomputable def frR (h : HpT) (q : Nat) : Nat → Int32 := fun i => bP (h 27 i = 0 ∧ ¬ tdR h q i)
def gT (tk now w : Nat → Int32) (n : Nat) : Int32 := gsum w (fun t => ntF (ldT tk now 0 t n) (ldT tk now 1 t n) (ldT tk now 2 t n)) 6
def sT (tk now : Nat → Int32) (fu : Int32) (n : Nat) : Prop := ∀ j, j < 18 → -fu ≤ ldT tk now (j % 3) (j / 3) n ∧ ldT tk now (j % 3) (j / 3) n ≤ fu
theorem gT_eq (h : HpT) (n : Nat) : grR (va_up h 33 (lnF h n)) = gT (h 32) (h 34) (h 28) n := by
  unfold grR gT
  refine gsum_cong (fun t ht => ?_)
  show ntF (lnF h n (3 * t)) (lnF h n (3 * t + 1)) (lnF h n (3 * t + 2)) = _
  unfold lnF
  rw [if_pos (by omega), if_pos (by omega), if_pos (by omega), show 3 * t % 3 = 0 by omega, show 3 * t / 3 = t by omega, show (3 * t + 1) % 3 = 1 by omega, show (3 * t + 1) / 3 = t by omega, show (3 * t + 2) % 3 = 2 by omega, show (3 * t + 2) / 3 = t by omega]
theorem sT_eq (h : HpT) (n : Nat) : sfR (va_up h 33 (lnF h n)) ↔ sT (h 32) (h 34) (h 23 6) n := by
  unfold sfR sT
  constructor
  · intro q j hj
    have := q j hj
    rw [show va_up h 33 (lnF h n) 33 j = lnF h n j from rfl] at this
    unfold lnF at this
    rw [if_pos hj] at this
    exact this
  · intro q j hj
    rw [show va_up h 33 (lnF h n) 33 j = lnF h n j from rfl]
    unfold lnF
    rw [if_pos hj]
    exact q j hj
noncomputable def cmR (tk w : Nat → Int32) (fu : Int32) (n : Nat) : CmF := fun f ph k a b => if bP (sT tk ph fu n) = 1 ∧ (f 0 < 0 ∨ gT tk ph w n < f 0) then st4 f (gT tk ph w n) k a b else f
/-- the world in a search for a step: loads' row l, now's row g, found's row f -/
def fdh (h : HpT) (l g f : Nat → Int32) : HpT := va_up (va_up (va_up h 33 l) 34 g) 37 f
theorem fd_34 {h : HpT} {l g f g2 : Nat → Int32} : va_up (fdh h l g f) 34 g2 = fdh h l g2 f := by
  unfold fdh; rw [up_comm _ _ _ (by decide), up_up]
theorem fd_33 {h : HpT} {l g f l2 : Nat → Int32} : va_up (fdh h l g f) 33 l2 = fdh h l2 g f := by
  unfold fdh; rw [up_comm _ _ _ (by decide), up_comm (va_up h 33 l) _ _ (by decide), up_up]
theorem fd_37 {h : HpT} {l g f f2 : Nat → Int32} : va_up (fdh h l g f) 37 f2 = fdh h l g f2 := by
  unfold fdh; rw [up_up]
theorem fd_hs34 {h : HpT} {l g f : Nat → Int32} {i : Nat} {x : Int32} : hs (fdh h l g f) 34 i x = fdh h l (upd g i x) f := by
  show va_up (fdh h l g f) 34 (upd g i x) = _
  rw [fd_34]
theorem lk_fd {h : HpT} {l g f : Nat → Int32} {n : Nat} {k a b : Int32} : va_up (va_up (fdh h l g f) 33 (lnF (fdh h l g f) n)) 37 (lkF (va_up (fdh h l g f) 33 (lnF (fdh h l g f) n)) k a b) = fdh h (lnF (fdh h l g f) n) g (cmR (h 32) (h 28) (h 23 6) n f g k a b) := by
  have e : lkF (va_up (fdh h l g f) 33 (lnF (fdh h l g f) n)) k a b = cmR (h 32) (h 28) (h 23 6) n f g k a b := by
    unfold lkF cmR
    rw [gT_eq, bP_iff (sT_eq _ _)]
    rfl
  rw [e, fd_33, fd_37]
