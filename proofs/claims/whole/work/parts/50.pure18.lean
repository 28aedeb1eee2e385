theorem grR_as {n : Nat} {h : HpT} : grR (asH h n) = grV (h 24) (h 25) (h 26) (h 28) n := by
  unfold asH
  rw [gT_eq]
  exact gT_V (cp_agr _ _ _) (rt_tk h n)
theorem sfR_as {n : Nat} {h : HpT} : sfR (asH h n) ↔ sfW (h 24) (h 25) (h 26) (h 23 6) n := by
  unfold asH
  rw [sT_eq]
  exact sT_V (cp_agr _ _ _) (rt_tk h n)
theorem rtR_fd (h : HpT) (n : Nat) (l f : Nat → Int32) : rtR (fdh (va_up h 32 (rtR h (n * 6))) l (cpF (h 34) (h 26) n) f) (n * 6) = rtR h (n * 6) := by
  funext j
  show (if j < n * 6 then tkV (h 24 (j / 6)) (h 25 (j / 6)) (j % 6) else rtR h (n * 6) j) = _
  unfold rtR
  split <;> rfl
theorem as_fd2 (h : HpT) (n : Nat) (l f : Nat → Int32) : ∃ l2, asH (fdh (va_up h 32 (rtR h (n * 6))) l (cpF (h 34) (h 26) n) f) n = fdh (va_up h 32 (rtR h (n * 6))) l2 (cpF (h 34) (h 26) n) f := by
  refine ⟨lnF (asT (fdh (va_up h 32 (rtR h (n * 6))) l (cpF (h 34) (h 26) n) f) n) n, ?_⟩
  generalize hl : lnF (asT (fdh (va_up h 32 (rtR h (n * 6))) l (cpF (h 34) (h 26) n) f) n) n = l2
  unfold asH
  rw [hl]
  unfold asT
  rw [rtR_fd]
  have e : cpF (fdh (va_up h 32 (rtR h (n * 6))) l (cpF (h 34) (h 26) n) f 34) (fdh (va_up h 32 (rtR h (n * 6))) l (cpF (h 34) (h 26) n) f 26) n = (cpF (h 34) (h 26) n) := by
    funext i
    show cpF (cpF (h 34) (h 26) n) (h 26) n i = _
    unfold cpF
    split <;> simp_all
  rw [e]
  generalize (cpF (h 34) (h 26) n) = g
  generalize rtR h (n * 6) = r
  unfold fdh
  funext q
  simp only [va_up]
  by_cases h1 : q = 32 <;> by_cases h2 : q = 33 <;> by_cases h3 : q = 34 <;> by_cases h4 : q = 37 <;> simp_all
def lsR (h : HpT) (n q : Nat) : Prop := ¬ fR h n q 0 < 0 ∧ fR h n q 0 < grV (h 24) (h 25) (h 26) (h 28) n
def FVr (n : Nat) (f : StF) : Prop := (f 1 = 0 ∧ ∃ i p, i < n ∧ p < 3 ∧ f 2 = nI i ∧ f 3 = nI p) ∨ (¬ f 1 = 0 ∧ ∃ i o, i < n ∧ o < n ∧ f 2 = nI i ∧ f 3 = nI o)
def nsR (g : Nat → Int32) (f : StF) : Nat → Int32 := if f 1 = 0 then upd g (f 2).toNatClampNeg (f 3) else swp g (f 2).toNatClampNeg (f 3).toNatClampNeg
theorem nsR_rg {n : Nat} {g : Nat → Int32} {f : StF} (hn : n ≤ 9) (hg : ∀ i, i < 9 → ∃ a, a < 3 ∧ g i = nI a) (hf : FVr n f) : ∀ i, i < 9 → ∃ a, a < 3 ∧ nsR g f i = nI a := by
  unfold nsR
  rcases hf with ⟨h0, i, p, hi, hp, e3, e4⟩ | ⟨h0, i, o, hi, ho, e3, e4⟩
  · rw [if_pos h0, e4]; exact upd_rg hp hg
  · rw [if_neg h0, e3, e4, nI_clamp (by omega), nI_clamp (by omega)]; exact swp_rg (by omega) (by omega) hg
/-- the reference's world in a walk downwards -/
def rdh (K : HpT) (g t nw l f : Nat → Int32) : HpT := va_up (va_up (va_up (va_up (va_up K 26 g) 32 t) 34 nw) 33 l) 37 f
theorem rd_fd (K : HpT) (g t nw l f t2 l2 nw2 f2 : Nat → Int32) : fdh (va_up (rdh K g t nw l f) 32 t2) l2 nw2 f2 = rdh K g t2 nw2 l2 f2 := by
  unfold fdh rdh
  funext q
  simp only [va_up]
  by_cases h0 : q = 26 <;> by_cases h1 : q = 32 <;> by_cases h2 : q = 33 <;> by_cases h3 : q = 34 <;> by_cases h4 : q = 37 <;> simp_all
theorem rd_26 (K : HpT) (g t nw l f g2 : Nat → Int32) : va_up (rdh K g t nw l f) 26 g2 = rdh K g2 t nw l f := by
  unfold rdh
  funext q
  simp only [va_up]
  by_cases h0 : q = 26 <;> by_cases h1 : q = 32 <;> by_cases h2 : q = 33 <;> by_cases h3 : q = 34 <;> by_cases h4 : q = 37 <;> simp_all
theorem rd_self (h : HpT) : rdh h (h 26) (h 32) (h 34) (h 33) (h 37) = h := by
  unfold rdh
  rw [up_id, up_id, up_id, up_id, up_id]
theorem rd_cell {K : HpT} {g t nw l f : Nat → Int32} {k : Nat} (h0 : k ≠ 26) (h1 : k ≠ 32) (h2 : k ≠ 34) (h3 : k ≠ 33) (h4 : k ≠ 37) : rdh K g t nw l f k = K k := by
  unfold rdh
  rw [va_up_ne _ _ h4, va_up_ne _ _ h3, va_up_ne _ _ h2, va_up_ne _ _ h1, va_up_ne _ _ h0]
