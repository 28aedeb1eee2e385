def q4 (h : HpT) (a b c d : Nat → Int32) : HpT := va_up (va_up (va_up (va_up h 24 a) 25 b) 26 c) 27 d
theorem q4_hs (h : HpT) (a b c d : Nat → Int32) (j : Nat) (x y z w : Int32) : hs (hs (hs (hs (q4 h a b c d) 24 j x) 25 j y) 26 j z) 27 j w = q4 h (upd a j x) (upd b j y) (upd c j z) (upd d j w) := by
  show va_up (va_up (va_up (va_up (q4 h a b c d) 24 (upd a j x)) 25 (upd b j y)) 26 (upd c j z)) 27 (upd d j w) = _
  unfold q4
  funext q
  simp only [va_up]
  by_cases h1 : q = 24 <;> by_cases h2 : q = 25 <;> by_cases h3 : q = 26 <;> by_cases h4 : q = 27 <;> simp_all
theorem cp_upd (f g : Nat → Int32) (j : Nat) : upd (cpF f g j) j (g j) = cpF f g (j + 1) := by
  funext i
  simp only [upd, cpF]
  by_cases h1 : i = j
  · rw [if_pos h1, if_pos (by omega), h1]
  · rw [if_neg h1]
    by_cases h2 : i < j
    · rw [if_pos h2, if_pos (by omega)]
    · rw [if_neg h2, if_neg (by omega)]
def d1 (s i : Nat) : Int32 := nI (dX s (i + 1) / 65536 % 6)
def d2 (s i : Nat) : Int32 := nI (dX s (i + 1) / 1024 % 20 + 1)
def d3 (s i : Nat) : Int32 := nI (dX s (i + 1) / 32768 % 3)
def drR (h : HpT) (s j : Nat) : HpT := q4 h (cpF (h 24) (d1 s) j) (cpF (h 25) (d2 s) j) (cpF (h 26) (d3 s) j) (cpF (h 27) (fun _ => 0) j)
theorem drR_step (h : HpT) (s j : Nat) : hs (hs (hs (hs (drR h s j) 24 j (nI (dX s (j + 1) / 65536 % 6))) 25 j (nI (dX s (j + 1) / 1024 % 20 + 1))) 26 j (nI (dX s (j + 1) / 32768 % 3))) 27 j 0 = drR h s (j + 1) := by
  unfold drR
  rw [q4_hs, show nI (dX s (j + 1) / 65536 % 6) = d1 s j from rfl, show nI (dX s (j + 1) / 1024 % 20 + 1) = d2 s j from rfl, show nI (dX s (j + 1) / 32768 % 3) = d3 s j from rfl, cp_upd, cp_upd, cp_upd]
  have := cp_upd (h 27) (fun _ => 0) j
  rw [this]
theorem drR_0 (h : HpT) (s : Nat) : drR h s 0 = h := by
  unfold drR q4
  rw [cp_0, cp_0, cp_0, cp_0]
  funext q
  simp only [va_up]
  by_cases h1 : q = 24 <;> by_cases h2 : q = 25 <;> by_cases h3 : q = 26 <;> by_cases h4 : q = 27 <;> simp_all
def pcF (f : Nat → Int32) (u : Nat) (g : Nat → Int32) (k : Nat) : Nat → Int32 := fun j => if 9 * u ≤ j ∧ j < 9 * u + k then g (j - 9 * u) else f j
theorem pc_step (h : HpT) (f g : Nat → Int32) (u k : Nat) : hs (va_up h 30 (pcF f u g k)) 30 (9 * u + k) (g k) = va_up h 30 (pcF f u g (k + 1)) := by
  rw [hs_up]
  congr 1
  funext j
  simp only [upd, pcF]
  by_cases h1 : j = 9 * u + k
  · subst h1; rw [if_pos rfl, if_pos (by omega), Nat.add_sub_cancel_left]
  · rw [if_neg h1]
    by_cases h2 : 9 * u ≤ j ∧ j < 9 * u + k
    · rw [if_pos h2, if_pos (by omega)]
    · rw [if_neg h2, if_neg (by omega)]
theorem pc_0 (f g : Nat → Int32) (u : Nat) : pcF f u g 0 = f := by funext j; unfold pcF; rw [if_neg (by omega)]
def shF (f : Nat → Int32) (k : Nat) : Nat → Int32 := fun j => if j < k then f (j + 9) else f j
theorem sh_step (h : HpT) (f : Nat → Int32) (k : Nat) : hs (va_up h 30 (shF f k)) 30 k (shF f k (k + 9)) = va_up h 30 (shF f (k + 1)) := by
  rw [hs_up]
  congr 1
  funext j
  simp only [upd, shF]
  by_cases h1 : j = k
  · rw [if_pos h1, if_neg (by omega), if_pos (by omega), h1]
  · rw [if_neg h1]
    by_cases h2 : j < k
    · rw [if_pos h2, if_pos (by omega)]
    · rw [if_neg h2, if_neg (by omega)]
theorem sh_0 (f : Nat → Int32) : shF f 0 = f := by funext j; simp [shF]
def keepR (h : HpT) (u : Nat) : HpT := if u < 8 then hs (va_up h 30 (pcF (h 30) u (h 26) 9)) 23 10 (nI (u + 1)) else hs (va_up (hs (va_up h 30 (shF (h 30) 63)) 23 10 7) 30 (pcF (shF (h 30) 63) 7 (h 26) 9)) 23 10 8
def st4 (f : StF) (g k a b : Int32) : StF := upd (upd (upd (upd f 0 g) 1 k) 2 a) 3 b
noncomputable def lkF (h1 : HpT) (k a b : Int32) : StF := if bP (sfR h1) = 1 ∧ (h1 37 0 < 0 ∨ grR h1 < h1 37 0) then st4 (h1 37) (grR h1) k a b else h1 37
theorem hs4 (h : HpT) (g k a b : Int32) : hs (hs (hs (hs h 37 0 g) 37 1 k) 37 2 a) 37 3 b = va_up h 37 (st4 (h 37) g k a b) := by
  show hs (hs (hs (va_up h 37 (upd (h 37) 0 g)) 37 1 k) 37 2 a) 37 3 b = _
  rw [hs_up, hs_up, hs_up]; rfl
