section RZ
variable {X : XxT} {cc : ByteArray} {own : String} {dd pc np : Nat} {lo : List (Nat × Value)} {st : List Value} {h : HpT}
theorem rn_Zeq (F : FxT X cc own dd) {off : Int} {tg a : Nat} {x : Int32} (dg : decode cc pc = .ok (.ifCond .eq off, 3)) (ht : (pc : Int) + off = (tg : Int)) (hn : pc + 3 = np) (hx : x = nI a) (ha : a < 2147483648) (kt : a = 0 → rn X tg lo st h) (kf : ¬ a = 0 → rn X np lo st h) : rn X pc lo (.int x :: st) h := by
  subst hx
  exact rn_if_eq F dg ht hn (fun q => kt (Classical.byContradiction (fun z => nI_ne0 (by omega) ha q))) (fun q => kf (fun z => q (by rw [z]; rfl)))
theorem rn_Zne (F : FxT X cc own dd) {off : Int} {tg a : Nat} {x : Int32} (dg : decode cc pc = .ok (.ifCond .ne off, 3)) (ht : (pc : Int) + off = (tg : Int)) (hn : pc + 3 = np) (hx : x = nI a) (ha : a < 2147483648) (kt : ¬ a = 0 → rn X tg lo st h) (kf : a = 0 → rn X np lo st h) : rn X pc lo (.int x :: st) h := by
  subst hx
  exact rn_if_ne F dg ht hn (fun q => kt (fun z => q (by rw [z]; rfl))) (fun q => kf (Classical.byContradiction (fun z => nI_ne0 (by omega) ha q)))
end RZ
theorem fa_and (a b : Nat) : nI a &&& nI b = nI (a &&& b) := by
  apply Int32.toBitVec_inj.1
  show BitVec.ofNat 32 a &&& BitVec.ofNat 32 b = BitVec.ofNat 32 (a &&& b)
  apply BitVec.eq_of_getLsbD_eq
  intro i hi
  simp [hi]
theorem fa_or (a b : Nat) : nI a ||| nI b = nI (a ||| b) := by
  apply Int32.toBitVec_inj.1
  show BitVec.ofNat 32 a ||| BitVec.ofNat 32 b = BitVec.ofNat 32 (a ||| b)
  apply BitVec.eq_of_getLsbD_eq
  intro i hi
  simp [hi]
theorem s_l : ∀ n, n < 32 → ((nI n &&& 31).toBitVec.smod 32).toNat = n := by decide +kernel
/-- what holds of the reference's cells -/
def RI (n : Nat) (h : HpT) : Prop := n ≤ 9 ∧ h 23 4 = nI n ∧ (∀ i, i < 9 → ∃ a, a < 6 ∧ h 24 i = nI a) ∧ (∀ i, i < 9 → ∃ a, a < 3 ∧ h 26 i = nI a)
def TI2 (np : Nat) (tx ty : Nat → Nat) (h : HpT) : Prop := np ≤ 6 ∧ h 23 8 = nI np ∧ ∀ k, k < np → tx k < 9 ∧ ty k < 9 ∧ h 29 (2 * k) = nI (tx k) ∧ h 29 (2 * k + 1) = nI (ty k)
theorem ix6r (p t : Nat) : 6 * nI p + nI t = nI (p * 6 + t) := by rw [show (6 : Int32) = nI 6 from rfl, pk_mul, nI_add, Nat.mul_comm]
theorem ix3r (p t : Nat) : 3 * nI t + nI p = nI (3 * t + p) := by rw [show (3 : Int32) = nI 3 from rfl, pk_mul, nI_add]
theorem ix2 (k : Nat) : 2 * nI k = nI (2 * k) := by rw [show (2 : Int32) = nI 2 from rfl, pk_mul]
theorem ix21 (k : Nat) : 2 * nI k + 1 = nI (2 * k + 1) := by rw [ix2, nI_1]
theorem ix9r (p t : Nat) : 9 * nI p + nI t = nI (9 * p + t) := by rw [show (9 : Int32) = nI 9 from rfl, pk_mul, nI_add]
theorem t6 {t : Nat} (ht : t < 6) : t = 0 ∨ t = 1 ∨ t = 2 ∨ t = 3 ∨ t = 4 ∨ t = 5 := by omega
theorem tk0 {t : Nat} (ht : t < 6) (z : Int32) : tkV 0 z t = z := by
  rcases t6 ht with rfl | rfl | rfl | rfl | rfl | rfl <;> (show z * 1 = z; grind)
theorem tk1 {t : Nat} (ht : t < 6) (z : Int32) : tkV 1 z t = if t = 2 ∨ t = 3 then 2 * z else z := by
  rcases t6 ht with rfl | rfl | rfl | rfl | rfl | rfl <;> first | (show z * 1 = z; grind) | (show z * 2 = 2 * z; grind)
theorem tk2 {t : Nat} (ht : t < 6) (z : Int32) : tkV 2 z t = if t = 2 ∨ t = 3 then 0 else z := by
  rcases t6 ht with rfl | rfl | rfl | rfl | rfl | rfl <;> first | (show z * 1 = z; grind) | (show z * 0 = 0; grind)
theorem tk3 {t : Nat} (ht : t < 6) (z : Int32) : tkV 3 z t = if t = 0 ∨ t = 5 then 0 else if t = 2 ∨ t = 3 then 2 * z else z := by
  rcases t6 ht with rfl | rfl | rfl | rfl | rfl | rfl <;> first | (show z * 1 = z; grind) | (show z * 0 = 0; grind) | (show z * 2 = 2 * z; grind)
theorem tk4 {t : Nat} (ht : t < 6) (z : Int32) : tkV 4 z t = if t = 1 ∨ t = 4 then 3 * z else 0 := by
  rcases t6 ht with rfl | rfl | rfl | rfl | rfl | rfl <;> first | (show z * 3 = 3 * z; grind) | (show z * 0 = 0; grind)
theorem tk5 {t : Nat} (ht : t < 6) (z : Int32) : tkV 5 z t = if t = 0 ∨ t = 1 then 0 else -z := by
  rcases t6 ht with rfl | rfl | rfl | rfl | rfl | rfl <;> first | (show z * (-1) = -z; grind) | (show z * 0 = 0; grind)
def rtR (h : HpT) (k : Nat) : Nat → Int32 := fun j => if j < k then tkV (h 24 (j / 6)) (h 25 (j / 6)) (j % 6) else h 32 j
theorem rtR_step (h : HpT) (i t : Nat) (ht : t < 6) : hs (va_up h 32 (rtR h (i * 6 + t))) 32 (i * 6 + t) (tkV (h 24 i) (h 25 i) t) = va_up h 32 (rtR h (i * 6 + (t + 1))) := by
  rw [hs_up]
  congr 1
  funext j
  simp only [upd, rtR]
  by_cases h1 : j = i * 6 + t
  · subst h1
    rw [if_pos rfl, if_pos (by omega), show (i * 6 + t) / 6 = i by omega, show (i * 6 + t) % 6 = t by omega]
  · rw [if_neg h1]
    by_cases h2 : j < i * 6 + t
    · rw [if_pos h2, if_pos (by omega)]
    · rw [if_neg h2, if_neg (by omega)]
theorem rtR_0 (h : HpT) : rtR h 0 = h 32 := by funext j; simp [rtR]
def ldT (tk now : Nat → Int32) (p t : Nat) : Nat → Int32
  | 0 => 0
  | k + 1 => ldT tk now p t k + (if now k = nI p then tk (k * 6 + t) else 0)
def lnS (h : HpT) (i t : Nat) : Nat → Int32 := fun j => if j < 18 then (if j / 3 < t then ldT (h 32) (h 34) (j % 3) (j / 3) (i + 1) else ldT (h 32) (h 34) (j % 3) (j / 3) i) else h 33 j
def lnF (h : HpT) (n : Nat) : Nat → Int32 := fun j => if j < 18 then ldT (h 32) (h 34) (j % 3) (j / 3) n else h 33 j
theorem lnS_0 (h : HpT) : lnS h 0 0 = fillF (h 33) 18 0 := by
  funext j; simp only [lnS, fillF, ldT]; split <;> simp
theorem lnS_next (h : HpT) (i : Nat) : lnS h i 6 = lnS h (i + 1) 0 := by
  funext j
  simp only [lnS]
  by_cases hj : j < 18
  · rw [if_pos hj, if_pos hj, if_pos (by omega), if_neg (by omega)]
  · rw [if_neg hj, if_neg hj]
theorem lnS_end (h : HpT) (n : Nat) : lnS h n 0 = lnF h n := by
  funext j; simp only [lnS, lnF, Nat.not_lt_zero, if_false]
theorem lnS_step (h : HpT) (i t p : Nat) (ht : t < 6) (hp : p < 3) (e : h 34 i = nI p) : hs (va_up h 33 (lnS h i t)) 33 (3 * t + p) (lnS h i t (3 * t + p) + h 32 (i * 6 + t)) = va_up h 33 (lnS h i (t + 1)) := by
  rw [hs_up]
  congr 1
  funext j
  simp only [upd, lnS]
  by_cases h1 : j = 3 * t + p
  · subst h1
    rw [if_pos rfl, if_pos (by omega), if_neg (by omega), if_pos (by omega), if_pos (by omega), show (3 * t + p) % 3 = p by omega, show (3 * t + p) / 3 = t by omega, ldT, if_pos e]
  · rw [if_neg h1]
    by_cases hj : j < 18
    · rw [if_pos hj, if_pos hj]
      by_cases h2 : j / 3 < t
      · rw [if_pos h2, if_pos (by omega)]
      · rw [if_neg h2]
        by_cases h3 : j / 3 = t
        · rw [if_pos (by omega), ldT, e, if_neg (fun z => h1 (by
            have := (nI_eqs (by omega) (by omega)).mp z
            omega))]
          grind
        · rw [if_neg (by omega)]
    · rw [if_neg hj, if_neg hj]
def cpF (f g : Nat → Int32) (n : Nat) : Nat → Int32 := fun i => if i < n then g i else f i
theorem cp_step (h : HpT) (k : Nat) (f g : Nat → Int32) (i : Nat) : hs (va_up h k (cpF f g i)) k i (g i) = va_up h k (cpF f g (i + 1)) := by
  rw [hs_up]
  congr 1
  funext j
  simp only [upd, cpF]
  by_cases h1 : j = i
  · rw [if_pos h1, if_pos (by omega), h1]
  · rw [if_neg h1]
    by_cases h2 : j < i
    · rw [if_pos h2, if_pos (by omega)]
    · rw [if_neg h2, if_neg (by omega)]
theorem cp_0 (f g : Nat → Int32) : cpF f g 0 = f := by funext j; simp [cpF]
def asT (h : HpT) (n : Nat) : HpT := va_up (va_up h 32 (rtR h (n * 6))) 34 (cpF (h 34) (h 26) n)
def asH (h : HpT) (n : Nat) : HpT := va_up (asT h n) 33 (lnF (asT h n) n)
def ntR (h : HpT) (t : Nat) : Int32 := ntF (h 33 (3 * t)) (h 33 (3 * t + 1)) (h 33 (3 * t + 2))
def grR (h : HpT) : Int32 := gsum (h 28) (ntR h) 6
def sfR (h : HpT) : Prop := ∀ j, j < 18 → -(h 23 6) ≤ h 33 j ∧ h 33 j ≤ h 23 6
theorem bP_and (c d : Prop) : (if bP c = 0 then (0 : Int32) else bP d) = bP (c ∧ d) := by
  by_cases hc : c
  · rw [bP_t hc, if_neg (by decide)]
    by_cases hd : d
    · rw [bP_t hd, bP_t ⟨hc, hd⟩]
    · rw [bP_f hd, bP_f (fun q => hd q.2)]
  · rw [bP_f hc, if_pos rfl, bP_f (fun q => hc q.1)]
def kpR (h : HpT) (np : Nat) (tx ty : Nat → Nat) : Prop := ∀ k, k < np → h 34 (tx k) = h 34 (ty k)
def tdR (h : HpT) (np : Nat) (i : Nat) : Prop := ∃ k, k < 2 * np ∧ h 29 k = nI i
def plN (f : Nat → Int32) : Nat → Nat
  | 0 => 0
  | k + 1 => if absI (f (plN f k)) < absI (f (k + 1)) then k + 1 else plN f k
theorem plN_le (f : Nat → Int32) : ∀ k, plN f k ≤ k
  | 0 => Nat.le_refl _
  | k + 1 => by unfold plN; have := plN_le f k; split <;> omega
theorem bP_iff {c d : Prop} (h : c ↔ d) : bP c = bP d := by rw [propext h]
theorem ab_neg (x : Int32) : (if 0 ≤ x then x else -x) = absI x := by unfold absI; split <;> grind
