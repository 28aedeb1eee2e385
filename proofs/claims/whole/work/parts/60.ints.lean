/-- an int's value lies between -B and B -/
def bz (B : Int) (x : Int32) : Prop := -B ≤ x.toInt ∧ x.toInt ≤ B
theorem z_add {A B : Int} {x y : Int32} (hx : bz A x) (hy : bz B y) (h : A + B < 2147483648) : (x + y).toInt = x.toInt + y.toInt := by
  have e : x + y = Int32.ofInt (x.toInt + y.toInt) := by rw [Int32.ofInt_add, Int32.ofInt_toInt, Int32.ofInt_toInt]
  obtain ⟨h1, h2⟩ := hx
  obtain ⟨h3, h4⟩ := hy
  rw [e, Int32.toInt_ofInt_of_le (by omega) (by omega)]
theorem z_sub {A B : Int} {x y : Int32} (hx : bz A x) (hy : bz B y) (h : A + B < 2147483648) : (x - y).toInt = x.toInt - y.toInt := by
  have e : x - y = Int32.ofInt (x.toInt - y.toInt) := by rw [Int32.ofInt_sub, Int32.ofInt_toInt, Int32.ofInt_toInt]
  obtain ⟨h1, h2⟩ := hx
  obtain ⟨h3, h4⟩ := hy
  rw [e, Int32.toInt_ofInt_of_le (by omega) (by omega)]
theorem mul_bd {A B x y : Int} (h1 : -A ≤ x) (h2 : x ≤ A) (h3 : -B ≤ y) (h4 : y ≤ B) : -(A * B) ≤ x * y ∧ x * y ≤ A * B := by
  have a1 := Int.mul_nonneg (show 0 ≤ A - x by omega) (show 0 ≤ B + y by omega)
  have a2 := Int.mul_nonneg (show 0 ≤ A + x by omega) (show 0 ≤ B - y by omega)
  have a3 := Int.mul_nonneg (show 0 ≤ A - x by omega) (show 0 ≤ B - y by omega)
  have a4 := Int.mul_nonneg (show 0 ≤ A + x by omega) (show 0 ≤ B + y by omega)
  rw [Int.sub_mul, Int.mul_add, Int.mul_add] at a1
  rw [Int.add_mul, Int.mul_sub, Int.mul_sub] at a2
  rw [Int.sub_mul, Int.mul_sub, Int.mul_sub] at a3
  rw [Int.add_mul, Int.mul_add, Int.mul_add] at a4
  omega
theorem z_mul {A B : Int} {x y : Int32} (hx : bz A x) (hy : bz B y) (h : A * B < 2147483648) : (x * y).toInt = x.toInt * y.toInt ∧ bz (A * B) (x * y) := by
  have e : x * y = Int32.ofInt (x.toInt * y.toInt) := by rw [Int32.ofInt_mul, Int32.ofInt_toInt, Int32.ofInt_toInt]
  have b := mul_bd hx.1 hx.2 hy.1 hy.2
  have e2 : (x * y).toInt = x.toInt * y.toInt := by rw [e, Int32.toInt_ofInt_of_le (by omega) (by omega)]
  exact ⟨e2, by unfold bz; rw [e2]; exact b⟩
theorem bz_mono {A B : Int} {x : Int32} (h : bz A x) (hAB : A ≤ B) : bz B x := ⟨by have := h.1; omega, by have := h.2; omega⟩
theorem tk_bd : ∀ a, a < 6 → ∀ z, z < 21 → ∀ t, t < 6 → -60 ≤ (tkV (nI a) (nI z) t).toInt ∧ (tkV (nI a) (nI z) t).toInt ≤ 60 := by decide +kernel
/-- what houses take is small -/
def TB (tk : Nat → Int32) (n : Nat) : Prop := n ≤ 9 ∧ ∀ j, j < n * 6 → bz 60 (tk j)
theorem sq_nn (x : Int) : 0 ≤ x * x := by
  rcases Int.le_total 0 x with h | h
  · exact Int.mul_nonneg h h
  · have := Int.mul_nonneg (show 0 ≤ -x by omega) (show 0 ≤ -x by omega)
    rw [Int.neg_mul_neg] at this
    exact this
theorem ld_bd {tk a : Nat → Int32} {p t n : Nat} (hT : TB tk n) (ht : t < 6) : ∀ k, k ≤ n → bz (60 * k) (ldT tk a p t k)
  | 0, _ => by unfold bz ldT; exact ⟨by decide, by decide⟩
  | k + 1, hk => by
    have ih := ld_bd (a := a) (p := p) hT ht k (by omega)
    have hn := hT.1
    have ho := hT.2 (k * 6 + t) (by omega)
    have hx : bz 60 (if a k = nI p then tk (k * 6 + t) else 0) := by
      split
      · exact ho
      · exact ⟨by decide, by decide⟩
    unfold ldT
    have e := z_add ih hx (by omega)
    unfold bz at *
    rw [e]
    omega
theorem ld_540 {tk a : Nat → Int32} {p t n : Nat} (hT : TB tk n) (ht : t < 6) : bz 540 (ldT tk a p t n) := bz_mono (ld_bd hT ht n (Nat.le_refl n)) (by have := hT.1; omega)
theorem mx_z (x y : Int32) : (mxI x y).toInt = max x.toInt y.toInt := by
  unfold mxI
  by_cases h : x < y
  · rw [if_pos h]; rw [Int32.lt_iff_toInt_lt] at h; omega
  · rw [if_neg h]; rw [Int32.lt_iff_toInt_lt] at h; omega
theorem neg_z {x : Int32} {B : Int} (hx : bz B x) (h : B < 2147483648) : (-x).toInt = -x.toInt := by
  have e : -x = Int32.ofInt (-x.toInt) := by rw [Int32.ofInt_neg, Int32.ofInt_toInt]
  obtain ⟨h1, h2⟩ := hx
  rw [e, Int32.toInt_ofInt_of_le (by omega) (by omega)]
theorem ld_tak {tk a : Nat → Int32} {p t n : Nat} (hT : TB tk n) (ht : t < 6) : ∀ k, k ≤ n → bz (60 * k) (takS tk t k) ∧ bz (60 * k) (givS tk t k) ∧ -(givS tk t k).toInt ≤ (ldT tk a p t k).toInt ∧ (ldT tk a p t k).toInt ≤ (takS tk t k).toInt
  | 0, _ => by unfold bz ldT takS givS; exact ⟨⟨by decide, by decide⟩, ⟨by decide, by decide⟩, by decide, by decide⟩
  | k + 1, hk => by
    obtain ⟨i1, i2, i3, i4⟩ := ld_tak (a := a) (p := p) hT ht k (by omega)
    have i5 := ld_bd (a := a) (p := p) hT ht k (by omega)
    have hn := hT.1
    have ho := hT.2 (k * 6 + t) (by omega)
    have m1 : (mxI (tk (k * 6 + t)) 0).toInt = max (tk (k * 6 + t)).toInt 0 := mx_z _ _
    have m2 : (mxI (-tk (k * 6 + t)) 0).toInt = max (-(tk (k * 6 + t)).toInt) 0 := by rw [mx_z, neg_z ho (by omega)]; rfl
    have b1 : bz 60 (mxI (tk (k * 6 + t)) 0) := by unfold bz at *; omega
    have b2 : bz 60 (mxI (-tk (k * 6 + t)) 0) := by unfold bz at *; omega
    have hx : bz 60 (if a k = nI p then tk (k * 6 + t) else 0) := by
      split
      · exact ho
      · exact ⟨by decide, by decide⟩
    have hx2 : -(max (-(tk (k * 6 + t)).toInt) 0) ≤ (if a k = nI p then tk (k * 6 + t) else 0).toInt ∧ (if a k = nI p then tk (k * 6 + t) else 0).toInt ≤ max (tk (k * 6 + t)).toInt 0 := by
      split
      · omega
      · rw [show (0 : Int32).toInt = 0 from rfl]; omega
    unfold takS givS ldT
    have e1 := z_add i1 b1 (by omega)
    have e2 := z_add i2 b2 (by omega)
    have e3 := z_add i5 hx (by omega)
    unfold bz at *
    rw [e1, e2, e3]
    omega
/-- an hour that is not tight blows no fuse -/
theorem loose {tk a : Nat → Int32} {fu : Int32} {p t n : Nat} (hT : TB tk n) (ht : t < 6) (hf : bz 400 fu) (hb : tgB tk fu n t = false) : -fu ≤ ldT tk a p t n ∧ ldT tk a p t n ≤ fu := by
  obtain ⟨i1, i2, i3, i4⟩ := ld_tak (a := a) (p := p) hT ht n (Nat.le_refl n)
  unfold tgB at hb
  have hb2 : ¬ fu < mxI (takS tk t n) (givS tk t n) := of_decide_eq_false hb
  rw [Int32.lt_iff_toInt_lt, mx_z] at hb2
  have e := neg_z hf (by omega)
  rw [Int32.le_iff_toInt_le, Int32.le_iff_toInt_le, e]
  omega
theorem abs_iff {x fu : Int32} {B : Int} (hx : bz B x) (hB : B < 2147483648) (hf : bz 400 fu) : absI x ≤ fu ↔ -fu ≤ x ∧ x ≤ fu := by
  have e := neg_z hf (by omega)
  have e0 : (0 : Int32).toInt = 0 := rfl
  unfold absI
  by_cases h : 0 ≤ x
  · rw [if_pos h, Int32.le_iff_toInt_le, Int32.le_iff_toInt_le, e]
    rw [Int32.le_iff_toInt_le, e0] at h
    omega
  · rw [if_neg h]
    have e2 := z_sub (x := 0) (y := x) (A := 0) ⟨by decide, by decide⟩ hx (by omega)
    rw [Int32.le_iff_toInt_le, e0] at h
    rw [Int32.le_iff_toInt_le, Int32.le_iff_toInt_le, Int32.le_iff_toInt_le, e, e2, e0]
    omega
theorem nt_z {a b c : Int32} (ha : bz 540 a) (hb : bz 540 b) (hc : bz 540 c) : 0 ≤ (ntF a b c).toInt ∧ (ntF a b c).toInt ≤ 1749600 := by
  have e : ntF a b c = Int32.ofInt (a.toInt * a.toInt + b.toInt * b.toInt + c.toInt * c.toInt - a.toInt * b.toInt - b.toInt * c.toInt - c.toInt * a.toInt) := by
    rw [Int32.ofInt_sub, Int32.ofInt_sub, Int32.ofInt_sub, Int32.ofInt_add, Int32.ofInt_add, Int32.ofInt_mul, Int32.ofInt_mul, Int32.ofInt_mul, Int32.ofInt_mul, Int32.ofInt_mul, Int32.ofInt_mul, Int32.ofInt_toInt, Int32.ofInt_toInt, Int32.ofInt_toInt]
    rfl
  have m1 := mul_bd ha.1 ha.2 ha.1 ha.2
  have m2 := mul_bd hb.1 hb.2 hb.1 hb.2
  have m3 := mul_bd hc.1 hc.2 hc.1 hc.2
  have m4 := mul_bd ha.1 ha.2 hb.1 hb.2
  have m5 := mul_bd hb.1 hb.2 hc.1 hc.2
  have m6 := mul_bd hc.1 hc.2 ha.1 ha.2
  have s1 := sq_nn (a.toInt - b.toInt)
  have s2 := sq_nn (b.toInt - c.toInt)
  have s3 := sq_nn (c.toInt - a.toInt)
  rw [Int.sub_mul, Int.mul_sub, Int.mul_sub] at s1 s2 s3
  rw [Int.mul_comm b.toInt a.toInt] at s1
  rw [Int.mul_comm c.toInt b.toInt] at s2
  rw [Int.mul_comm a.toInt c.toInt] at s3
  generalize a.toInt * a.toInt = x1 at *
  generalize b.toInt * b.toInt = x2 at *
  generalize c.toInt * c.toInt = x3 at *
  generalize a.toInt * b.toInt = x4 at *
  generalize b.toInt * c.toInt = x5 at *
  generalize c.toInt * a.toInt = x6 at *
  rw [e, Int32.toInt_ofInt_of_le (by omega) (by omega)]
  omega
theorem gs_nn {w f : Nat → Int32} (hw : ∀ t, t < 6 → 0 ≤ (w t).toInt ∧ (w t).toInt ≤ 9) (hf : ∀ t, t < 6 → 0 ≤ (f t).toInt ∧ (f t).toInt ≤ 1749600) : ∀ k, k ≤ 6 → 0 ≤ (gsum w f k).toInt ∧ (gsum w f k).toInt ≤ 15746400 * k
  | 0, _ => by unfold gsum; exact ⟨by decide, by decide⟩
  | k + 1, hk => by
    have ih := gs_nn hw hf k (by omega)
    have h1 := hw k (by omega)
    have h2 := hf k (by omega)
    have hm := z_mul (A := 9) (B := 1749600) (x := w k) (y := f k) ⟨by omega, by omega⟩ ⟨by omega, by omega⟩ (by decide)
    have hp := Int.mul_nonneg h1.1 h2.1
    rw [← hm.1] at hp
    have hb := hm.2
    unfold bz at hb
    have e := z_add (A := 15746400 * 6) (B := 15746400) (x := gsum w f k) (y := w k * f k) ⟨by omega, by omega⟩ ⟨by omega, by omega⟩ (by decide)
    unfold gsum
    rw [e]
    omega
def WB (w : Nat → Int32) : Prop := ∀ t, t < 6 → 0 ≤ (w t).toInt ∧ (w t).toInt ≤ 9
theorem gT_nn {tk a w : Nat → Int32} {n : Nat} (hT : TB tk n) (hw : WB w) : ¬ gT tk a w n < 0 := by
  have := gs_nn (w := w) (f := fun t => ntF (ldT tk a 0 t n) (ldT tk a 1 t n) (ldT tk a 2 t n)) hw (fun t ht => nt_z (ld_540 hT ht) (ld_540 hT ht) (ld_540 hT ht)) 6 (Nat.le_refl 6)
  rw [Int32.lt_iff_toInt_lt]
  show ¬ (gsum w (fun t => ntF (ldT tk a 0 t n) (ldT tk a 1 t n) (ldT tk a 2 t n)) 6).toInt < 0
  omega
