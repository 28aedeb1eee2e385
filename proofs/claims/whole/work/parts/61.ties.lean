theorem sh2 : ∀ k, k < 9 → (((2 * nI k) &&& 31).toBitVec.smod 32).toNat = 2 * k := by decide +kernel
theorem sh3 : ∀ k, k < 9 → (((2 * nI k).toUInt32 &&& Int32.toUInt32 31).toBitVec % 32).toNat = 2 * k := by decide +kernel
theorem pk_all {f : Nat → Int32} {n : Nat} (hn : n ≤ 9) (hf : ∀ i, i < n → ∃ p, p < 3 ∧ f i = nI p) : ∀ k, k ≤ n → ∃ m, m < 2 ^ (2 * k) ∧ packF f k = nI m ∧ ∀ i, i < k → f i = nI (m / 2 ^ (2 * i) % 4)
  | 0, _ => ⟨0, by decide, rfl, fun i hi => absurd hi (Nat.not_lt_zero _)⟩
  | k + 1, hk => by
    obtain ⟨m, hm, em, hi⟩ := pk_all hn hf k (by omega)
    obtain ⟨p, hp, ep⟩ := hf k (by omega)
    have h2 : 2 ^ (2 * (k + 1)) = 2 ^ (2 * k) * 4 := by rw [show 2 * (k + 1) = 2 * k + 2 by omega, Nat.pow_add]
    have hb : 2 ^ (2 * k) ≤ 2 ^ 16 := Nat.pow_le_pow_right (by decide) (by omega)
    have hpm := Nat.mul_le_mul_left (2 ^ (2 * k)) (show p ≤ 2 by omega)
    refine ⟨2 ^ (2 * k) * p + m, ?_, ?_, ?_⟩
    · rw [h2]; omega
    · unfold packF
      rw [em, ep, pk_shlN _ (2 * k) (sh2 k (by omega)) (by rw [Nat.mul_comm]; omega), fa_or, Nat.or_comm, Nat.mul_comm, ← Nat.two_pow_add_eq_or_of_lt hm]
    · intro i hik
      by_cases e : i = k
      · subst e
        rw [Nat.mul_add_div (Nat.two_pow_pos _), Nat.div_eq_of_lt hm, Nat.add_zero, Nat.mod_eq_of_lt (by omega)]; exact ep
      · rw [hi i (by omega)]
        congr 1
        have e2 : 2 ^ (2 * k) = 2 ^ (2 * i) * (4 * 2 ^ (2 * (k - i - 1))) := by
          rw [show (4 : Nat) = 2 ^ 2 from rfl, ← Nat.pow_add, ← Nat.pow_add]; congr 1; omega
        rw [e2, Nat.mul_assoc, Nat.mul_add_div (Nat.two_pow_pos _), Nat.mul_assoc, Nat.mul_add_mod]
theorem ph_pack {f : Nat → Int32} {n i : Nat} (hn : n ≤ 9) (hf : ∀ i, i < n → ∃ p, p < 3 ∧ f i = nI p) (hi : i < n) : phF (packF f n) (nI i) = f i := by
  obtain ⟨m, hm, em, hk⟩ := pk_all hn hf n (Nat.le_refl n)
  have hb : 2 ^ (2 * n) ≤ 2 ^ 18 := Nat.pow_le_pow_right (by decide) (by omega)
  have hd : m / 2 ^ (2 * i) ≤ m := Nat.div_le_self _ _
  rw [em, hk i hi]
  unfold phF
  rw [pk_ushrN (by omega) _ (2 * i) (sh3 i (by omega)), pk_andN (by omega) 2 (by decide)]
/-- the least tied ones, as the pairs have them -/
def LTI (n q : Nat) (tx ty lt : Nat → Nat) : Prop := (∀ i, i < n → lt i ≤ i ∧ lt (lt i) = lt i) ∧ (∀ k, k < q → tx k < n ∧ ty k < n ∧ tx k ≠ ty k) ∧ ∀ a : Nat → Int32, (∀ k, k < q → a (tx k) = a (ty k)) ↔ (∀ o, o < n → a o = a (lt o))
theorem lt_pair {n q : Nat} {tx ty lt : Nat → Nat} (hn : n ≤ 9) (hL : LTI n q tx ty lt) {k : Nat} (hk : k < q) : lt (tx k) = lt (ty k) := by
  have z := (hL.2.2 (fun x => nI (lt x))).mpr (fun o ho => by show nI (lt o) = nI (lt (lt o)); rw [(hL.1 o ho).2]) k hk
  obtain ⟨h1, h2, -⟩ := hL.2.1 k hk
  have b1 := (hL.1 _ h1).1
  have b2 := (hL.1 _ h2).1
  exact (nI_eqs (by omega) (by omega)).mp z
theorem LTI_new {n q : Nat} {tx ty lt : Nat → Nat} (hL : LTI n q tx ty lt) : LTI (n + 1) q tx ty (fun i => if i = n then n else lt i) := by
  refine ⟨fun i hi => ?_, fun k hk => ?_, fun a => ?_⟩
  · by_cases e : i = n
    · subst e; simp
    · have := hL.1 i (by omega)
      simp only [e, if_false]
      rw [if_neg (by omega)]
      exact this
  · obtain ⟨h1, h2, h3⟩ := hL.2.1 k hk
    exact ⟨by omega, by omega, h3⟩
  · rw [hL.2.2 a]
    constructor
    · intro z o ho
      by_cases e : o = n
      · subst e; simp
      · simp only [e, if_false]; exact z o (by omega)
    · intro z o ho
      have := z o (by omega)
      simp only [show o ≠ n by omega, if_false] at this
      exact this
theorem LTI_drop (n : Nat) (tx ty : Nat → Nat) : LTI n 0 tx ty (fun i => i) := ⟨fun i _ => ⟨Nat.le_refl i, rfl⟩, fun k hk => absurd hk (Nat.not_lt_zero _), fun a => ⟨fun _ _ _ => rfl, fun _ k hk => absurd hk (Nat.not_lt_zero _)⟩⟩
theorem LTI_pair {n q : Nat} {tx ty lt : Nat → Nat} (hL : LTI n q tx ty lt) {i o : Nat} (hi : i < n) (ho : o < n) (hio : i ≠ o) : LTI n (q + 1) (fun k => if k = q then i else tx k) (fun k => if k = q then o else ty k) (fun j => if lt j = max (lt i) (lt o) then min (lt i) (lt o) else lt j) := by
  have bi := hL.1 i hi
  have bo := hL.1 o ho
  refine ⟨fun j hj => ?_, fun k hk => ?_, fun a => ?_⟩
  · have bj := hL.1 j hj
    by_cases e : lt j = max (lt i) (lt o)
    · simp only [e, if_true]
      refine ⟨by omega, ?_⟩
      have e2 : lt (min (lt i) (lt o)) = min (lt i) (lt o) := by
        rcases Nat.le_total (lt i) (lt o) with z | z
        · rw [Nat.min_eq_left z]; exact bi.2
        · rw [Nat.min_eq_right z]; exact bo.2
      rw [e2]
      split <;> rfl
    · simp only [e, if_false]
      refine ⟨bj.1, ?_⟩
      rw [bj.2, if_neg e]
  · by_cases e : k = q
    · simp only [e, if_true]; exact ⟨hi, ho, hio⟩
    · simp only [e, if_false]; exact hL.2.1 k (by omega)
  · have hsp : (∀ k, k < q + 1 → a (if k = q then i else tx k) = a (if k = q then o else ty k)) ↔ ((∀ k, k < q → a (tx k) = a (ty k)) ∧ a i = a o) := by
      constructor
      · intro z
        refine ⟨fun k hk => ?_, ?_⟩
        · have := z k (by omega)
          rw [if_neg (by omega), if_neg (by omega)] at this
          exact this
        · have := z q (by omega)
          rw [if_pos rfl, if_pos rfl] at this
          exact this
      · intro z k hk
        by_cases e : k = q
        · rw [if_pos e, if_pos e]; exact z.2
        · rw [if_neg e, if_neg e]; exact z.1 k (by omega)
    rw [hsp, hL.2.2 a]
    have emx : lt (max (lt i) (lt o)) = max (lt i) (lt o) := by
      rcases Nat.le_total (lt i) (lt o) with z | z
      · rw [Nat.max_eq_right z]; exact bo.2
      · rw [Nat.max_eq_left z]; exact bi.2
    constructor
    · intro z j hj
      have zi := z.1 i hi
      have zo := z.1 o ho
      have zj := z.1 j hj
      show a j = a (if lt j = max (lt i) (lt o) then min (lt i) (lt o) else lt j)
      by_cases e : lt j = max (lt i) (lt o)
      · rw [if_pos e, zj, e]
        have : a (lt i) = a (lt o) := by rw [← zi, ← zo]; exact z.2
        rcases Nat.le_total (lt i) (lt o) with y | y
        · rw [Nat.max_eq_right y, Nat.min_eq_left y, this]
        · rw [Nat.max_eq_left y, Nat.min_eq_right y, this]
      · rw [if_neg e]; exact zj
    · intro z
      have z : ∀ j, j < n → a j = a (if lt j = max (lt i) (lt o) then min (lt i) (lt o) else lt j) := z
      have hmx : max (lt i) (lt o) < n := by omega
      have zm := z _ hmx
      rw [emx, if_pos rfl] at zm
      have base : ∀ j, j < n → a j = a (lt j) := by
        intro j hj
        have zj := z j hj
        by_cases e : lt j = max (lt i) (lt o)
        · rw [if_pos e] at zj; rw [zj, e, zm]
        · rw [if_neg e] at zj; exact zj
      refine ⟨base, ?_⟩
      rw [base i hi, base o ho]
      rcases Nat.le_total (lt i) (lt o) with y | y
      · rw [Nat.max_eq_right y, Nat.min_eq_left y] at zm; exact zm.symm
      · rw [Nat.max_eq_left y, Nat.min_eq_right y] at zm; exact zm
theorem tied_iff {n q : Nat} {tx ty lt : Nat → Nat} (hn : n ≤ 9) (hL : LTI n q tx ty lt) {i : Nat} (hi : i < n) : (∃ j, j < n ∧ j ≠ i ∧ lt j = lt i) ↔ ∃ k, k < q ∧ (tx k = i ∨ ty k = i) := by
  constructor
  · intro ⟨j, hj, hji, e⟩
    refine Classical.byContradiction (fun hno => ?_)
    have hk : ∀ k, k < q → tx k ≠ i ∧ ty k ≠ i := fun k hk => ⟨fun z => hno ⟨k, hk, Or.inl z⟩, fun z => hno ⟨k, hk, Or.inr z⟩⟩
    have z := (hL.2.2 (fun x => if x = i then 1 else 0)).mp (fun k h => by simp only [(hk k h).1, (hk k h).2, if_false])
    have zi := z i hi
    have zj := z j hj
    simp only [if_true, hji, if_false] at zi zj
    rw [e] at zj
    rw [← zj] at zi
    exact absurd zi (by decide)
  · intro ⟨k, hk, hd⟩
    obtain ⟨h1, h2, h3⟩ := hL.2.1 k hk
    have e := lt_pair hn hL hk
    rcases hd with z | z
    · exact ⟨ty k, h2, by omega, by rw [← e, z]⟩
    · exact ⟨tx k, h1, by omega, by rw [e, z]⟩
section CLO
variable {tx ty : Nat → Nat} {q : Nat}
def cls (tx ty : Nat → Nat) (q s : Nat) : Prop := ∀ k, k < q → s.testBit (tx k) = s.testBit (ty k)
theorem pm_bit (k j : Nat) : (pmN tx ty k).testBit j = (decide (tx k = j) || decide (ty k = j)) := by
  unfold pmN
  rw [Nat.testBit_or, Nat.testBit_two_pow, Nat.testBit_two_pow]
theorem and0 {s k : Nat} (h1 : s.testBit (tx k) = false) (h2 : s.testBit (ty k) = false) : s &&& pmN tx ty k = 0 := by
  apply Nat.eq_of_testBit_eq
  intro j
  rw [Nat.testBit_and, pm_bit, Nat.zero_testBit]
  by_cases e1 : tx k = j
  · subst e1; rw [h1]; rfl
  · by_cases e2 : ty k = j
    · subst e2; rw [h2]; rfl
    · simp [e1, e2]
theorem ps_mono {m j : Nat} (h : m.testBit j = true) : ∀ k, (psN tx ty m k).testBit j = true
  | 0 => h
  | k + 1 => by
    have := ps_mono h k
    unfold psN
    split
    · exact this
    · rw [Nat.testBit_or, this]; rfl
theorem ps_step {m k : Nat} (h : (psN tx ty m k).testBit (tx k) = true ∨ (psN tx ty m k).testBit (ty k) = true) : (psN tx ty m (k + 1)).testBit (tx k) = true ∧ (psN tx ty m (k + 1)).testBit (ty k) = true := by
  have hne : ¬ psN tx ty m k &&& pmN tx ty k = 0 := by
    intro z
    rcases h with h | h
    · have := congrArg (fun x => x.testBit (tx k)) z
      simp only [Nat.testBit_and, pm_bit, Nat.zero_testBit, h] at this
      simp at this
    · have := congrArg (fun x => x.testBit (ty k)) z
      simp only [Nat.testBit_and, pm_bit, Nat.zero_testBit, h] at this
      simp at this
  unfold psN
  rw [if_neg hne, Nat.testBit_or, Nat.testBit_or, pm_bit, pm_bit]
  simp
theorem ps_more {m j : Nat} : ∀ {a b : Nat}, a ≤ b → (psN tx ty m a).testBit j = true → (psN tx ty m b).testBit j = true
  | a, 0, hab, h => by rw [show a = 0 by omega] at h; exact h
  | a, b + 1, hab, h => by
    by_cases e : a = b + 1
    · subst e; exact h
    · have := ps_more (show a ≤ b by omega) h
      unfold psN
      split
      · exact this
      · rw [Nat.testBit_or, this]; rfl
theorem ps_sub {P : Nat → Prop} {m : Nat} (hP : ∀ k, k < q → (P (tx k) ↔ P (ty k))) (hm : ∀ j, m.testBit j = true → P j) : ∀ k, k ≤ q → ∀ j, (psN tx ty m k).testBit j = true → P j
  | 0, _, j, h => hm j h
  | k + 1, hk, j, h => by
    have ih := ps_sub hP hm k (by omega)
    unfold psN at h
    by_cases z : psN tx ty m k &&& pmN tx ty k = 0
    · rw [if_pos z] at h; exact ih j h
    · rw [if_neg z, Nat.testBit_or, pm_bit] at h
      have hor : (psN tx ty m k).testBit (tx k) = true ∨ (psN tx ty m k).testBit (ty k) = true := by
        refine Classical.byContradiction (fun y => z (and0 ?_ ?_))
        · exact Bool.eq_false_iff.mpr (fun w => y (Or.inl w))
        · exact Bool.eq_false_iff.mpr (fun w => y (Or.inr w))
      have hxy : P (tx k) ∧ P (ty k) := by
        rcases hor with w | w
        · exact ⟨ih _ w, (hP k (by omega)).mp (ih _ w)⟩
        · exact ⟨(hP k (by omega)).mpr (ih _ w), ih _ w⟩
      by_cases y : (psN tx ty m k).testBit j = true
      · exact ih j y
      · rw [Bool.eq_false_iff.mpr y, Bool.false_or, Bool.or_eq_true, decide_eq_true_iff, decide_eq_true_iff] at h
        rcases h with w | w
        · rw [← w]; exact hxy.1
        · rw [← w]; exact hxy.2
theorem cl_sub {P : Nat → Prop} {m : Nat} (hP : ∀ k, k < q → (P (tx k) ↔ P (ty k))) (hm : ∀ j, m.testBit j = true → P j) : ∀ t j, (clN tx ty q m t).testBit j = true → P j
  | 0, j, h => hm j h
  | t + 1, j, h => ps_sub hP (cl_sub hP hm t) q (Nat.le_refl q) j h
theorem cl_mono {m j : Nat} (h : m.testBit j = true) : ∀ t, (clN tx ty q m t).testBit j = true
  | 0 => h
  | t + 1 => ps_mono (cl_mono h t) q
theorem ps_cls {s : Nat} (hc : cls tx ty q s) : ∀ k, k ≤ q → psN tx ty s k = s
  | 0, _ => rfl
  | k + 1, hk => by
    have ih := ps_cls hc k (by omega)
    unfold psN
    rw [ih]
    by_cases z : s &&& pmN tx ty k = 0
    · rw [if_pos z]
    · rw [if_neg z]
      have hk2 := hc k (by omega)
      have hb : s.testBit (tx k) = true := by
        refine Classical.byContradiction (fun y => z (and0 (Bool.eq_false_iff.mpr y) ?_))
        rw [← hk2]; exact Bool.eq_false_iff.mpr y
      apply Nat.eq_of_testBit_eq
      intro j
      rw [Nat.testBit_or, pm_bit]
      by_cases e1 : tx k = j
      · subst e1; rw [hb]; rfl
      · by_cases e2 : ty k = j
        · subst e2; rw [← hk2, hb]; rfl
        · simp [e1, e2]
def cnB (tx ty : Nat → Nat) (s : Nat) : Nat → Nat
  | 0 => 0
  | k + 1 => cnB tx ty s k + (if (s.testBit (tx k) && s.testBit (ty k)) = true then 1 else 0)
theorem cnB_mono {s s2 : Nat} (h : ∀ j, s.testBit j = true → s2.testBit j = true) : ∀ k, cnB tx ty s k ≤ cnB tx ty s2 k
  | 0 => Nat.le_refl _
  | k + 1 => by
    have ih := cnB_mono h k
    unfold cnB
    by_cases e : (s.testBit (tx k) && s.testBit (ty k)) = true
    · rw [if_pos e]
      rw [Bool.and_eq_true] at e
      rw [if_pos (by rw [h _ e.1, h _ e.2]; rfl)]
      omega
    · rw [if_neg e]; omega
theorem cnB_lt {s s2 x : Nat} (h : ∀ j, s.testBit j = true → s2.testBit j = true) (h1 : ¬ (s.testBit (tx x) && s.testBit (ty x)) = true) (h2 : (s2.testBit (tx x) && s2.testBit (ty x)) = true) : ∀ k, x < k → cnB tx ty s k < cnB tx ty s2 k
  | 0, hx => absurd hx (Nat.not_lt_zero _)
  | k + 1, hx => by
    unfold cnB
    by_cases e : x = k
    · subst e
      have := cnB_mono (tx := tx) (ty := ty) h x
      rw [if_neg h1, if_pos h2]
      omega
    · have ih := cnB_lt h h1 h2 k (by omega)
      have : (if (s.testBit (tx k) && s.testBit (ty k)) = true then 1 else 0) ≤ (if (s2.testBit (tx k) && s2.testBit (ty k)) = true then 1 else 0) := by
        by_cases e : (s.testBit (tx k) && s.testBit (ty k)) = true
        · rw [if_pos e]
          rw [Bool.and_eq_true] at e
          rw [if_pos (by rw [h _ e.1, h _ e.2]; rfl)]
          exact Nat.le_refl _
        · rw [if_neg e]; omega
      omega
theorem cnB_le {s : Nat} : ∀ k, cnB tx ty s k ≤ k
  | 0 => Nat.le_refl _
  | k + 1 => by unfold cnB; have := cnB_le (s := s) k; split <;> omega
theorem cnB_ne {s x : Nat} (h1 : ¬ (s.testBit (tx x) && s.testBit (ty x)) = true) : ∀ k, x < k → cnB tx ty s k < k
  | 0, hx => absurd hx (Nat.not_lt_zero _)
  | k + 1, hx => by
    unfold cnB
    by_cases e : x = k
    · subst e
      have := cnB_le (tx := tx) (ty := ty) (s := s) x
      rw [if_neg h1]
      omega
    · have ih := cnB_ne h1 k (by omega)
      split <;> omega
theorem not_cls {s : Nat} (h : ¬ cls tx ty q s) : ∃ k, k < q ∧ ¬ (s.testBit (tx k) && s.testBit (ty k)) = true ∧ (s.testBit (tx k) = true ∨ s.testBit (ty k) = true) := by
  refine Classical.byContradiction (fun z => h (fun k hk => ?_))
  refine Classical.byContradiction (fun y => z ⟨k, hk, ?_⟩)
  cases e1 : s.testBit (tx k) <;> cases e2 : s.testBit (ty k) <;> simp_all
theorem cl_prog (m : Nat) : ∀ t, cls tx ty q (clN tx ty q m t) ∨ t ≤ cnB tx ty (clN tx ty q m t) q
  | 0 => Or.inr (Nat.zero_le _)
  | t + 1 => by
    by_cases hc : cls tx ty q (clN tx ty q m t)
    · refine Or.inl ?_
      show cls tx ty q (psN tx ty (clN tx ty q m t) q)
      rw [ps_cls hc q (Nat.le_refl q)]
      exact hc
    · rcases cl_prog m t with ih | ih
      · exact absurd ih hc
      · obtain ⟨k, hk, hn, ho⟩ := not_cls hc
        refine Or.inr ?_
        have hs := ps_step (m := clN tx ty q m t) (k := k) (ho.elim (fun w => Or.inl (ps_mono w k)) (fun w => Or.inr (ps_mono w k)))
        have := cnB_lt (tx := tx) (ty := ty) (s := clN tx ty q m t) (s2 := psN tx ty (clN tx ty q m t) q) (x := k) (fun j h => ps_mono h q) hn (by
          rw [ps_more (show k + 1 ≤ q by omega) hs.1, ps_more (show k + 1 ≤ q by omega) hs.2]; rfl) q hk
        show t + 1 ≤ cnB tx ty (psN tx ty (clN tx ty q m t) q) q
        omega
theorem cl_done (m : Nat) (hq : q ≤ 6) : cls tx ty q (clN tx ty q m 6) := by
  rcases cl_prog (tx := tx) (ty := ty) (q := q) m 6 with h | h
  · exact h
  · refine Classical.byContradiction (fun z => ?_)
    obtain ⟨k, hk, hn, -⟩ := not_cls z
    have := cnB_ne hn q hk
    omega
end CLO
theorem lt_bit {n q i : Nat} {tx ty lt : Nat → Nat} (hn : n ≤ 9) (hq : q ≤ 6) (hL : LTI n q tx ty lt) (hi : i < n) : (clN tx ty q (2 ^ i) 6).testBit (lt i) = true ∧ ∀ j, j < lt i → (clN tx ty q (2 ^ i) 6).testBit j = false := by
  have hc := cl_done (tx := tx) (ty := ty) (q := q) (2 ^ i) hq
  have hbi : (clN tx ty q (2 ^ i) 6).testBit i = true := cl_mono Nat.testBit_two_pow_self 6
  have hsub : ∀ j, (clN tx ty q (2 ^ i) 6).testBit j = true → j < n ∧ lt j = lt i := cl_sub (P := fun j => j < n ∧ lt j = lt i) (fun k hk => by
    obtain ⟨h1, h2, -⟩ := hL.2.1 k hk
    have e := lt_pair hn hL hk
    constructor
    · intro z; exact ⟨h2, by rw [← e]; exact z.2⟩
    · intro z; exact ⟨h1, by rw [e]; exact z.2⟩) (fun j hj => by
    rw [Nat.testBit_two_pow, decide_eq_true_iff] at hj
    subst hj
    exact ⟨hi, rfl⟩) 6
  constructor
  · have z := (hL.2.2 (fun x => if (clN tx ty q (2 ^ i) 6).testBit x = true then 1 else 0)).mp (fun k hk => by
      show (if (clN tx ty q (2 ^ i) 6).testBit (tx k) = true then (1 : Int32) else 0) = _
      rw [hc k hk]) i hi
    simp only [hbi, if_true] at z
    refine Classical.byContradiction (fun y => ?_)
    rw [if_neg y] at z
    exact absurd z (by decide)
  · intro j hj
    refine Bool.eq_false_iff.mpr (fun y => ?_)
    obtain ⟨h1, h2⟩ := hsub j y
    have := (hL.1 j h1).1
    omega
