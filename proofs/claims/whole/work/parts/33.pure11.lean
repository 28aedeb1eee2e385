theorem rn_topL {X : XxT} {pc : Nat} {lo : List (Nat × Value)} {st : List Value} {h : HpT} {x v : Int64} (e : x = v) (k : rn X pc lo (.long v :: st) h) : rn X pc lo (.long x :: st) h := e ▸ k
/-- the street changes: none to undo, what was found is forgotten -/
def scH (h : HpT) : HpT := hs (hs h 21 0 0) 11 13 0
theorem SI_sc {n : Nat} {h : HpT} (hS : SI n h) : SI n (scH h) := ⟨hS.1, hS.2.1, hS.2.2.1, hS.2.2.2.1, hS.2.2.2.2⟩
def inH (n : Nat) (v : Int32) : Prop := 0 ≤ v ∧ v ≤ nI n - 1
theorem hsI {n i : Nat} (hi : i < n) (hn : n ≤ 9) : 0 ≤ nI i ∧ nI i ≤ nI n - 1 := by
  obtain ⟨k, rfl⟩ : ∃ k, n = k + 1 := ⟨n - 1, by omega⟩
  rw [nI_pred]
  exact ⟨nI_pos' (by omega), nI_le (by omega) (by omega)⟩
theorem hsN {n : Nat} {v : Int32} (hn : n ≤ 9) (h : 0 ≤ v ∧ v ≤ nI n - 1) : ∃ i, i < n ∧ v = nI i := by
  cases n with
  | zero => exact absurd (Int32.le_trans h.1 h.2) (by decide)
  | succ k =>
    rw [nI_pred] at h
    obtain ⟨j, hj, e⟩ := nI_of2 (M := nI k) (n := k) (nI_toInt (by omega)) (Int32.not_lt.mpr h.1) h.2
    exact ⟨j, by omega, e⟩
theorem rgN {v M : Int32} {m : Nat} (hM : M = nI m) (hm : m < 2147483648) (h : 0 ≤ v ∧ v ≤ M) : ∃ i, i ≤ m ∧ v = nI i := nI_of2 (by rw [hM]; exact nI_toInt hm) (Int32.not_lt.mpr h.1) h.2
theorem rgI {i m : Nat} (hi : i ≤ m) (hm : m < 2147483648) : 0 ≤ nI i ∧ nI i ≤ nI m := ⟨nI_pos' (by omega), nI_le hi hm⟩
theorem SI_new {n a p : Nat} {h : HpT} {z : Int32} (hS : SI n h) (hn : n < 9) (ha : a < 6) (hp : p < 3) : SI (n + 1) (cano (n + 1) (newC h n (nI a) z (nI p))) := by
  refine ⟨by omega, by unfold newC; simp [cano, va_up, hs_at], ?_, ?_, cano_LI _ _⟩
  · intro i hi
    show ∃ b, b < 6 ∧ upd (h 2) n (nI a) i = nI b
    by_cases e : i = n
    · subst e; exact ⟨a, ha, pk_us⟩
    · rw [pk_un e]; exact hS.2.2.1 i hi
  · intro i hi
    show ∃ b, b < 3 ∧ upd (h 4) n (nI p) i = nI b
    by_cases e : i = n
    · subst e; exact ⟨p, hp, pk_us⟩
    · rw [pk_un e]; exact hS.2.2.2.1 i hi
def dX (s : Nat) : Nat → Nat
  | 0 => s
  | k + 1 => (dX s k * 1103515245 + 12345) % 2147483648
theorem dX_lt {s : Nat} (hs0 : s < 2147483648) : ∀ k, dX s k < 2147483648
  | 0 => hs0
  | k + 1 => Nat.mod_lt _ (by decide)
def dwH (h : HpT) (s : Nat) : Nat → HpT
  | 0 => h
  | k + 1 => cano (k + 1) (newC (dwH h s k) k (nI (dX s (k + 1) / 65536 % 6)) (nI (dX s (k + 1) / 1024 % 20 + 1)) (nI (dX s (k + 1) / 32768 % 3)))
theorem dw_SI {h : HpT} {s : Nat} (hS : SI 0 h) : ∀ k, k ≤ 9 → SI k (dwH h s k)
  | 0, _ => hS
  | k + 1, hk => SI_new (dw_SI hS k (by omega)) (by omega) (Nat.mod_lt _ (by decide)) (Nat.mod_lt _ (by decide))
theorem drw {x : Nat} (hx : x < 2147483648) : (lN x * 1103515245 + 12345) - (lN x * 1103515245 + 12345) / 2147483648 * 2147483648 = lN ((x * 1103515245 + 12345) % 2147483648) := by
  rw [show (1103515245 : Int64) = lN 1103515245 from rfl, show (12345 : Int64) = lN 12345 from rfl, show (2147483648 : Int64) = lN 2147483648 from rfl, lN_mul, lN_add, pk_lRem (by omega) (by decide) (by decide)]
theorem drd {x d m : Nat} (hx : x < 2147483648) (hd : 0 < d ∧ d < 100000) (hm : 0 < m ∧ m < 100) : (lN x / lN d - lN x / lN d / lN m * lN m).toInt32 = nI (x / d % m) := by
  have h1 : x / d < 2147483648 := Nat.lt_of_le_of_lt (Nat.div_le_self _ _) hx
  rw [pk_lDiv (by omega) hd.1 (by omega), pk_lRem (by omega) hm.1 (by omega), lN_i]
def toF (h : HpT) (n : Nat) (x : Nat) : Int32 := match x with
  | 0 => h 0 4
  | 1 => h 0 5
  | 2 => h 0 6
  | 3 => h 1 9
  | 4 => h 1 10
  | 5 => h 1 11
  | 6 => h 21 0
  | _ => fbF (h 5) n
def dgS (v : Nat → Int32) : Nat → Int64 → Int64
  | 0, x => x
  | k + 1, x => 31 * dgS v k x + (v k).toInt64
def dg3 (u v w : Nat → Int32) : Nat → Int64 → Int64
  | 0, x => x
  | k + 1, x => 31 * (31 * (31 * dg3 u v w k x + (u k).toInt64) + (v k).toInt64) + (w k).toInt64
def dg2 (u v : Nat → Int32) : Nat → Int64 → Int64
  | 0, x => x
  | k + 1, x => 31 * (31 * dg2 u v k x + (u k).toInt64) + (v k).toInt64
