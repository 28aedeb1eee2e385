def sfV (so sz ph : Nat → Int32) (fu : Int32) (n : Nat) : Prop := ∀ j, j < 18 → absI (ldV so sz ph (j / 6) (j % 6) n) ≤ fu
def grV (so sz ph w : Nat → Int32) (n : Nat) : Int32 := gsum w (fun t => ntF (ldV so sz ph 0 t n) (ldV so sz ph 1 t n) (ldV so sz ph 2 t n)) 6
theorem gsum_cong {w n n' : Nat → Int32} : ∀ {k : Nat}, (∀ t, t < k → n t = n' t) → gsum w n k = gsum w n' k
  | 0, _ => rfl
  | k + 1, hh => by unfold gsum; rw [gsum_cong (fun t ht => hh t (by omega)), hh k (by omega)]
theorem grC_V {n : Nat} {h : HpT} (hl : LI n h) : grC h = grV (h 2) (h 3) (h 4) (h 9) n := by
  unfold grC grV
  refine gsum_cong (fun t ht => ?_)
  unfold ntC
  rw [hl t (by omega), hl (6 + t) (by omega), hl (12 + t) (by omega)]
  rw [show t / 6 = 0 by omega, show t % 6 = t by omega, show (6 + t) / 6 = 1 by omega, show (6 + t) % 6 = t by omega, show (12 + t) / 6 = 2 by omega, show (12 + t) % 6 = t by omega]
theorem sfC_V {n : Nat} {h : HpT} (hl : LI n h) : (∀ j, j < 18 → absI (h 10 j) ≤ h 1 11) ↔ sfV (h 2) (h 3) (h 4) (h 1 11) n := by
  unfold sfV
  constructor
  · intro q j hj; rw [← hl j hj]; exact q j hj
  · intro q j hj; rw [hl j hj]; exact q j hj
abbrev StF : Type := Nat → Int32
abbrev CmF : Type := StF → (Nat → Int32) → Int32 → Int32 → Int32 → StF
def st5 (f : StF) (g k a b : Int32) : StF := upd (upd (upd (upd (upd f 0 1) 1 g) 2 k) 3 a) 4 b
noncomputable def cmpC (so sz w : Nat → Int32) (fu : Int32) (n : Nat) : CmF := fun f ph k a b => if bP (sfV so sz ph fu n) = 1 ∧ (f 0 = 0 ∨ grV so sz ph w n < f 1) then st5 f (grV so sz ph w n) k a b else f
def swp (g : Nat → Int32) (i o : Nat) : Nat → Int32 := upd (upd g i (g o)) o (g i)
def tcF (cmp : CmF) (ph : Nat → Int32) (i : Nat) (f : StF) : Nat → StF
  | 0 => f
  | p + 1 => if nI p = ph i then tcF cmp ph i f p else cmp (tcF cmp ph i f p) (upd ph i (nI p)) 0 (nI i) (nI p)
def tsF (cmp : CmF) (fr ph : Nat → Int32) (i : Nat) (f : StF) : Nat → StF
  | 0 => f
  | m + 1 => if fr (i + 1 + m) = 0 ∨ ph (i + 1 + m) = ph i then tsF cmp fr ph i f m else cmp (tsF cmp fr ph i f m) (swp ph i (i + 1 + m)) 1 (nI i) (nI (i + 1 + m))
def fcF (cmp : CmF) (fr ph : Nat → Int32) (f : StF) : Nat → StF
  | 0 => f
  | i + 1 => if fr i = 0 then fcF cmp fr ph f i else tcF cmp ph i (fcF cmp fr ph f i) 3
def fsF (cmp : CmF) (fr ph : Nat → Int32) (n : Nat) (f : StF) : Nat → StF
  | 0 => f
  | i + 1 => if fr i = 0 then fsF cmp fr ph n f i else tsF cmp fr ph i (fsF cmp fr ph n f i) (n - (i + 1))
def fdF (cmp : CmF) (fr ph : Nat → Int32) (n : Nat) (f : StF) : StF := fsF cmp fr ph n (fcF cmp fr ph f n) n
/-- the world with the steps' cell f and the phases g, loads as they must be -/
def stt (n : Nat) (h : HpT) (f g : Nat → Int32) : HpT := cano n (va_up (va_up h 20 f) 4 g)
theorem stt_self {n : Nat} {h : HpT} (hS : SI n h) : stt n h (h 20) (h 4) = h := by unfold stt; rw [up_id, up_id, SI_self hS]
theorem stt_sp {n i : Nat} {h : HpT} {f g : Nat → Int32} {x : Int32} : cano n (hs (stt n h f g) 4 i x) = stt n h f (upd g i x) := by
  show cano n (va_up (cano n (va_up (va_up h 20 f) 4 g)) 4 (upd g i x)) = _
  rw [cano_up (by decide), up_up]; rfl
theorem stt_ph {n : Nat} {h : HpT} {f g g2 : Nat → Int32} : cano n (va_up (stt n h f g) 4 g2) = stt n h f g2 := by
  show cano n (va_up (cano n (va_up (va_up h 20 f) 4 g)) 4 g2) = _
  rw [cano_up (by decide), up_up]; rfl
theorem up_comm {α : Type} (f : Nat → α) {j k : Nat} (v w : α) (hjk : j ≠ k) : va_up (va_up f j v) k w = va_up (va_up f k w) j v := by
  funext q; simp only [va_up]; by_cases h1 : q = j <;> by_cases h2 : q = k <;> simp_all
theorem stt_20 {n : Nat} {h : HpT} {f f2 g : Nat → Int32} : va_up (stt n h f g) 20 f2 = stt n h f2 g := by
  unfold stt cano
  rw [up_comm _ _ _ (by decide), up_comm (va_up h 20 f) _ _ (by decide), up_up]
  rfl
theorem SI_stt {n : Nat} {h : HpT} {f g : Nat → Int32} (hS : SI n h) (hg : ∀ i, i < 9 → ∃ a, a < 3 ∧ g i = nI a) : SI n (stt n h f g) := ⟨hS.1, hS.2.1, hS.2.2.1, hg, cano_LI _ _⟩
theorem upd_rg {g : Nat → Int32} {i p : Nat} (hp : p < 3) (hg : ∀ i, i < 9 → ∃ a, a < 3 ∧ g i = nI a) : ∀ j, j < 9 → ∃ a, a < 3 ∧ upd g i (nI p) j = nI a := by
  intro j hj
  by_cases e : j = i
  · subst e; exact ⟨p, hp, pk_us⟩
  · rw [pk_un e]; exact hg j hj
theorem swp_rg {g : Nat → Int32} {i o : Nat} (hi : i < 9) (ho : o < 9) (hg : ∀ i, i < 9 → ∃ a, a < 3 ∧ g i = nI a) : ∀ j, j < 9 → ∃ a, a < 3 ∧ swp g i o j = nI a := by
  intro j hj
  unfold swp
  by_cases e : j = o
  · subst e; rw [pk_us]; exact hg i hi
  · rw [pk_un e]
    by_cases e : j = i
    · subst e; rw [pk_us]; exact hg o ho
    · rw [pk_un e]; exact hg j hj
theorem upd_upd (g : Nat → Int32) (i : Nat) (x y : Int32) : upd (upd g i x) i y = upd g i y := by funext j; simp only [upd]; split <;> rfl
theorem upd_id (g : Nat → Int32) (i : Nat) : upd g i (g i) = g := by funext j; simp only [upd]; split <;> simp_all
theorem swp_swp (g : Nat → Int32) {i o : Nat} (h : i ≠ o) : swp (swp g i o) i o = g := by
  funext j
  simp only [swp, upd]
  by_cases h1 : j = o <;> by_cases h2 : j = i <;> simp_all
theorem stt_stt {n : Nat} {h : HpT} {f g f2 g2 : Nat → Int32} : stt n (stt n h f g) f2 g2 = stt n h f2 g2 := by
  show cano n (va_up (va_up (stt n h f g) 20 f2) 4 g2) = _
  rw [stt_20, stt_ph]
theorem hs5 (h : HpT) (g k a b : Int32) : hs (hs (hs (hs (hs h 20 0 1) 20 1 g) 20 2 k) 20 3 a) 20 4 b = va_up h 20 (st5 (h 20) g k a b) := by
  show hs (hs (hs (hs (va_up h 20 (upd (h 20) 0 1)) 20 1 g) 20 2 k) 20 3 a) 20 4 b = _
  rw [hs_up, hs_up, hs_up, hs_up]; rfl
