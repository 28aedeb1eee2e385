theorem alF_at {f : Nat → Int32} {p : Nat} {v : Nat → Int32} {j : Nat} : alF f p v 6 j = if j / 6 = p then f j + v (j % 6) else f j := by
  unfold alF
  by_cases e : j / 6 = p
  · rw [if_pos e, if_pos (by omega), show j - p * 6 = j % 6 by omega]
  · rw [if_neg e, if_neg (by omega)]
theorem nI_eqs {a b : Nat} (ha : a < 100) (hb : b < 100) : nI a = nI b ↔ a = b := nI_eq (by omega) (by omega)
theorem cano_up {n k : Nat} {h : HpT} {f : Nat → Int32} (hk : k ≠ 10) : cano n (va_up (cano n h) k f) = cano n (va_up h k f) := by
  unfold cano
  funext q
  by_cases e : q = 10
  · subst e
    rw [va_up_self, va_up_self]
    funext j
    unfold ldH
    by_cases hj : j < 18
    · rw [if_pos hj, if_pos hj]
      congr 1 <;> (simp only [va_up]; by_cases e2 : k = 2 <;> by_cases e3 : k = 3 <;> by_cases e4 : k = 4 <;> simp_all <;> (try split) <;> rfl)
    · rw [if_neg hj, if_neg hj, va_up_ne _ _ (Ne.symm hk), va_up_ne _ _ (Ne.symm hk), va_up_self]
      rw [if_neg hj]
  · rw [va_up_ne _ _ e, va_up_ne _ _ e]
    by_cases e2 : q = k
    · subst e2; rw [va_up_self, va_up_self]
    · rw [va_up_ne _ _ e2, va_up_ne _ _ e2, va_up_ne _ _ e]
theorem SI_ph {n : Nat} {h : HpT} {g : Nat → Int32} (hS : SI n h) (hg : ∀ i, i < 9 → ∃ a, a < 3 ∧ g i = nI a) : SI n (cano n (va_up h 4 g)) := ⟨hS.1, hS.2.1, hS.2.2.1, hg, cano_LI _ _⟩
theorem SI_self {n : Nat} {h : HpT} (hS : SI n h) : cano n h = h := cano_id hS.2.2.2.2
theorem sp_heap {n i p0 p : Nat} {h : HpT} (hS : SI n h) (hi : i < n) (h0 : p0 < 3) (hp : p < 3) (e0 : h 4 i = nI p0) :
    va_up (hs (va_up h 10 (alF (h 10) p0 (fun t => -1 * tkV (h 2 i) (h 3 i) t) 6)) 4 i (nI p)) 10 (alF (alF (h 10) p0 (fun t => -1 * tkV (h 2 i) (h 3 i) t) 6) p (fun t => 1 * tkV (h 2 i) (h 3 i) t) 6) = cano n (hs h 4 i (nI p)) := by
  funext q
  by_cases e : q = 10
  · subst e
    rw [va_up_self]
    show _ = ldH n (hs h 4 i (nI p))
    funext j
    unfold ldH
    rw [alF_at, alF_at]
    by_cases hj : j < 18
    · rw [if_pos hj, hS.2.2.2.2 j hj]
      show _ = ldV (h 2) (h 3) (upd (h 4) i (nI p)) (j / 6) (j % 6) n
      rw [ldV_ph hi, e0]
      have q1 := nI_eqs (a := p0) (b := j / 6) (by omega) (by omega)
      have q2 := nI_eqs (a := p) (b := j / 6) (by omega) (by omega)
      by_cases r1 : j / 6 = p0 <;> by_cases r2 : j / 6 = p <;> simp only [q1, q2, r1, r2, if_true, if_false, eq_comm] <;> grind
    · rw [if_neg hj, if_neg (by omega), if_neg (by omega)]
      rfl
  · rw [va_up_ne _ _ e]
    unfold cano hs
    rw [va_up_ne _ _ e]
    by_cases e4 : q = 4
    · subst e4; rw [va_up_self, va_up_self]; rfl
    · rw [va_up_ne _ _ e4, va_up_ne _ _ e4, va_up_ne _ _ e]
theorem sh_heap {n i p c : Nat} {h : HpT} {v : Int32} (hS : SI n h) (hi : i < n) (hc : c = 2 ∨ c = 3 ∨ c = 5) (hp : p < 3) (e0 : h 4 i = nI p) :
    va_up (hs (va_up h 10 (alF (h 10) p (fun t => -1 * tkV (h 2 i) (h 3 i) t) 6)) c i v) 10 (alF (alF (h 10) p (fun t => -1 * tkV (h 2 i) (h 3 i) t) 6) p (fun t => 1 * tkV (hs h c i v 2 i) (hs h c i v 3 i) t) 6) = cano n (hs h c i v) := by
  funext q
  by_cases e : q = 10
  · subst e
    rw [va_up_self]
    show _ = ldH n (hs h c i v)
    funext j
    unfold ldH
    rw [alF_at, alF_at]
    by_cases hj : j < 18
    · rw [if_pos hj, hS.2.2.2.2 j hj]
      have e4 : hs h c i v 4 = h 4 := by rcases hc with rfl | rfl | rfl <;> rfl
      rw [e4, ldV_so (so := h 2) (sz := h 3) (so' := hs h c i v 2) (sz' := hs h c i v 3) hi (fun j hj2 => by rcases hc with rfl | rfl | rfl <;> (constructor <;> (rw [hs_at]; exact if_neg (by omega))))]
      rw [e0]
      have q1 := nI_eqs (a := p) (b := j / 6) (by omega) (by omega)
      by_cases r1 : j / 6 = p <;> simp only [q1, r1, if_true, if_false, eq_comm] <;> grind
    · rw [if_neg hj, if_neg (by omega), if_neg (by omega)]
      rcases hc with rfl | rfl | rfl <;> rfl
  · rw [va_up_ne _ _ e]
    unfold cano hs
    rw [va_up_ne _ _ e]
    by_cases e4 : q = c
    · subst e4; rw [va_up_self, va_up_self, va_up_ne _ _ e]
    · rw [va_up_ne _ _ e4, va_up_ne _ _ e4, va_up_ne _ _ e]
def newC (h : HpT) (n : Nat) (so sz ph : Int32) : HpT := hs (hs (hs (hs (hs (hs h 1 9 (nI (n + 1))) 2 n so) 3 n sz) 4 n ph) 5 n 0) 6 n (nI n)
theorem ah_heap {n p : Nat} {h : HpT} {so sz : Int32} (hS : SI n h) (hn : n < 9) (hp : p < 3) :
    va_up (newC h n so sz (nI p)) 10 (alF (h 10) p (fun t => 1 * tkV so sz t) 6) = cano (n + 1) (newC h n so sz (nI p)) := by
  unfold cano
  congr 1
  funext j
  unfold ldH
  rw [alF_at]
  by_cases hj : j < 18
  · rw [if_pos hj, hS.2.2.2.2 j hj]
    show _ = ldV (upd (h 2) n so) (upd (h 3) n sz) (upd (h 4) n (nI p)) (j / 6) (j % 6) (n + 1)
    rw [ldV, ldV_cong (so' := h 2) (sz' := h 3) (ph' := h 4) (fun i hi => ⟨pk_un (by omega), pk_un (by omega), pk_un (by omega)⟩), pk_us, pk_us, pk_us]
    have q1 := nI_eqs (a := p) (b := j / 6) (by omega) (by omega)
    by_cases r1 : j / 6 = p <;> simp only [q1, r1, if_true, if_false, eq_comm] <;> grind
  · rw [if_neg hj, if_neg (by omega)]
    rfl
noncomputable def bP (c : Prop) : Int32 := @ite _ c (Classical.propDecidable c) 1 0
theorem bP_t {c : Prop} (h : c) : bP c = 1 := by unfold bP; exact if_pos h
theorem bP_f {c : Prop} (h : ¬ c) : bP c = 0 := by unfold bP; exact if_neg h
theorem bP_0 {c : Prop} (h : bP c = 0) : ¬ c := fun q => by rw [bP_t q] at h; cases h
theorem bP_1 {c : Prop} (h : ¬ bP c = 0) : c := Classical.byContradiction (fun q => h (bP_f q))
theorem bP_nar {c : Prop} : narrow .boolean (.int (bP c)) = .int (bP c) := by
  by_cases q : c
  · rw [bP_t q]; rfl
  · rw [bP_f q]; rfl
def absI (x : Int32) : Int32 := if 0 ≤ x then x else 0 - x
def hgF (f : Nat → Int32) : Nat → Nat
  | 0 => 0
  | k + 1 => if f (hgF f k) < f (k + 1) then k + 1 else hgF f k
theorem hgF_le (f : Nat → Int32) : ∀ k, hgF f k ≤ k
  | 0 => Nat.le_refl _
  | k + 1 => by unfold hgF; have := hgF_le f k; split <;> omega
def glF (f : Nat → Int32) : Nat → Int32
  | 0 => 0
  | k + 1 => if absI (glF f k) < absI (f k) then f k else glF f k
def fbF (f : Nat → Int32) : Nat → Int32
  | 0 => 0
  | k + 1 => fbF f k ||| (f k <<< (nI k &&& 31))
def idF (f : Nat → Int32) (n : Nat) : Nat → Int32 := fun i => if i < n then nI i else f i
theorem id_step (h : HpT) (i : Nat) (f : Nat → Int32) : hs (va_up h 6 (idF f i)) 6 i (nI i) = va_up h 6 (idF f (i + 1)) := by
  rw [hs_up]
  congr 1
  funext j
  simp only [upd, idF]
  by_cases h1 : j = i
  · rw [if_pos h1, if_pos (by omega), h1]
  · rw [if_neg h1]
    by_cases h2 : j < i
    · rw [if_pos h2, if_pos (by omega)]
    · rw [if_neg h2, if_neg (by omega)]
def lyF (l : Int32) (f : Nat → Int32) (n : Nat) : Nat → Int32 := fun i => if i < n then phF l (nI i) else f i
theorem ly_step (l : Int32) (f : Nat → Int32) (i : Nat) : upd (lyF l f i) i (phF l (nI i)) = lyF l f (i + 1) := by
  funext j
  simp only [upd, lyF]
  by_cases h1 : j = i
  · rw [if_pos h1, if_pos (by omega), h1]
  · rw [if_neg h1]
    by_cases h2 : j < i
    · rw [if_pos h2, if_pos (by omega)]
    · rw [if_neg h2, if_neg (by omega)]
def mgF (f : Nat → Int32) (a b : Int32) (n : Nat) : Nat → Int32 := fun i => if i < n ∧ f i = b then a else f i
def keepC (h : HpT) (u : Nat) (l : Int32) : HpT := if u < 8 then hs (hs h 22 u l) 21 0 (nI (u + 1)) else hs (hs (hs (va_up h 22 (va_cpy (h 22) (h 22) 1 0 7)) 21 0 7) 22 7 l) 21 0 8
