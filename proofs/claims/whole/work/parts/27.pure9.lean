abbrev RsT : Type := StF × StF × StF
def cn11 (f : StF) (g : Int32) : StF :=
  let f1 := upd f 11 (f 11 + 1)
  let f2 := if f1 12 = -1 ∨ g < f1 12 then upd (upd f1 12 g) 2 0 else f1
  if g = f2 12 then upd f2 2 (f2 2 + 1) else f2
def cnR (r : RsT) (s g : Int32) (c : Nat) (pk : Int32) : RsT := if s = 0 then r else (cn11 r.1 g, if r.2.1 c = -1 ∨ g < r.2.1 c then upd r.2.1 c g else r.2.1, if r.2.1 c = -1 ∨ g < r.2.1 c then upd r.2.2 c pk else r.2.2)
def cntH (h : HpT) (s g : Int32) (c : Nat) (pk : Int32) : HpT := va_up (va_up (va_up h 11 (cnR (h 11, h 12, h 13) s g c pk).1) 12 (cnR (h 11, h 12, h 13) s g c pk).2.1) 13 (cnR (h 11, h 12, h 13) s g c pk).2.2
theorem cntH_0 (h : HpT) (g : Int32) (c : Nat) (pk : Int32) : cntH h 0 g c pk = h := by
  unfold cntH cnR
  rw [if_pos rfl]
  show va_up (va_up (va_up h 11 (h 11)) 12 (h 12)) 13 (h 13) = h
  rw [up_id, up_id, up_id]
theorem cntH_1 (h : HpT) {s : Int32} (hs0 : ¬ s = 0) (g : Int32) (c : Nat) (pk : Int32) : cntH h s g c pk = va_up (va_up (va_up h 11 (cn11 (h 11) g)) 12 (if h 12 c = -1 ∨ g < h 12 c then upd (h 12) c g else h 12)) 13 (if h 12 c = -1 ∨ g < h 12 c then upd (h 13) c pk else h 13) := by
  unfold cntH cnR
  rw [if_neg hs0]
theorem hs2' (h : HpT) (k a b : Nat) (x y : Int32) : hs (hs h k a x) k b y = va_up h k (upd (upd (h k) a x) b y) := by
  show hs (va_up h k (upd (h k) a x)) k b y = _
  rw [hs_up]
theorem hs3' (h : HpT) (k a b c : Nat) (x y z : Int32) : hs (hs (hs h k a x) k b y) k c z = va_up h k (upd (upd (upd (h k) a x) b y) c z) := by
  show hs (hs (va_up h k (upd (h k) a x)) k b y) k c z = _
  rw [hs_up, hs_up]
def lyh (h : HpT) (r : RsT) (a m l : Nat → Int32) : HpT := va_up (va_up (va_up (va_up (va_up (va_up h 11 r.1) 12 r.2.1) 13 r.2.2) 14 a) 17 m) 18 l
theorem ly_18 {h : HpT} {r : RsT} {a m l l2 : Nat → Int32} : va_up (lyh h r a m l) 18 l2 = lyh h r a m l2 := by unfold lyh; rw [up_up]
theorem ly_17 {h : HpT} {r : RsT} {a m l m2 : Nat → Int32} : va_up (lyh h r a m l) 17 m2 = lyh h r a m2 l := by
  unfold lyh; rw [up_comm _ _ _ (by decide), up_up]
theorem ly_14 {h : HpT} {r : RsT} {a m l : Nat → Int32} {i : Nat} {x : Int32} : hs (lyh h r a m l) 14 i x = lyh h r (upd a i x) m l := by
  show va_up (lyh h r a m l) 14 (upd a i x) = _
  unfold lyh; rw [up_comm _ _ _ (by decide), up_comm (va_up _ 14 a) _ _ (by decide), up_up]
theorem ly_cnt {h : HpT} {r : RsT} {a m l : Nat → Int32} {s g : Int32} {c : Nat} {pk : Int32} : cntH (lyh h r a m l) s g c pk = lyh h (cnR r s g c pk) a m l := by
  unfold cntH
  show va_up (va_up (va_up (lyh h r a m l) 11 (cnR r s g c pk).1) 12 (cnR r s g c pk).2.1) 13 (cnR r s g c pk).2.2 = _
  generalize (cnR r s g c pk) = r2
  unfold lyh
  funext q
  simp only [va_up]
  by_cases h1 : q = 11 <;> by_cases h2 : q = 12 <;> by_cases h3 : q = 13 <;> by_cases h4 : q = 14 <;> by_cases h5 : q = 17 <;> by_cases h6 : q = 18 <;> simp_all
theorem cn11_10 (f : StF) (g : Int32) : cn11 f g 10 = f 10 := by
  unfold cn11
  by_cases q : (upd f 11 (f 11 + 1)) 12 = -1 ∨ g < (upd f 11 (f 11 + 1)) 12
  · simp only [q, if_true]
    by_cases q2 : g = (upd (upd (upd f 11 (f 11 + 1)) 12 g) 2 0) 12
    · rw [if_pos q2]; simp [upd]
    · rw [if_neg q2]; simp [upd]
  · simp only [q, if_false]
    by_cases q2 : g = (upd f 11 (f 11 + 1)) 12
    · rw [if_pos q2]; simp [upd]
    · rw [if_neg q2]; simp [upd]
theorem cnR_10 (r : RsT) (s g : Int32) (c : Nat) (pk : Int32) : (cnR r s g c pk).1 10 = r.1 10 := by
  unfold cnR
  split
  · rfl
  · exact cn11_10 _ _
noncomputable def okC (ph fx : Nat → Int32) (lt : Nat → Nat) (a : Nat → Int32) (i p : Nat) : Int32 := bP ((fx i = 1 → nI p = ph i) ∧ (lt i = i ∨ nI p = a (lt i)))
def foP (f : Nat → RsT → RsT) : Nat → RsT → RsT
  | 0, r => r
  | p + 1, r => f p (foP f p r)
noncomputable def plF (b : Nat → Bool) (ph fx tk pr : Nat → Int32) (lt : Nat → Nat) (fu : Int32) (n : Nat) : Nat → Nat → (Nat → Int32) → (Nat → Int32) → Int32 → Nat → RsT → RsT
  | 0, _, a, l, g, c, r => cnR r (bP (sfT b l fu)) g c (packF a n)
  | d + 1, i, a, l, g, c, r => foP (fun p r => if okC ph fx lt a i p = 0 then r else plF b ph fx tk pr lt fu n d (i + 1) (upd a i (nI p)) (alT b l p (fun t => 1 * tk (i * 6 + t)) (tcN b 6)) (g + 3 * mtF a pr i p i) (c + (if nI p = ph i then 0 else 1)) r) 3 r
theorem plF_10 (b : Nat → Bool) (ph fx tk pr : Nat → Int32) (lt : Nat → Nat) (fu : Int32) (n : Nat) : ∀ (d i : Nat) (a l : Nat → Int32) (g : Int32) (c : Nat) (r : RsT), (plF b ph fx tk pr lt fu n d i a l g c r).1 10 = r.1 10
  | 0, _, a, l, g, c, r => by rw [plF, cnR_10]
  | d + 1, i, a, l, g, c, r => by
    rw [plF]
    have key : ∀ p, (foP (fun p r => if okC ph fx lt a i p = 0 then r else plF b ph fx tk pr lt fu n d (i + 1) (upd a i (nI p)) (alT b l p (fun t => 1 * tk (i * 6 + t)) (tcN b 6)) (g + 3 * mtF a pr i p i) (c + (if nI p = ph i then 0 else 1)) r) p r).1 10 = r.1 10 := by
      intro p
      induction p with
      | zero => rfl
      | succ p ih =>
        rw [foP]
        split
        · exact ih
        · rw [plF_10 b ph fx tk pr lt fu n d]; exact ih
    exact key 3
theorem packF_cong {a a2 : Nat → Int32} : ∀ {n : Nat}, (∀ o, o < n → a o = a2 o) → packF a n = packF a2 n
  | 0, _ => rfl
  | n + 1, hh => by unfold packF; rw [packF_cong (fun o ho => hh o (by omega)), hh n (by omega)]
theorem mtF_cong {a a2 f : Nat → Int32} {i p : Nat} : ∀ {n : Nat}, (∀ o, o < n → a o = a2 o) → mtF a f i p n = mtF a2 f i p n
  | 0, _ => rfl
  | n + 1, hh => by unfold mtF; rw [mtF_cong (fun o ho => hh o (by omega)), hh n (by omega)]
