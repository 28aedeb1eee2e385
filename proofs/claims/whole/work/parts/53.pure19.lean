/-- how many places differ -/
def chN (ph g : Nat → Int32) : Nat → Nat
  | 0 => 0
  | k + 1 => chN ph g k + (if g k = ph k then 0 else 1)
theorem chN_le (ph g : Nat → Int32) : ∀ k, chN ph g k ≤ k
  | 0 => Nat.le_refl _
  | k + 1 => by unfold chN; have := chN_le ph g k; split <;> omega
theorem pc_step35 (h : HpT) (f g : Nat → Int32) (u k : Nat) : hs (va_up h 35 (pcF f u g k)) 35 (9 * u + k) (g k) = va_up h 35 (pcF f u g (k + 1)) := by
  rw [hs_up]
  congr 1
  funext j
  simp only [upd, pcF]
  by_cases h1 : j = 9 * u + k
  · subst h1; rw [if_pos rfl, if_pos (by omega), Nat.add_sub_cancel_left]
  · rw [if_neg h1]
    by_cases h2 : 9 * u ≤ j ∧ j < 9 * u + k
    · rw [if_pos h2, if_pos (by omega)]
    · rw [if_neg h2, if_neg (by omega)]
def mt23 (f : StF) (g : Int32) : StF := upd (upd (upd f 17 (f 17 + 1)) 19 (if f 18 < 0 ∨ g < f 18 then 1 else if g = f 18 then f 19 + 1 else f 19)) 18 (if f 18 < 0 ∨ g < f 18 then g else f 18)
theorem mt23_o (f : StF) (g : Int32) {j : Nat} (h1 : j ≠ 17) (h2 : j ≠ 18) (h3 : j ≠ 19) : mt23 f g j = f j := by unfold mt23; rw [pk_un h2, pk_un h3, pk_un h1]
/-- what a laying that is met leaves: g its grief, c its changes -/
def mtG (r : RsT) (g : Int32) (c n : Nat) (a : Nat → Int32) : RsT := (mt23 r.1 g, if r.2.1 c < 0 ∨ g < r.2.1 c then upd r.2.1 c g else r.2.1, if r.2.1 c < 0 ∨ g < r.2.1 c then pcF r.2.2 c a n else r.2.2)
noncomputable def mtR (tk w ph : Nat → Int32) (fu : Int32) (n : Nat) (a : Nat → Int32) (r : RsT) : RsT := if bP (sT tk a fu n) = 0 then r else mtG r (gT tk a w n) (chN ph a n) n a
/-- the reference's world in a search: loads' row l, now's row g, its record r -/
def gwh (h : HpT) (l g : Nat → Int32) (r : RsT) : HpT := va_up (va_up (va_up (va_up (va_up h 33 l) 34 g) 23 r.1) 36 r.2.1) 35 r.2.2
theorem gw_33 {h : HpT} {l g l2 : Nat → Int32} {r : RsT} : va_up (gwh h l g r) 33 l2 = gwh h l2 g r := by
  unfold gwh
  funext q
  simp only [va_up]
  by_cases h1 : q = 33 <;> by_cases h2 : q = 34 <;> by_cases h3 : q = 23 <;> by_cases h4 : q = 36 <;> by_cases h5 : q = 35 <;> simp_all
theorem gw_34 {h : HpT} {l g : Nat → Int32} {r : RsT} {i : Nat} {x : Int32} : hs (gwh h l g r) 34 i x = gwh h l (upd g i x) r := by
  unfold hs gwh
  funext q
  simp only [va_up]
  by_cases h1 : q = 33 <;> by_cases h2 : q = 34 <;> by_cases h3 : q = 23 <;> by_cases h4 : q = 36 <;> by_cases h5 : q = 35 <;> simp_all
theorem gw_3 {h : HpT} {l g a b c : Nat → Int32} {r : RsT} : va_up (va_up (va_up (gwh h l g r) 23 a) 36 b) 35 c = gwh h l g (a, b, c) := by
  unfold gwh
  funext q
  simp only [va_up]
  by_cases h1 : q = 33 <;> by_cases h2 : q = 34 <;> by_cases h3 : q = 23 <;> by_cases h4 : q = 36 <;> by_cases h5 : q = 35 <;> simp_all
theorem gw_self (h : HpT) : gwh h (h 33) (h 34) (h 23, h 36, h 35) = h := by
  unfold gwh
  funext q
  simp only [va_up]
  by_cases h1 : q = 33 <;> by_cases h2 : q = 34 <;> by_cases h3 : q = 23 <;> by_cases h4 : q = 36 <;> by_cases h5 : q = 35 <;> simp_all
theorem gw_gr {h : HpT} {l g : Nat → Int32} {r r2 : RsT} {n : Nat} : grR (gwh h (lnF (gwh h l g r) n) g r2) = gT (h 32) g (h 28) n := by
  have z := gT_eq (gwh h l g r) n
  rw [gw_33] at z
  exact z
theorem gw_sf {h : HpT} {l g : Nat → Int32} {r : RsT} {n : Nat} {fu : Int32} (ef : r.1 6 = fu) : sfR (gwh h (lnF (gwh h l g r) n) g r) ↔ sT (h 32) g fu n := by
  subst ef
  have z := sT_eq (gwh h l g r) n
  rw [gw_33] at z
  exact z
