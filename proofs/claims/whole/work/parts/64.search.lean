/-- what the class keeps of a search, and what the reference keeps -/
def RB (n : Nat) (r s : RsT) : Prop := r.1 11 = s.1 17 ∧ r.1 12 = s.1 18 ∧ r.1 2 = s.1 19 ∧ ∀ c, c < 10 → r.2.1 c = s.2.1 c ∧ (¬ s.2.1 c < 0 → ∀ i, i < n → phF (r.2.2 c) (nI i) = s.2.2 (9 * c + i))
/-- two searches of the reference -/
def RA (n : Nat) (r s : RsT) : Prop := r.1 17 = s.1 17 ∧ r.1 18 = s.1 18 ∧ r.1 19 = s.1 19 ∧ ∀ c, c < 10 → r.2.1 c = s.2.1 c ∧ (¬ s.2.1 c < 0 → ∀ i, i < n → r.2.2 (9 * c + i) = s.2.2 (9 * c + i))
/-- what holds of the reference's record -/
def GR (n : Nat) (s : RsT) : Prop := (s.1 18 = -1 ∨ ¬ s.1 18 < 0) ∧ (∀ c, c < 10 → s.2.1 c = -1 ∨ ¬ s.2.1 c < 0) ∧ (∀ c, c < 10 → ¬ s.2.1 c < 0 → ∀ i, i < n → ∃ p, p < 3 ∧ s.2.2 (9 * c + i) = nI p) ∧ (s.1 18 = -1 → ∀ c, c < 10 → s.2.1 c = -1) ∧ (¬ s.1 18 < 0 → (∃ c, c < 10 ∧ s.2.1 c = s.1 18) ∧ ∀ c, c < 10 → ¬ s.2.1 c < 0 → s.1 18 ≤ s.2.1 c)
theorem m1_lt : (-1 : Int32) < 0 := by decide
theorem mt23_at (f : StF) (g : Int32) : mt23 f g 17 = f 17 + 1 ∧ mt23 f g 18 = (if f 18 < 0 ∨ g < f 18 then g else f 18) ∧ mt23 f g 19 = (if f 18 < 0 ∨ g < f 18 then 1 else if g = f 18 then f 19 + 1 else f 19) := by
  unfold mt23
  refine ⟨?_, ?_, ?_⟩
  · rw [pk_un (by decide), pk_un (by decide), pk_us]
  · rw [pk_us]
  · rw [pk_un (by decide), pk_us]
theorem cn11_at (f : StF) (g : Int32) : cn11 f g 11 = f 11 + 1 ∧ cn11 f g 12 = (if f 12 = -1 ∨ g < f 12 then g else f 12) ∧ cn11 f g 2 = (if f 12 = -1 ∨ g < f 12 then 1 else if g = f 12 then f 2 + 1 else f 2) := by
  have e12 : (upd f 11 (f 11 + 1)) 12 = f 12 := pk_un (by decide)
  unfold cn11
  by_cases q : f 12 = -1 ∨ g < f 12
  · simp only [e12, q, if_true]
    have e : (upd (upd (upd f 11 (f 11 + 1)) 12 g) 2 0) 12 = g := by rw [pk_un (by decide), pk_us]
    rw [if_pos e.symm]
    refine ⟨?_, ?_, ?_⟩
    · rw [pk_un (by decide), pk_un (by decide), pk_un (by decide), pk_us]
    · rw [pk_un (by decide), e]
    · rw [pk_us, pk_us]; rfl
  · simp only [e12, q, if_false]
    by_cases q2 : g = f 12
    · rw [if_pos q2, if_pos q2]
      refine ⟨?_, ?_, ?_⟩
      · rw [pk_un (by decide), pk_us]
      · rw [pk_un (by decide), e12]
      · rw [pk_us, pk_un (by decide)]
    · rw [if_neg q2, if_neg q2]
      exact ⟨pk_us, e12, pk_un (by decide)⟩
theorem pcF_same {f a : Nat → Int32} {c n i : Nat} (hi : i < n) : pcF f c a n (9 * c + i) = a i := by
  unfold pcF
  rw [if_pos (by omega), Nat.add_sub_cancel_left]
theorem pcF_other {f a : Nat → Int32} {c c2 n i : Nat} (hn : n ≤ 9) (hi : i < n) (h : c2 ≠ c) : pcF f c a n (9 * c2 + i) = f (9 * c2 + i) := by
  unfold pcF
  rw [if_neg (by omega)]
theorem lt_m1 {x : Int32} (h : x = -1 ∨ ¬ x < 0) : x = -1 ↔ x < 0 := ⟨fun e => by rw [e]; exact m1_lt, fun e => h.elim id (fun z => absurd e z)⟩
theorem mt_RB {n c : Nat} {r s : RsT} {g : Int32} {a b : Nat → Int32} (hn : n ≤ 9) (hc : c < 10) (hab : agr n a b) (ha : ∀ o, o < n → ∃ p, p < 3 ∧ a o = nI p) (hg : GR n s) (h : RB n r s) {z : Int32} (hz : ¬ z = 0) : RB n (cnR r z g c (packF a n)) (mtG s g c n b) := by
  obtain ⟨h1, h2, h3, h4⟩ := h
  obtain ⟨c1, c2, c3⟩ := cn11_at r.1 g
  obtain ⟨m1, m2, m3⟩ := mt23_at s.1 g
  have e18 : (r.1 12 = -1 ∨ g < r.1 12) ↔ (s.1 18 < 0 ∨ g < s.1 18) := by rw [h2, lt_m1 hg.1]
  have ec : (r.2.1 c = -1 ∨ g < r.2.1 c) ↔ (s.2.1 c < 0 ∨ g < s.2.1 c) := by rw [(h4 c hc).1, lt_m1 (hg.2.1 c hc)]
  unfold cnR mtG
  rw [if_neg hz]
  refine ⟨?_, ?_, ?_, ?_⟩
  · show cn11 r.1 g 11 = mt23 s.1 g 17
    rw [c1, m1, h1]
  · show cn11 r.1 g 12 = mt23 s.1 g 18
    rw [c2, m2]
    by_cases q : s.1 18 < 0 ∨ g < s.1 18
    · rw [if_pos q, if_pos (e18.mpr q)]
    · rw [if_neg q, if_neg (fun y => q (e18.mp y)), h2]
  · show cn11 r.1 g 2 = mt23 s.1 g 19
    rw [c3, m3]
    by_cases q : s.1 18 < 0 ∨ g < s.1 18
    · rw [if_pos q, if_pos (e18.mpr q)]
    · rw [if_neg q, if_neg (fun y => q (e18.mp y)), h2, h3]
  · intro x hx
    show (if r.2.1 c = -1 ∨ g < r.2.1 c then upd r.2.1 c g else r.2.1) x = (if s.2.1 c < 0 ∨ g < s.2.1 c then upd s.2.1 c g else s.2.1) x ∧ (¬ (if s.2.1 c < 0 ∨ g < s.2.1 c then upd s.2.1 c g else s.2.1) x < 0 → ∀ i, i < n → phF ((if r.2.1 c = -1 ∨ g < r.2.1 c then upd r.2.2 c (packF a n) else r.2.2) x) (nI i) = (if s.2.1 c < 0 ∨ g < s.2.1 c then pcF s.2.2 c b n else s.2.2) (9 * x + i))
    by_cases q : s.2.1 c < 0 ∨ g < s.2.1 c
    · rw [if_pos q, if_pos (ec.mpr q), if_pos (ec.mpr q), if_pos q]
      by_cases e : x = c
      · subst e
        rw [pk_us, pk_us, pk_us]
        refine ⟨rfl, fun _ i hi => ?_⟩
        rw [pcF_same hi, ph_pack hn ha hi, hab i hi]
      · rw [pk_un e, pk_un e, pk_un e]
        refine ⟨(h4 x hx).1, fun y i hi => ?_⟩
        rw [pcF_other hn hi e]
        exact (h4 x hx).2 y i hi
    · rw [if_neg q, if_neg (fun y => q (ec.mp y)), if_neg (fun y => q (ec.mp y)), if_neg q]
      exact h4 x hx
theorem mt_RA {n c : Nat} {r s : RsT} {g : Int32} {a b : Nat → Int32} (hn : n ≤ 9) (hc : c < 10) (hab : agr n a b) (h : RA n r s) : RA n (mtG r g c n a) (mtG s g c n b) := by
  obtain ⟨h1, h2, h3, h4⟩ := h
  obtain ⟨c1, c2, c3⟩ := mt23_at r.1 g
  obtain ⟨m1, m2, m3⟩ := mt23_at s.1 g
  unfold mtG
  refine ⟨?_, ?_, ?_, ?_⟩
  · show mt23 r.1 g 17 = mt23 s.1 g 17
    rw [c1, m1, h1]
  · show mt23 r.1 g 18 = mt23 s.1 g 18
    rw [c2, m2, h2]
  · show mt23 r.1 g 19 = mt23 s.1 g 19
    rw [c3, m3, h2, h3]
  · intro x hx
    show (if r.2.1 c < 0 ∨ g < r.2.1 c then upd r.2.1 c g else r.2.1) x = (if s.2.1 c < 0 ∨ g < s.2.1 c then upd s.2.1 c g else s.2.1) x ∧ (¬ (if s.2.1 c < 0 ∨ g < s.2.1 c then upd s.2.1 c g else s.2.1) x < 0 → ∀ i, i < n → (if r.2.1 c < 0 ∨ g < r.2.1 c then pcF r.2.2 c a n else r.2.2) (9 * x + i) = (if s.2.1 c < 0 ∨ g < s.2.1 c then pcF s.2.2 c b n else s.2.2) (9 * x + i))
    rw [(h4 c hc).1]
    by_cases q : s.2.1 c < 0 ∨ g < s.2.1 c
    · rw [if_pos q, if_pos q, if_pos q, if_pos q]
      by_cases e : x = c
      · subst e
        rw [pk_us, pk_us]
        refine ⟨rfl, fun _ i hi => ?_⟩
        rw [pcF_same hi, pcF_same hi, hab i hi]
      · rw [pk_un e, pk_un e]
        refine ⟨(h4 x hx).1, fun y i hi => ?_⟩
        rw [pcF_other hn hi e, pcF_other hn hi e]
        exact (h4 x hx).2 y i hi
    · rw [if_neg q, if_neg q, if_neg q, if_neg q]
      exact h4 x hx
theorem mt_GR {n c : Nat} {s : RsT} {g : Int32} {b : Nat → Int32} (hn : n ≤ 9) (hc : c < 10) (hb : ∀ o, o < n → ∃ p, p < 3 ∧ b o = nI p) (hnn : ¬ g < 0) (hg : GR n s) : GR n (mtG s g c n b) := by
  obtain ⟨g1, g2, g3, g4, g5⟩ := hg
  obtain ⟨m1, m2, m3⟩ := mt23_at s.1 g
  have hgm : ¬ g = -1 := fun e => hnn (by rw [e]; exact m1_lt)
  unfold mtG
  have ex : ∀ x, (if s.2.1 c < 0 ∨ g < s.2.1 c then upd s.2.1 c g else s.2.1) x = if x = c ∧ (s.2.1 c < 0 ∨ g < s.2.1 c) then g else s.2.1 x := by
    intro x
    by_cases q : s.2.1 c < 0 ∨ g < s.2.1 c
    · rw [if_pos q]
      by_cases e : x = c
      · rw [if_pos ⟨e, q⟩, e, pk_us]
      · rw [if_neg (fun y => e y.1), pk_un e]
    · rw [if_neg q, if_neg (fun y => q y.2)]
  have e18 : mt23 s.1 g 18 = -1 → False := by
    intro y
    rw [m2] at y
    by_cases q : s.1 18 < 0 ∨ g < s.1 18
    · rw [if_pos q] at y; exact hgm y
    · rw [if_neg q] at y; exact q (Or.inl (by rw [y]; exact m1_lt))
  have e18b : ¬ mt23 s.1 g 18 < 0 := by
    rw [m2]
    by_cases q : s.1 18 < 0 ∨ g < s.1 18
    · rw [if_pos q]; exact hnn
    · rw [if_neg q]; exact fun y => q (Or.inl y)
  refine ⟨Or.inr e18b, ?_, ?_, fun y => absurd y e18, fun _ => ⟨?_, ?_⟩⟩
  · intro x hx
    show (if s.2.1 c < 0 ∨ g < s.2.1 c then upd s.2.1 c g else s.2.1) x = -1 ∨ ¬ (if s.2.1 c < 0 ∨ g < s.2.1 c then upd s.2.1 c g else s.2.1) x < 0
    rw [ex]
    split
    · exact Or.inr hnn
    · exact g2 x hx
  · intro x hx
    show ¬ (if s.2.1 c < 0 ∨ g < s.2.1 c then upd s.2.1 c g else s.2.1) x < 0 → ∀ i, i < n → ∃ p, p < 3 ∧ (if s.2.1 c < 0 ∨ g < s.2.1 c then pcF s.2.2 c b n else s.2.2) (9 * x + i) = nI p
    by_cases q : s.2.1 c < 0 ∨ g < s.2.1 c
    · rw [if_pos q, if_pos q]
      by_cases e : x = c
      · subst e
        intro _ i hi
        rw [pcF_same hi]
        exact hb i hi
      · rw [pk_un e]
        intro y i hi
        rw [pcF_other hn hi e]
        exact g3 x hx y i hi
    · rw [if_neg q, if_neg q]
      exact g3 x hx
  · show ∃ x, x < 10 ∧ (if s.2.1 c < 0 ∨ g < s.2.1 c then upd s.2.1 c g else s.2.1) x = mt23 s.1 g 18
    rw [m2]
    by_cases q : s.1 18 < 0 ∨ g < s.1 18
    · rw [if_pos q]
      refine ⟨c, hc, ?_⟩
      have q2 : s.2.1 c < 0 ∨ g < s.2.1 c := by
        by_cases y : s.2.1 c < 0
        · exact Or.inl y
        · refine Or.inr ?_
          rcases q with q | q
          · have := g4 ((lt_m1 g1).mpr q) c hc
            exact absurd (by rw [this]; exact m1_lt) y
          · by_cases w : s.1 18 < 0
            · have := g4 ((lt_m1 g1).mpr w) c hc
              exact absurd (by rw [this]; exact m1_lt) y
            · exact Int32.lt_of_lt_of_le q ((g5 w).2 c hc y)
      rw [if_pos q2, pk_us]
    · rw [if_neg q]
      obtain ⟨⟨x, hx, ey⟩, hle⟩ := g5 (fun y => q (Or.inl y))
      refine ⟨x, hx, ?_⟩
      rw [ex]
      split
      · rename_i hh
        have h1 : ¬ g < s.1 18 := fun y => q (Or.inr y)
        have h2 : g < s.1 18 := by
          rw [← ey, hh.1]
          rcases hh.2 with w | w
          · rw [← hh.1, ey] at w; exact absurd w (fun y => q (Or.inl y))
          · exact w
        exact absurd h2 h1
      · exact ey
  · intro x hx
    show ¬ (if s.2.1 c < 0 ∨ g < s.2.1 c then upd s.2.1 c g else s.2.1) x < 0 → mt23 s.1 g 18 ≤ (if s.2.1 c < 0 ∨ g < s.2.1 c then upd s.2.1 c g else s.2.1) x
    rw [ex, m2]
    intro y
    by_cases q : s.1 18 < 0 ∨ g < s.1 18
    · rw [if_pos q]
      split
      · exact Int32.le_refl g
      · rename_i hh
        rw [if_neg hh] at y
        by_cases w : s.1 18 < 0
        · have := g4 ((lt_m1 g1).mpr w) x hx
          exact absurd (by rw [this]; exact m1_lt) y
        · rcases q with q | q
          · exact absurd q w
          · exact Int32.le_of_lt (Int32.lt_of_lt_of_le q ((g5 w).2 x hx y))
    · rw [if_neg q]
      split
      · exact Int32.not_lt.mp (fun z => q (Or.inr z))
      · rename_i hh
        rw [if_neg hh] at y
        exact (g5 (fun z => q (Or.inl z))).2 x hx y
