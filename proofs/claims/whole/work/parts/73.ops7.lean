theorem cob_bb {f g : Nat → Int32} : ∀ {k : Nat}, (∀ c, c < k → f c = g c ∧ (f c = -1 ↔ g c < 0)) → cobN f k = bbN g k
  | 0, _ => rfl
  | k + 1, e => by
    have ih := cob_bb (k := k) (fun c hc => e c (by omega))
    obtain ⟨e1, e2⟩ := e k (by omega)
    unfold cobN bbN
    rw [ih]
    by_cases z : g k < 0
    · rw [if_pos z, if_pos (e2.mpr z)]
    · rw [if_neg z, if_neg (fun y => z (e2.mp y))]
      cases hb : bbN g k with
      | none => rfl
      | some b =>
        have hbk := bbN_lt _ _ _ hb
        show (if f k < f b then some k else some b) = (if g k < g b then some k else some b)
        rw [e1, (e b (by omega)).1]
theorem fw_fw {f g : Nat → Int32} {x : Int32} : ∀ {k : Nat}, (∀ c, c < k → f c = g c ∧ (f c = -1 ↔ g c < 0)) → fwN f x k = fwR g x k
  | 0, _ => rfl
  | k + 1, e => by
    have ih := fw_fw (x := x) (k := k) (fun c hc => e c (by omega))
    obtain ⟨e1, e2⟩ := e k (by omega)
    unfold fwN fwR
    rw [ih]
    cases hb : fwR g x k with
    | some b => rfl
    | none =>
      show (if f k = -1 ∨ x < f k then none else some k) = (if g k < 0 ∨ x < g k then none else some k)
      by_cases z : g k < 0 ∨ x < g k
      · rw [if_pos z, if_pos (by rw [e1]; rw [e1] at e2; exact z.elim (fun y => Or.inl (e2.mpr y)) Or.inr)]
      · rw [if_neg z, if_neg (fun y => z (y.elim (fun y => Or.inl (e2.mp y)) (fun y => Or.inr (by rw [← e1]; exact y))))]
theorem bb_none {f : Nat → Int32} : ∀ {k : Nat}, bbN f k = none → ∀ c, c < k → f c < 0
  | 0, _, c, hc => absurd hc (Nat.not_lt_zero _)
  | k + 1, h, c, hc => by
    unfold bbN at h
    by_cases z : f k < 0
    · rw [if_pos z] at h
      by_cases e : c = k
      · subst e; exact z
      · exact bb_none h c (by omega)
    · rw [if_neg z] at h
      cases hb : bbN f k with
      | none => rw [hb] at h; cases h
      | some d =>
        rw [hb] at h
        by_cases y : f k < f d
        · simp only [y, if_true] at h; cases h
        · simp only [y, if_false] at h; cases h
theorem bb_min {f : Nat → Int32} : ∀ {k b : Nat}, bbN f k = some b → ¬ f b < 0 ∧ ∀ c, c < k → ¬ f c < 0 → f b ≤ f c
  | 0, b, h => by cases h
  | k + 1, b, h => by
    unfold bbN at h
    by_cases z : f k < 0
    · rw [if_pos z] at h
      obtain ⟨h1, h2⟩ := bb_min h
      refine ⟨h1, fun c hc y => ?_⟩
      by_cases e : c = k
      · subst e; exact absurd z y
      · exact h2 c (by omega) y
    · rw [if_neg z] at h
      cases hb : bbN f k with
      | none =>
        rw [hb] at h
        injection h with h
        subst h
        refine ⟨z, fun c hc y => ?_⟩
        by_cases e : c = k
        · subst e; exact Int32.le_refl _
        · exact absurd (bb_none hb c (by omega)) y
      | some d =>
        rw [hb] at h
        obtain ⟨h1, h2⟩ := bb_min hb
        by_cases y : f k < f d
        · simp only [y, if_true] at h
          injection h with h
          subst h
          refine ⟨z, fun c hc w => ?_⟩
          by_cases e : c = k
          · subst e; exact Int32.le_refl _
          · exact Int32.le_trans (Int32.le_of_lt y) (h2 c (by omega) w)
        · simp only [y, if_false] at h
          injection h with h
          subst h
          refine ⟨h1, fun c hc w => ?_⟩
          by_cases e : c = k
          · subst e; exact Int32.not_lt.mp y
          · exact h2 c (by omega) w
section OPS7
variable {G : GxT} {h : HpT} {n q u : Nat} {tx ty lt : Nat → Nat}
theorem Fa_18 {g : HpT} (hf : FaR h n lt g) : g 18 = h 18 := by
  rcases hf with ⟨-, rfl⟩ | ⟨-, a', m', rfl⟩
  · rfl
  · unfold lyh
    exact va_up_self _ _ _
theorem sR_Fa {g : HpT} (hf : FaR h n lt g) : sR g n q tx ty = sR h n q tx ty := by
  unfold sR
  rw [FaR_cell hf (k := 1) (by decide), FaR_cell hf (k := 2) (by decide), FaR_cell hf (k := 3) (by decide), FaR_cell hf (k := 4) (by decide), FaR_cell hf (k := 5) (by decide), FaR_cell hf (k := 9) (by decide)]
theorem Rel_Fa {g : HpT} (R : Rel n q u tx ty lt h) (hf : FaR h n lt g) : Rel n q u tx ty lt g := by
  have c23 : g 23 = h 23 := FaR_cell hf (by decide)
  refine Rel_s R (fun k hk => ?_) (by rw [c23]) (by rw [c23]) (by rw [c23]) (by rw [c23]) (fun _ => fa_RB R hf)
  by_cases e : k = 18
  · subst e; exact Fa_18 hf
  · exact FaR_cell hf (by omega)
theorem goR_class {g : HpT} (e : ∀ k, 23 ≤ k → g k = h k) : goR g n q tx ty = goR h n q tx ty := by
  unfold goR rtR
  rw [e 24 (by decide), e 25 (by decide), e 28 (by decide), e 23 (by decide), e 26 (by decide), e 27 (by decide), e 32 (by decide), e 34 (by decide), e 35 (by decide), e 36 (by decide)]
/-- all that a search gives both -/
theorem both {g : HpT} (R : Rel n q u tx ty lt h) (hf : FaR h n lt g) : RB n (g 11, g 12, g 13) (sR h n q tx ty) ∧ RA n (goR g n q tx ty) (sR h n q tx ty) ∧ GR n (sR h n q tx ty) := by
  have z := go_sR (Rel_Fa R hf)
  rw [sR_Fa hf] at z
  exact ⟨fa_RB R hf, z, sr_GR R⟩
theorem both_c {g : HpT} (R : Rel n q u tx ty lt h) (hf : FaR h n lt g) {c : Nat} (hc : c < 10) : g 12 c = (goR g n q tx ty).2.1 c ∧ (g 12 c = -1 ↔ (goR g n q tx ty).2.1 c < 0) := by
  obtain ⟨b1, b2, b3⟩ := both R hf
  have e1 : g 12 c = (sR h n q tx ty).2.1 c := (b1.2.2.2 c hc).1
  have e2 := (b2.2.2.2 c hc).1
  rw [e1, e2]
  exact ⟨rfl, lt_m1 (b3.2.1 c hc)⟩
theorem both_k {g : HpT} (R : Rel n q u tx ty lt h) (hf : FaR h n lt g) {k : Nat} (hk : k ≤ 10) : cobN (g 12) k = bbN (goR g n q tx ty).2.1 k := cob_bb (fun c hc => both_c R hf (by omega))
theorem both_b {g : HpT} (R : Rel n q u tx ty lt h) (hf : FaR h n lt g) {k b : Nat} (hk : k ≤ 10) (hb : bbN (goR g n q tx ty).2.1 k = some b) : b < 10 ∧ ¬ (sR h n q tx ty).2.1 b < 0 := by
  obtain ⟨b1, b2, b3⟩ := both R hf
  have := bbN_lt _ _ _ hb
  refine ⟨by omega, ?_⟩
  rw [← (b2.2.2.2 b (by omega)).1]
  exact (bb_min hb).1
theorem gw_cell {g : HpT} {l w : Nat → Int32} {r : RsT} {k : Nat} (h1 : k ≠ 33) (h2 : k ≠ 34) (h3 : k ≠ 23) (h4 : k ≠ 36) (h5 : k ≠ 35) : gwh g l w r k = g k := by
  unfold gwh
  rw [va_up_ne _ _ h5, va_up_ne _ _ h4, va_up_ne _ _ h3, va_up_ne _ _ h2, va_up_ne _ _ h1]
theorem gw_c23 {g : HpT} {l w : Nat → Int32} {r : RsT} : gwh g l w r 23 = r.1 := by
  unfold gwh
  rw [va_up_ne _ _ (by decide), va_up_ne _ _ (by decide), va_up_self]
theorem Rel_gw {g : HpT} {t l w : Nat → Int32} (R : Rel n q u tx ty lt g) : Rel n q u tx ty lt (gwh (va_up g 32 t) l w (goR g n q tx ty)) := by
  refine Rel_q R (fun k hk => by rw [gw_cell (by omega) (by omega) (by omega) (by omega) (by omega), va_up_ne _ _ (by omega)]) ?_ ?_ ?_ ?_
  · rw [gw_c23, goR_o (by decide) (by decide) (by decide)]
  · rw [gw_c23, goR_o (by decide) (by decide) (by decide)]
  · rw [gw_c23, goR_o (by decide) (by decide) (by decide)]
  · rw [gw_c23, goR_o (by decide) (by decide) (by decide)]
theorem Rel_gn {g : HpT} {t l w : Nat → Int32} {y : RsT} (R : Rel n q u tx ty lt g) (ey : ∀ j, j = 4 ∨ j = 6 ∨ j = 8 ∨ j = 10 → y.1 j = g 23 j) : Rel n q u tx ty lt (hs (gwh (va_up (refC g (-3)) 32 t) l w y) 31 1 (refC g (-3) 31 1 + 1)) := by
  refine Rel_no R (fun j h1 h2 h3 h4 h5 => ?_) (fun j hj => ?_) ?_ ?_
  · rw [hs_ne h1, gw_cell (by omega) (by omega) (by omega) (by omega) (by omega), va_up_ne _ _ (by omega), ref_ne h4]
  · rw [hs_ne (by decide), gw_c23]
    exact ey j hj
  · show upd (gwh _ _ _ _ 31) 1 _ = _
    rw [gw_cell (by decide) (by decide) (by decide) (by decide) (by decide), va_up_ne _ _ (by decide), ref_ne (by decide)]
  · rw [hs_ne (by decide), gw_cell (by decide) (by decide) (by decide) (by decide) (by decide), va_up_ne _ _ (by decide), ref_3]
    rfl
theorem tw_search {yc yr : MethodName} {cc cr : ByteArray} {mL dc mR dr : Nat} {av : List Value} {X Y : HpT → Nat → Int32} {k : Nat} (hk : k ≤ 9) (R : Rel n q u tx ty lt h)
    (hc : mc G yc cc mL (some .int) dc (.ref (gad G 0) :: av) h (fun r h2 => ∃ x, r = some (.int x) ∧ ∃ h3, FaR h n lt h3 ∧ ((cobN (h3 12) (k + 1) = none ∧ x = -3 ∧ h2 = refC h3 (-3)) ∨ ∃ b, cobN (h3 12) (k + 1) = some b ∧ x = X h3 b ∧ h2 = h3)))
    (hr : ∀ g, RI n g → TI2 q tx ty g → mc G yr cr mR (some .int) dr (.ref (gad G 23) :: av) g (fun r h2 => ∃ x, r = some (.int x) ∧ ∃ l w, (bbN (goR g n q tx ty).2.1 (k + 1) = none ∧ x = -3 ∧ h2 = hs (gwh (va_up g 32 (rtR g (n * 6))) l w (goR g n q tx ty)) 31 1 (g 31 1 + 1)) ∨ ∃ b, bbN (goR g n q tx ty).2.1 (k + 1) = some b ∧ x = Y g b ∧ h2 = gwh (va_up g 32 (rtR g (n * 6))) l w (goR g n q tx ty)))
    (hXY : ∀ g b, FaR h n lt g → bbN (goR g n q tx ty).2.1 (k + 1) = some b → X g b = Y g b) : twoI G yc cc mL dc yr cr mR dr av h := by
  refine ⟨_, hc, ?_⟩
  rintro r h1 ⟨x, rfl, h3, hf, ⟨hno, rfl, rfl⟩ | ⟨b, hb, rfl, rfl⟩⟩
  · have R3 := Rel_Fa R hf
    have e23 : ∀ k, 23 ≤ k → refC h3 (-3) k = h3 k := fun k hk => ref_ne (by omega)
    rw [both_k R hf (by omega)] at hno
    refine ⟨_, rfl, _, hr _ (RI_ref R3.2.1) (TI_ref R3.2.2.1), ?_⟩
    rintro r2 h2 ⟨x, rfl, l, w, ⟨-, rfl, rfl⟩ | ⟨b, hb, -, -⟩⟩
    · refine ⟨rfl, n, q, u, tx, ty, lt, Rel_gn R3 (fun j hj => ?_)⟩
      rw [goR_class e23, goR_o (by omega) (by omega) (by omega)]
    · rw [goR_class e23, hno] at hb
      cases hb
  · have R3 := Rel_Fa R hf
    rw [both_k R hf (by omega)] at hb
    refine ⟨_, rfl, _, hr _ R3.2.1 R3.2.2.1, ?_⟩
    rintro r2 h2 ⟨x, rfl, l, w, ⟨hno, -, -⟩ | ⟨b2, hb2, rfl, rfl⟩⟩
    · rw [hb] at hno; cases hno
    · rw [hb] at hb2
      injection hb2 with hb2
      subst hb2
      rw [← hXY h1 b hf hb]
      exact ⟨rfl, n, q, u, tx, ty, lt, Rel_gw R3⟩
theorem t_best (hF : Full G) (R : Rel n q u tx ty lt h) (x : Int32) : twoI G yX4_best cX4_best 3 15 yX5_best cX5_best 3 4 [.int x] h := by
  by_cases hv : 0 ≤ x ∧ x ≤ 2
  · obtain ⟨m, hm, rfl⟩ := rgN (m := 2) rfl (by decide) hv
    rcases (show m = 0 ∨ m = 1 ∨ m = 2 by omega) with rfl | rfl | rfl
    · refine tw_search (X := fun g b => g 12 b) (Y := fun g b => (goR g n q tx ty).1 18) (k := 9) (Nat.le_refl 9) R (o0_X4_best hF R.1 (r_lt R)) (fun g h1 h2 => o0_X5_best hF h1 h2) (fun g b hf hb => ?_)
      obtain ⟨b1, b2, b3⟩ := both R hf
      obtain ⟨hb10, hnn⟩ := both_b R hf (by decide) hb
      show g 12 b = (goR g n q tx ty).1 18
      rw [(both_c R hf hb10).1, (b2.2.2.2 b hb10).1, b2.2.1]
      have hmin := (bb_min hb).2
      have h18 : ¬ (sR h n q tx ty).1 18 < 0 := fun z => hnn (by rw [b3.2.2.2.1 ((lt_m1 b3.1).mpr z) b hb10]; exact m1_lt)
      obtain ⟨⟨c, hc, ec⟩, hle⟩ := b3.2.2.2.2 h18
      refine Int32.le_antisymm ?_ (hle b hb10 hnn)
      have := hmin c hc (by rw [(b2.2.2.2 c hc).1, ec]; exact h18)
      rw [(b2.2.2.2 b hb10).1, (b2.2.2.2 c hc).1, ec] at this
      exact this
    · exact tw_search (X := fun g b => nI b) (Y := fun g b => nI b) (k := 9) (Nat.le_refl 9) R (o1_X4_best hF R.1 (r_lt R)) (fun g h1 h2 => o1_X5_best hF h1 h2) (fun g b hf hb => rfl)
    · refine tw_search (X := fun g b => g 11 2) (Y := fun g b => (goR g n q tx ty).1 19) (k := 9) (Nat.le_refl 9) R (o2_X4_best hF R.1 (r_lt R)) (fun g h1 h2 => o2_X5_best hF h1 h2) (fun g b hf hb => ?_)
      obtain ⟨b1, b2, b3⟩ := both R hf
      show g 11 2 = (goR g n q tx ty).1 19
      rw [b2.2.2.1]
      exact b1.2.2.1
  · exact tw_2 R (b_X4_best hF hv) (b_X5_best hF hv)
theorem t_phase (hF : Full G) (R : Rel n q u tx ty lt h) (v : Int32) : twoI G yX4_phase cX4_phase 3 15 yX5_phase cX5_phase 3 4 [.int v] h := by
  by_cases hv : inH n v
  · obtain ⟨i, hi, rfl⟩ := hsN (r_n R) hv
    refine tw_search (X := fun g b => phF (g 13 b) (nI i)) (Y := fun g b => (goR g n q tx ty).2.2 (9 * b + i)) (k := 9) (Nat.le_refl 9) R (o_X4_phase hF R.1 (r_lt R) hi) (fun g h1 h2 => o_X5_phase hF h1 h2 hi) (fun g b hf hb => ?_)
    obtain ⟨b1, b2, b3⟩ := both R hf
    obtain ⟨hb10, hnn⟩ := both_b R hf (by decide) hb
    show phF (g 13 b) (nI i) = (goR g n q tx ty).2.2 (9 * b + i)
    rw [(b2.2.2.2 b hb10).2 hnn i hi]
    exact (b1.2.2.2 b hb10).2 hnn i hi
  · exact tw_2 R (b_X4_phase hF R.1 hv) (b_X5_phase hF (RI_ref R.2.1) hv)
theorem t_by (hF : Full G) (R : Rel n q u tx ty lt h) (x : Int32) : twoI G yX4_by cX4_by 3 15 yX5_by cX5_by 3 4 [.int x] h := by
  by_cases hv : 0 ≤ x ∧ x ≤ 9
  · obtain ⟨m, hm, rfl⟩ := rgN (m := 9) rfl (by decide) hv
    refine tw_search (X := fun g b => g 12 b) (Y := fun g b => (goR g n q tx ty).2.1 b) (k := m) hm R (o_X4_by hF R.1 (r_lt R) hm) (fun g h1 h2 => o_X5_by hF h1 h2 hm) (fun g b hf hb => ?_)
    obtain ⟨hb10, hnn⟩ := both_b R hf (by omega) hb
    exact (both_c R hf hb10).1
  · exact tw_2 R (b_X4_by hF hv) (b_X5_by hF hv)
theorem t_fewest (hF : Full G) (R : Rel n q u tx ty lt h) (x : Int32) : twoI G yX4_fewest cX4_fewest 2 15 yX5_fewest cX5_fewest 3 4 [.int x] h := by
  by_cases hv : x < 0
  · exact tw_2 R (b_X4_fewest hF hv) (b_X5_fewest hF hv)
  · refine ⟨_, c_X4_fewest hF R.1 (r_lt R) hv, ?_⟩
    rintro r g ⟨y, rfl, rfl, hf⟩
    have R3 := Rel_Fa R hf
    refine ⟨_, rfl, _, c_X5_fewest hF R3.2.1 R3.2.2.1 hv, ?_⟩
    rintro r2 h2 ⟨y, rfl, rfl, l, w, rfl⟩
    rw [fw_fw (f := g 12) (g := (goR g n q tx ty).2.1) (fun c hc => both_c R hf hc)]
    exact ⟨rfl, n, q, u, tx, ty, lt, Rel_gw R3⟩
theorem t_many (hF : Full G) (R : Rel n q u tx ty lt h) : twoI G yX4_many cX4_many 1 15 yX5_many cX5_many 1 4 [] h := by
  refine ⟨_, c_X4_many hF R.1 (r_lt R), ?_⟩
  rintro r g ⟨y, rfl, rfl, hf⟩
  have R3 := Rel_Fa R hf
  obtain ⟨b1, b2, b3⟩ := both R hf
  refine ⟨_, rfl, _, c_X5_many hF R3.2.1 R3.2.2.1, ?_⟩
  rintro r2 h2 ⟨y, rfl, rfl, l, w, rfl⟩
  have e : (goR g n q tx ty).1 17 = g 11 11 := by
    rw [b2.1]
    exact b1.1.symm
  rw [e]
  exact ⟨rfl, n, q, u, tx, ty, lt, Rel_gw R3⟩
theorem tt_lay (hF : Full G) (R : Rel n q u tx ty lt h) : twoI G yX4_lay cX4_lay 3 15 yX5_lay cX5_lay 3 4 [] h := by
  have hn := r_n R
  obtain ⟨u1, u2, u3, -⟩ := r_U R
  have hval : ∀ g b, FaR h n lt g → bbN (goR g n q tx ty).2.1 10 = some b → ∀ i, i < n → phF (g 13 b) (nI i) = (goR g n q tx ty).2.2 (9 * b + i) ∧ ∃ p, p < 3 ∧ (goR g n q tx ty).2.2 (9 * b + i) = nI p := by
    intro g b hf hb i hi
    obtain ⟨b1, b2, b3⟩ := both R hf
    obtain ⟨hb10, hnn⟩ := both_b R hf (by decide) hb
    rw [(b2.2.2.2 b hb10).2 hnn i hi]
    exact ⟨(b1.2.2.2 b hb10).2 hnn i hi, b3.2.2.1 b hb10 hnn i hi⟩
  refine ⟨_, c_X4_lay hF R.1 (r_lt R) u1 u2 (fun g hf b hb i hi => by
    rw [both_k R hf (by decide)] at hb
    rw [(hval g b hf hb i hi).1]
    exact (hval g b hf hb i hi).2), ?_⟩
  rintro r h1 ⟨x, rfl, h3, hf, ⟨hno, rfl, rfl⟩ | ⟨b, hb, rfl, rfl⟩⟩
  · have R3 := Rel_Fa R hf
    have e23 : ∀ k, 23 ≤ k → refC h3 (-3) k = h3 k := fun k hk => ref_ne (by omega)
    rw [both_k R hf (by omega)] at hno
    refine ⟨_, rfl, _, c_X5_lay hF (RI_ref R3.2.1) (TI_ref R3.2.2.1) u1 (by rw [e23 23 (by decide)]; exact (r_U R3).2.2.1), ?_⟩
    rintro r2 h2 ⟨x, rfl, l, w, ⟨-, rfl, rfl⟩ | ⟨b, hb, -, -⟩⟩
    · refine ⟨rfl, n, q, u, tx, ty, lt, Rel_gn R3 (fun j hj => ?_)⟩
      rw [goR_class e23, goR_o (by omega) (by omega) (by omega)]
    · rw [goR_class e23, hno] at hb
      cases hb
  · have R3 := Rel_Fa R hf
    obtain ⟨q1, q2, q3, q4, q5⟩ := r_Q R3
    have c4 : h3 4 = h 4 := FaR_cell hf (by decide)
    rw [both_k R hf (by omega)] at hb
    have hv := hval h3 b hf hb
    have e23 : ∀ k, 23 ≤ k → cano n (va_up (phC h3 u n) 4 (lyF (h3 13 b) (h 4) n)) k = h3 k := fun k hk => by rw [cano_cell _ _ (by omega), va_up_ne _ _ (by omega), phC_cell (by omega) (by omega) (by omega)]
    refine ⟨_, rfl, _, c_X5_lay hF (RI_class R3.2.1 e23) (TI_class R3.2.2.1 e23) u1 (by rw [e23 23 (by decide)]; exact (r_U R3).2.2.1), ?_⟩
    rintro r2 h2 ⟨x, rfl, l, w, ⟨hno, -, -⟩ | ⟨b2, hb2, rfl, rfl⟩⟩
    · rw [goR_class e23, hb] at hno; cases hno
    · rw [goR_class e23, hb] at hb2
      injection hb2 with hb2
      subst hb2
      rw [goR_class e23, e23 26 (by decide)]
      refine ⟨rfl, n, q, upN u, tx, ty, lt, ?_⟩
      refine Rel_two (gc := cano n (va_up (phC h3 u n) 4 (lyF (h3 13 b) (h 4) n))) (ph := lyF (h3 13 b) (h 4) n) (ph2 := cpF (h3 26) (fun i => (goR h3 n q tx ty).2.2 (9 * b + i)) n) R3 (fun i hi => ?_) (fun i hi => ?_) (fun i hi => ?_) rfl rfl (fun k h1 h2 h3 h4 h5 h6 => by rw [cano_cell _ _ h3, va_up_ne _ _ h2]) rfl (fun k hk => ?_) (fun k h1 h2 h3 => ?_) (fun j hj => ?_)
      · unfold lyF
        by_cases z : i < n
        · rw [if_pos z, (hv i z).1]; exact (hv i z).2
        · rw [if_neg z]; exact R.1.2.2.2.1 i hi
      · unfold cpF
        by_cases z : i < n
        · rw [if_pos z]; exact (hv i z).2
        · rw [if_neg z]; exact R3.2.1.2.2.2 i hi
      · unfold cpF lyF
        rw [if_pos hi, if_pos hi]
        exact (hv i hi).1.symm
      · rw [va_up_ne _ _ (by omega), keepR_cell (by omega) (by omega), gw_cell (by omega) (by omega) (by omega) (by omega) (by omega), va_up_ne _ _ (by omega)]
      · rw [va_up_ne _ _ h3]
        exact keepR_eq (by rw [gw_cell (by decide) (by decide) (by decide) (by decide) (by decide), va_up_ne _ _ (by decide)]; exact e23 30 (by decide)) (by rw [gw_cell (by decide) (by decide) (by decide) (by decide) (by decide), va_up_ne _ _ (by decide)]; exact e23 26 (by decide)) (by rw [gw_cell (by omega) (by omega) (by omega) (by omega) (by omega), va_up_ne _ _ (by omega)]; exact e23 k (by omega)) (by omega)
      · rw [va_up_ne _ _ (by decide)]
        exact keepR_eq23 (by rw [gw_c23, goR_o (by omega) (by omega) (by omega)])
end OPS7
