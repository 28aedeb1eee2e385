section OPS6
variable {G : GxT} {h : HpT} {n q u : Nat} {tx ty lt : Nat → Nat}
theorem t_next (hF : Full G) (R : Rel n q u tx ty lt h) (x : Int32) : twoI G yX4_next cX4_next 2 6 yX5_next cX5_next 2 4 [.int x] h := by
  obtain ⟨sr, -⟩ := f_SR R
  by_cases hv : 0 ≤ x ∧ x ≤ 3
  · obtain ⟨m, hm, rfl⟩ := rgN (m := 3) rfl (by decide) hv
    rcases sr with ⟨s1, s2⟩ | ⟨s1, s2, s3, s4, s5, s6⟩
    · have e23 : ∀ k, 23 ≤ k → refC (va_up h 20 (fS h n)) (-3) k = h k := fun k hk => by rw [ref_ne (by omega), va_up_ne _ _ (by omega)]
      refine ⟨_, n_X4_next hF R.1 hv s1, fun r g e => ?_⟩
      obtain ⟨rfl, rfl⟩ := e
      refine ⟨_, rfl, _, c_X5_next hF (n := n) (q := q) (RI_class R.2.1 e23) (r_q R) (by rw [e23 23 (by decide)]; exact R.2.2.1.2.1) hm, ?_⟩
      rintro r2 h2 ⟨y, rfl, l, ⟨-, rfl, rfl⟩ | ⟨hy, -, -⟩⟩
      · refine ⟨rfl, n, q, u, tx, ty, lt, Rel_no R (fun j h1 h2 h3 h4 h5 => ?_) (fun j hj => ?_) ?_ ?_⟩
        · rw [hs_ne h1, fd_cell (by omega) (by omega) (by omega) (by omega), ref_ne h4]
          exact va_up_ne _ _ h5
        · rw [hs_ne (by decide), fd_cell (by decide) (by decide) (by decide) (by decide), e23 23 (by decide)]
        · show upd (fdh _ _ _ _ 31) 1 _ = _
          rw [fd_cell (by decide) (by decide) (by decide) (by decide), e23 31 (by decide)]
        · rw [hs_ne (by decide), fd_cell (by decide) (by decide) (by decide) (by decide), ref_3]
          rfl
      · rw [fR_class e23] at hy
        exact absurd s2 hy
    · have e23 : ∀ k, 23 ≤ k → va_up h 20 (fS h n) k = h k := fun k hk => va_up_ne _ _ (by omega)
      have hl : ¬ fS h n 0 = 0 := by rw [s1]; decide
      have fin : ∀ y, y = fR h n q m → mci G yX4_next cX4_next 2 (some .int) 6 [.ref (gad G 0), .int (nI m)] h y (va_up h 20 (fS h n)) → twoI G yX4_next cX4_next 2 6 yX5_next cX5_next 2 4 [.int (nI m)] h := by
        intro y ey hc
        refine ⟨_, hc, fun r g e => ?_⟩
        obtain ⟨rfl, rfl⟩ := e
        refine ⟨_, rfl, _, c_X5_next hF (n := n) (q := q) (RI_class R.2.1 e23) (r_q R) (by rw [e23 23 (by decide)]; exact R.2.2.1.2.1) hm, ?_⟩
        rintro r2 h2 ⟨y2, rfl, l, ⟨hno, -, -⟩ | ⟨-, rfl, rfl⟩⟩
        · rw [fR_class e23] at hno
          exact absurd hno s2
        · rw [fR_class e23, ← ey]
          exact ⟨rfl, n, q, u, tx, ty, lt, Rel_fd (Rel_20 R)⟩
      rcases (show m = 0 ∨ m = 1 ∨ m = 2 ∨ m = 3 by omega) with rfl | rfl | rfl | rfl
      · exact fin _ s3 (o0_X4_next hF R.1 hl)
      · exact fin _ s4 (o1_X4_next hF R.1 hl)
      · exact fin _ s5 (o2_X4_next hF R.1 hl)
      · exact fin _ s6 (o3_X4_next hF R.1 hl)
  · exact tw_2 R (b_X4_next hF hv) (b_X5_next hF hv)
theorem dn_rgP {so sz w a b fr fq : Nat → Int32} {fu : Int32} {f g : StF} (hn : n ≤ 9) (hT : TB (tkf so sz) n) (hw : WB w) (hf : bz 400 fu) (hab : agr n a b) (hfr : agr n fr fq) (hb : rg9 b) (ha : rg9 a) : ∀ j, (∀ i, i < j → lsQ so sz w n (dnR so sz w fu fq n b g i)) → rg9 (dnP so sz w fu fr n a f j).1
  | 0, _ => ha
  | j + 1, hl => by
    obtain ⟨i1, i2, i3, -⟩ := dn_lock (f := f) hn hT hw hf hab hfr hb j (fun i hi => hl i (by omega))
    have hj := hl j (by omega)
    exact nsF_rg hn (dn_rgP hn hT hw hf hab hfr hb ha j (fun i hi => hl i (by omega))) (FV_of i2 hj.1 (i3 hj.1).1)
theorem hpC20 {f : Nat → Int32} : ∀ k, k ≠ 20 → phC (va_up h 20 f) u n k = phC h u n k := by
  intro k hk
  by_cases k11 : k = 11
  · subst k11
    show upd (keepC (va_up h 20 f) u _ 11) 13 0 = upd (keepC h u _ 11) 13 0
    rw [keep_cell (by decide) (by decide), keep_cell (by decide) (by decide)]
    rfl
  · by_cases k21 : k = 21
    · subst k21
      show keepC (va_up h 20 f) u (packF (h 4) n) 21 = keepC h u (packF (h 4) n) 21
      unfold keepC
      split <;> rfl
    · by_cases k22 : k = 22
      · subst k22
        rw [pC_22, pC_22]
        rfl
      · rw [phC_cell k21 k22 k11, phC_cell k21 k22 k11, va_up_ne _ _ hk]
theorem dnR_class {g : HpT} (e : ∀ k, 23 ≤ k → g k = h k) : dnR (g 24) (g 25) (g 28) (g 23 6) (frR g q) n (g 26) (g 37) = dnR (h 24) (h 25) (h 28) (h 23 6) (frR h q) n (h 26) (h 37) := by
  unfold frR tdR
  rw [e 24 (by decide), e 25 (by decide), e 28 (by decide), e 23 (by decide), e 26 (by decide), e 27 (by decide), e 29 (by decide), e 37 (by decide)]
theorem t_down (hF : Full G) (R : Rel n q u tx ty lt h) : twoI G yX4_down cX4_down 2 6 yX5_down cX5_down 2 5 [] h := by
  have hn := r_n R
  obtain ⟨q1, q2, q3, q4, q5⟩ := r_Q R
  obtain ⟨u1, u2, u3, -⟩ := r_U R
  have hT := r_TB R
  have hw := (r_G R).2.1
  have hf := r_fu R
  have hfr := fr_eq R
  obtain ⟨m, hm, hz, hl⟩ := dn_end (so := h 2) (sz := h 3) (w := h 9) (b := h 26) (fu := h 1 11) (g := h 37) hn hT hw hf hfr R.2.1.2.2.2
  have lk := fun j (hj : j ≤ m) => dn_lock (a := h 4) (b := h 26) (f := h 20) (g := h 37) hn hT hw hf (agr_sym q5) hfr R.2.1.2.2.2 j (fun i hi => hl i (by omega))
  have rgP : rg9 (dnP (h 2) (h 3) (h 9) (h 1 11) (frC h n) n (h 4) (h 20) m).1 := dn_rgP (g := h 37) hn hT hw hf (agr_sym q5) hfr R.2.1.2.2.2 R.1.2.2.2.1 m hl
  have clP : ∀ j, j < m → lsP (h 2) (h 3) (h 9) n (dnP (h 2) (h 3) (h 9) (h 1 11) (frC h n) n (h 4) (h 20) j) := fun j hj => (ls_iff (lk j (by omega)).1 (lk j (by omega)).2.1).mpr (hl j hj)
  have czP : ¬ lsP (h 2) (h 3) (h 9) n (dnP (h 2) (h 3) (h 9) (h 1 11) (frC h n) n (h 4) (h 20) m) := fun z => hz ((ls_iff (lk m (Nat.le_refl m)).1 (lk m (Nat.le_refl m)).2.1).mp z)
  have cfP : ∀ j, j < m → FV n (dnP (h 2) (h 3) (h 9) (h 1 11) (frC h n) n (h 4) (h 20) j).2 := fun j hj => FV_of (lk j (by omega)).2.1 (hl j hj).1 ((lk j (by omega)).2.2.1 (hl j hj).1).1
  have hc := c_X4_down hF R.1 u1 u2 hm clP czP cfP
  have fvR : ∀ j, j < m → FVr n (dnR (h 2) (h 3) (h 9) (h 1 11) (frR h q) n (h 26) (h 37) j).2 := fun j hj => ((lk j (by omega)).2.2.1 (hl j hj).1).1
  have agm := (lk m (Nat.le_refl m)).1
  have rgR := (lk m (Nat.le_refl m)).2.2.2
  have refc : ∀ g : HpT, (∀ k, 23 ≤ k → g k = h k) → mc G yX5_down cX5_down 2 (some .int) 5 [.ref (gad G 23)] g _ := fun g e23 => c_X5_down (h := g) (n := n) (q := q) (u := u) (m := m) hF (RI_class R.2.1 e23) (r_q R) (by rw [e23 23 (by decide)]; exact R.2.2.1.2.1) u1 (by rw [e23 23 (by decide)]; exact u3) hm (by rw [dnR_class e23, e23 24 (by decide), e23 25 (by decide), e23 28 (by decide), q1, q2, q4, (r_P R).1]; exact hl) (by rw [dnR_class e23, e23 24 (by decide), e23 25 (by decide), e23 28 (by decide), q1, q2, q4, (r_P R).1]; exact hz) (by rw [dnR_class e23, q1, q2, q4, (r_P R).1]; exact fvR)
  refine ⟨_, hc, fun r g e => ?_⟩
  obtain ⟨rfl, rfl⟩ := e
  by_cases m0 : m = 0
  · rw [if_pos m0]
    have e23 : ∀ k, 23 ≤ k → va_up h 20 (dnP (h 2) (h 3) (h 9) (h 1 11) (frC h n) n (h 4) (h 20) 0).2 k = h k := fun k hk => va_up_ne _ _ (by omega)
    refine ⟨_, rfl, _, refc _ e23, ?_⟩
    rintro r2 h2 ⟨rfl, ⟨-, t, nw, l, rfl⟩ | ⟨hpos, -⟩⟩
    · refine ⟨rfl, n, q, u, tx, ty, lt, Rel_q (Rel_20 (f := (dnP (h 2) (h 3) (h 9) (h 1 11) (frC h n) n (h 4) (h 20) 0).2) R) (fun k hk => ?_) ?_ ?_ ?_ ?_⟩
      · by_cases e : k = 26
        · subst e
          unfold rdh
          rw [va_up_ne _ _ (by decide), va_up_ne _ _ (by decide), va_up_ne _ _ (by decide), va_up_ne _ _ (by decide), va_up_self]
        · exact rd_cell e (by omega) (by omega) (by omega) (by omega)
      · rw [rd_cell (by decide) (by decide) (by decide) (by decide) (by decide)]
      · rw [rd_cell (by decide) (by decide) (by decide) (by decide) (by decide)]
      · rw [rd_cell (by decide) (by decide) (by decide) (by decide) (by decide)]
      · rw [rd_cell (by decide) (by decide) (by decide) (by decide) (by decide)]
    · exact absurd hpos (by omega)
  · rw [if_neg m0]
    have e23 : ∀ k, 23 ≤ k → stt n (phC (va_up h 20 (dnP (h 2) (h 3) (h 9) (h 1 11) (frC h n) n (h 4) (h 20) 0).2) u n) (dnP (h 2) (h 3) (h 9) (h 1 11) (frC h n) n (h 4) (h 20) m).2 (dnP (h 2) (h 3) (h 9) (h 1 11) (frC h n) n (h 4) (h 20) m).1 k = h k := fun k hk => by
      unfold stt
      rw [cano_cell _ _ (by omega), va_up_ne _ _ (by omega), va_up_ne _ _ (by omega), hpC20 k (by omega), phC_cell (by omega) (by omega) (by omega)]
    refine ⟨_, rfl, _, refc _ e23, ?_⟩
    rintro r2 h2 ⟨rfl, ⟨hm0, -⟩ | ⟨-, t, nw, l, t2, nw2, l2, rfl⟩⟩
    · exact absurd hm0 m0
    · rw [dnR_class e23, e23 26 (by decide), q1, q2, q4, (r_P R).1]
      refine ⟨rfl, n, q, upN u, tx, ty, lt, ?_⟩
      generalize hgc : stt n (phC (va_up h 20 (dnP (h 2) (h 3) (h 9) (h 1 11) (frC h n) n (h 4) (h 20) 0).2) u n) (dnP (h 2) (h 3) (h 9) (h 1 11) (frC h n) n (h 4) (h 20) m).2 (dnP (h 2) (h 3) (h 9) (h 1 11) (frC h n) n (h 4) (h 20) m).1 = gc at e23 ⊢
      refine Rel_two (gc := gc) (ph := (dnP (h 2) (h 3) (h 9) (h 1 11) (frC h n) n (h 4) (h 20) m).1) (ph2 := (dnR (h 2) (h 3) (h 9) (h 1 11) (frR h q) n (h 26) (h 37) m).1) R rgP rgR (agr_sym agm) ?_ ?_ (fun k h1 h2 h3 h4 h5 h6 => ?_) ?_ (fun k hk => ?_) (fun k h1 h2 h3 => ?_) (fun j hj => ?_)
      · rw [← hgc]; rfl
      · rw [← hgc]
        show ldH n (va_up (va_up (phC (va_up h 20 _) u n) 20 _) 4 _) = ldH n (va_up (phC h u n) 4 _)
        unfold ldH
        rw [va_up_ne _ _ (show (2 : Nat) ≠ 4 by decide), va_up_ne _ _ (show (3 : Nat) ≠ 4 by decide), va_up_ne _ _ (show (10 : Nat) ≠ 4 by decide), va_up_ne _ _ (show (2 : Nat) ≠ 20 by decide), va_up_ne _ _ (show (3 : Nat) ≠ 20 by decide), va_up_ne _ _ (show (10 : Nat) ≠ 20 by decide), va_up_ne _ _ (show (2 : Nat) ≠ 4 by decide), va_up_ne _ _ (show (3 : Nat) ≠ 4 by decide), va_up_ne _ _ (show (10 : Nat) ≠ 4 by decide), va_up_self, va_up_self, hpC20 2 (by decide), hpC20 3 (by decide), hpC20 10 (by decide)]
      · rw [← hgc]
        unfold stt
        rw [cano_cell _ _ h3, va_up_ne _ _ h2, va_up_ne _ _ h4, hpC20 k h4]
      · unfold rdh
        rw [va_up_ne _ _ (by decide), va_up_ne _ _ (by decide), va_up_ne _ _ (by decide), va_up_ne _ _ (by decide), va_up_self]
      · rw [rd_cell (by omega) (by omega) (by omega) (by omega) (by omega), keepR_cell (by omega) (by omega), rd_cell (by omega) (by omega) (by omega) (by omega) (by omega)]
      · have z26 : rdh gc (h 26) t nw l (dnR (h 2) (h 3) (h 9) (h 1 11) (frR h q) n (h 26) (h 37) 0).2 26 = h 26 := by
          unfold rdh
          rw [va_up_ne _ _ (by decide), va_up_ne _ _ (by decide), va_up_ne _ _ (by decide), va_up_ne _ _ (by decide), va_up_self]
        rw [rd_cell h3 (by omega) (by omega) (by omega) (by omega)]
        exact keepR_eq (by rw [rd_cell (by decide) (by decide) (by decide) (by decide) (by decide)]; exact e23 30 (by decide)) z26 (by rw [rd_cell h3 (by omega) (by omega) (by omega) (by omega)]; exact e23 k (by omega)) (by omega)
      · rw [rd_cell (by decide) (by decide) (by decide) (by decide) (by decide)]
        exact keepR_eq23 (by rw [rd_cell (by decide) (by decide) (by decide) (by decide) (by decide), e23 23 (by decide)])
end OPS6
