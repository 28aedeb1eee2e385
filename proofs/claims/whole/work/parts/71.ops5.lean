section OPS5
variable {G : GxT} {h : HpT} {n q u : Nat} {tx ty lt : Nat → Nat}
theorem fr_eq (R : Rel n q u tx ty lt h) : agr n (frC h n) (frR h q) := by
  intro i hi
  have hn := r_n R
  have li := ((r_L R).1 i hi).1
  unfold frC frR
  refine bP_iff ?_
  rw [(r_Q R).2.2.1]
  have key : (∃ j, j < n ∧ j ≠ i ∧ h 6 j = h 6 i) ↔ tdR h q i := by
    have e1 : (∃ j, j < n ∧ j ≠ i ∧ h 6 j = h 6 i) ↔ (∃ j, j < n ∧ j ≠ i ∧ lt j = lt i) := by
      constructor
      · rintro ⟨j, hj, hji, e⟩
        have lj := ((r_L R).1 j hj).1
        rw [R.2.2.2.2.1 j hj, R.2.2.2.2.1 i hi] at e
        exact ⟨j, hj, hji, (nI_eqs (by omega) (by omega)).mp e⟩
      · rintro ⟨j, hj, hji, e⟩
        exact ⟨j, hj, hji, by rw [R.2.2.2.2.1 j hj, R.2.2.2.2.1 i hi, e]⟩
    rw [e1, tied_iff hn (r_L R) hi]
    unfold tdR
    constructor
    · rintro ⟨k, hk, hd⟩
      obtain ⟨a1, a2, a3, a4⟩ := R.2.2.1.2.2 k hk
      rcases hd with rfl | rfl
      · exact ⟨2 * k, by omega, a3⟩
      · exact ⟨2 * k + 1, by omega, a4⟩
    · rintro ⟨k, hk, e⟩
      obtain ⟨a1, a2, a3, a4⟩ := R.2.2.1.2.2 (k / 2) (by omega)
      rcases (show k = 2 * (k / 2) ∨ k = 2 * (k / 2) + 1 by omega) with z | z
      · rw [z, a3] at e
        exact ⟨k / 2, by omega, Or.inl ((nI_eqs (by omega) (by omega)).mp e)⟩
      · rw [z, a4] at e
        exact ⟨k / 2, by omega, Or.inr ((nI_eqs (by omega) (by omega)).mp e)⟩
  rw [← key]
  constructor
  · rintro ⟨a, b⟩
    exact ⟨a, fun ⟨j, hj, z⟩ => b j hj z⟩
  · rintro ⟨a, b⟩
    exact ⟨a, fun j hj z => b ⟨j, hj, z⟩⟩
theorem f_SR (R : Rel n q u tx ty lt h) : SR (fS h n) (fR h n q) ∧ VI n (h 2) (h 3) (h 9) (h 26) (fR h n q) := by
  obtain ⟨q1, q2, q3, q4, q5⟩ := r_Q R
  unfold fS fR
  rw [q1, q2, q4, (r_P R).1]
  exact fd_SR (r_n R) (r_TB R) (r_G R).2.1 (r_fu R) (agr_sym q5) (fr_eq R) _ _
theorem fR_class {g : HpT} (e : ∀ k, 23 ≤ k → g k = h k) : fR g n q = fR h n q := by
  unfold fR frR tdR
  rw [e 24 (by decide), e 25 (by decide), e 28 (by decide), e 23 (by decide), e 26 (by decide), e 27 (by decide), e 29 (by decide), e 37 (by decide)]
theorem lsR_class {g : HpT} (e : ∀ k, 23 ≤ k → g k = h k) : lsR g n q ↔ lsR h n q := by
  unfold lsR
  rw [fR_class e, e 24 (by decide), e 25 (by decide), e 28 (by decide), e 26 (by decide)]
theorem ls_two (R : Rel n q u tx ty lt h) : (fS h n 0 ≠ 0 ∧ fS h n 1 < grC h) ↔ lsR h n q := by
  obtain ⟨q1, q2, q3, q4, q5⟩ := r_Q R
  unfold lsR
  rw [grC_V R.1.2.2.2.2, q1, q2, q4, grV_agr (agr_sym q5)]
  rcases (f_SR R).1 with ⟨h1, h2⟩ | ⟨h1, h2, h3, -⟩
  · exact ⟨fun z => absurd h1 z.1, fun z => absurd h2 z.1⟩
  · rw [h1, h3]
    exact ⟨fun z => ⟨h2, z.2⟩, fun z => ⟨by decide, z.2⟩⟩
theorem Rel_20 {f : Nat → Int32} (R : Rel n q u tx ty lt h) : Rel n q u tx ty lt (va_up h 20 f) := Rel_q R (fun k hk => va_up_ne _ _ (by omega)) rfl rfl rfl rfl
theorem fd_cell {g : HpT} {t l nw f : Nat → Int32} {k : Nat} (h1 : k ≠ 32) (h2 : k ≠ 33) (h3 : k ≠ 34) (h4 : k ≠ 37) : fdh (va_up g 32 t) l nw f k = g k := by
  unfold fdh
  rw [va_up_ne _ _ h4, va_up_ne _ _ h3, va_up_ne _ _ h2, va_up_ne _ _ h1]
theorem Rel_fd {g : HpT} {t l nw f : Nat → Int32} (R : Rel n q u tx ty lt g) : Rel n q u tx ty lt (fdh (va_up g 32 t) l nw f) := Rel_q R (fun k hk => fd_cell (by omega) (by omega) (by omega) (by omega)) rfl rfl rfl rfl
theorem Rel_no {g : HpT} (R : Rel n q u tx ty lt g) {k : HpT} (e : ∀ j, j ≠ 31 → j ≤ 31 → j ≠ 23 → j ≠ 0 → j ≠ 20 → k j = g j) (e23 : ∀ j, j = 4 ∨ j = 6 ∨ j = 8 ∨ j = 10 → k 23 j = g 23 j) (e31 : k 31 = upd (g 31) 1 (g 31 1 + 1)) (e0 : k 0 = upd (g 0) 5 (g 0 5 + 1)) : Rel n q u tx ty lt k := by
  have R2 := Rel_ref R (k := 1) (by decide)
  refine Rel_q R2 (fun j hj => ?_) (e23 4 (by omega)) (e23 6 (by omega)) (e23 8 (by omega)) (e23 10 (by omega))
  by_cases h1 : j = 31
  · subst h1; rw [e31]; rfl
  · by_cases h2 : j = 0
    · subst h2; rw [e0]; rfl
    · rw [e j h1 (by omega) (by omega) h2 (by omega), hs_ne h1, hs_ne h2]
theorem t_step (hF : Full G) (R : Rel n q u tx ty lt h) : twoI G yX4_step cX4_step 1 6 yX5_step cX5_step 1 5 [] h := by
  have hn := r_n R
  obtain ⟨q1, q2, q3, q4, q5⟩ := r_Q R
  obtain ⟨u1, u2, u3, -⟩ := r_U R
  obtain ⟨sr, vi⟩ := f_SR R
  by_cases hl : lsR h n q
  · have hv := vi hl.1
    have hlc := (ls_two R).mpr hl
    have c4 : phC (va_up h 20 (fS h n)) u n 4 = h 4 := phC_cell (by decide) (by decide) (by decide)
    have hpC : ∀ k, k ≠ 20 → phC (va_up h 20 (fS h n)) u n k = phC h u n k := by
      intro k hk
      by_cases k11 : k = 11
      · subst k11
        show upd (keepC (va_up h 20 (fS h n)) u _ 11) 13 0 = upd (keepC h u _ 11) 13 0
        rw [keep_cell (by decide) (by decide), keep_cell (by decide) (by decide)]
        rfl
      · by_cases k21 : k = 21
        · subst k21
          show keepC (va_up h 20 (fS h n)) u (packF (h 4) n) 21 = keepC h u (packF (h 4) n) 21
          unfold keepC
          split <;> rfl
        · by_cases k22 : k = 22
          · subst k22
            rw [pC_22, pC_22]
            rfl
          · rw [phC_cell k21 k22 k11, phC_cell k21 k22 k11, va_up_ne _ _ hk]
    -- both kinds of step end alike
    have fin : ∀ (ph : Nat → Int32), (∀ i, i < 9 → ∃ p, p < 3 ∧ ph i = nI p) → agr n (nsR (h 26) (fR h n q)) ph → mci G yX4_step cX4_step 1 (some .int) 6 [.ref (gad G 0)] h (grC (cano n (va_up (phC (va_up h 20 (fS h n)) u n) 4 ph))) (cano n (va_up (phC (va_up h 20 (fS h n)) u n) 4 ph)) → twoI G yX4_step cX4_step 1 6 yX5_step cX5_step 1 5 [] h := by
      intro ph hph hab hc
      have e23 : ∀ k, 23 ≤ k → cano n (va_up (phC (va_up h 20 (fS h n)) u n) 4 ph) k = h k := fun k hk => by rw [cano_cell _ _ (by omega), va_up_ne _ _ (by omega), hpC k (by omega), phC_cell (by omega) (by omega) (by omega)]
      have egr : grC (cano n (va_up (phC (va_up h 20 (fS h n)) u n) 4 ph)) = fR h n q 0 := by
        have s1 : SI n (cano n (va_up (phC (va_up h 20 (fS h n)) u n) 4 ph)) := SI_ph (SI_phC (SI_20 R.1)) hph
        rw [grC_V s1.2.2.2.2, hv.2]
        have c2 : cano n (va_up (phC (va_up h 20 (fS h n)) u n) 4 ph) 2 = h 2 := by rw [cano_cell _ _ (by decide), va_up_ne _ _ (by decide), hpC 2 (by decide), phC_cell (by decide) (by decide) (by decide)]
        have c3 : cano n (va_up (phC (va_up h 20 (fS h n)) u n) 4 ph) 3 = h 3 := by rw [cano_cell _ _ (by decide), va_up_ne _ _ (by decide), hpC 3 (by decide), phC_cell (by decide) (by decide) (by decide)]
        have c9 : cano n (va_up (phC (va_up h 20 (fS h n)) u n) 4 ph) 9 = h 9 := by rw [cano_cell _ _ (by decide), va_up_ne _ _ (by decide), hpC 9 (by decide), phC_cell (by decide) (by decide) (by decide)]
        have c4' : cano n (va_up (phC (va_up h 20 (fS h n)) u n) 4 ph) 4 = ph := rfl
        rw [c2, c3, c9, c4']
        exact (grV_agr hab).symm
      refine ⟨_, hc, fun r g e => ?_⟩
      obtain ⟨rfl, rfl⟩ := e
      refine ⟨_, rfl, _, c_X5_step hF (n := n) (q := q) (u := u) (RI_class R.2.1 e23) (r_q R) (by rw [e23 23 (by decide)]; exact R.2.2.1.2.1) u1 (by rw [e23 23 (by decide)]; exact u3) (fun _ => by rw [fR_class e23]; exact hv.1), ?_⟩
      rintro r2 h2 ⟨x, rfl, l, ⟨hno, -, -⟩ | ⟨-, rfl, rfl⟩⟩
      · exact absurd ((lsR_class e23).mpr hl) hno
      · rw [fR_class e23, egr, e23 26 (by decide)]
        refine ⟨rfl, n, q, upN u, tx, ty, lt, ?_⟩
        refine Rel_two (gc := cano n (va_up (phC (va_up h 20 (fS h n)) u n) 4 ph)) R hph (nsR_rg hn R.2.1.2.2.2 hv.1) hab rfl ?_ (fun k h1 h2 h3 h4 h5 h6 => by rw [cano_cell _ _ h3, va_up_ne _ _ h2, hpC k h4]) rfl (fun k hk => by rw [va_up_ne _ _ (by omega), keepR_cell (by omega) (by omega), fd_cell (by omega) (by omega) (by omega) (by omega)]) (fun k h1 h2 h3 => ?_) (fun j hj => ?_)
        · show ldH n (va_up (phC (va_up h 20 (fS h n)) u n) 4 ph) = ldH n (va_up (phC h u n) 4 ph)
          unfold ldH
          rw [va_up_ne _ _ (show (2 : Nat) ≠ 4 by decide), va_up_ne _ _ (show (3 : Nat) ≠ 4 by decide), va_up_ne _ _ (show (10 : Nat) ≠ 4 by decide), va_up_ne _ _ (show (2 : Nat) ≠ 4 by decide), va_up_ne _ _ (show (3 : Nat) ≠ 4 by decide), va_up_ne _ _ (show (10 : Nat) ≠ 4 by decide), va_up_self, va_up_self, hpC 2 (by decide), hpC 3 (by decide), hpC 10 (by decide)]
        · rw [va_up_ne _ _ h3]
          exact keepR_eq (by rw [fd_cell (by decide) (by decide) (by decide) (by decide)]; exact e23 30 (by decide)) (by rw [fd_cell (by decide) (by decide) (by decide) (by decide)]; exact e23 26 (by decide)) (by rw [fd_cell (by omega) (by omega) (by omega) (by omega)]; exact e23 k (by omega)) (by omega)
        · rw [va_up_ne _ _ (by decide)]
          exact keepR_eq23 (by rw [fd_cell (by decide) (by decide) (by decide) (by decide), e23 23 (by decide)])
    rcases sr with ⟨s1, s2⟩ | ⟨s1, s2, s3, s4, s5, s6⟩
    · exact absurd s2 hl.1
    · rcases hv.1 with ⟨k0, i, p, hi, hp, e3, e4⟩ | ⟨k0, i, o, hi, ho, e3, e4⟩
      · have hns : nsR (h 26) (fR h n q) = upd (h 26) i (nI p) := by unfold nsR; rw [if_pos k0, e3, e4, nI_clamp (by omega)]
        have hc := o0_X4_step hF R.1 hlc u1 u2 (by rw [s4]; exact k0) hi hp (by rw [s5]; exact e3) (by rw [s6]; exact e4)
        have eh : hs (phC (va_up h 20 (fS h n)) u n) 4 i (nI p) = va_up (phC (va_up h 20 (fS h n)) u n) 4 (upd (h 4) i (nI p)) := by unfold hs; rw [c4]
        rw [eh] at hc
        exact fin (upd (h 4) i (nI p)) (upd_rg hp R.1.2.2.2.1) (by rw [hns]; exact agr_upd q5) hc
      · have hns : nsR (h 26) (fR h n q) = swp (h 26) i o := by unfold nsR; rw [if_neg k0, e3, e4, nI_clamp (by omega), nI_clamp (by omega)]
        have hc := o1_X4_step hF R.1 hlc u1 u2 (by rw [s4]; exact k0) hi ho (by rw [s5]; exact e3) (by rw [s6]; exact e4)
        exact fin (swp (h 4) i o) (swp_rg (by omega) (by omega) R.1.2.2.2.1) (by rw [hns]; exact agr_swp hi ho q5) hc
  · have e23 : ∀ k, 23 ≤ k → refC (va_up h 20 (fS h n)) (-3) k = h k := fun k hk => by rw [ref_ne (by omega), va_up_ne _ _ (by omega)]
    refine ⟨_, n_X4_step hF R.1 (fun z => hl ((ls_two R).mp z)), fun r g e => ?_⟩
    obtain ⟨rfl, rfl⟩ := e
    refine ⟨_, rfl, _, c_X5_step hF (n := n) (q := q) (u := u) (RI_class R.2.1 e23) (r_q R) (by rw [e23 23 (by decide)]; exact R.2.2.1.2.1) u1 (by rw [e23 23 (by decide)]; exact u3) (fun z => absurd ((lsR_class e23).mp z) hl), ?_⟩
    rintro r2 h2 ⟨x, rfl, l, ⟨-, rfl, rfl⟩ | ⟨hy, -, -⟩⟩
    · refine ⟨rfl, n, q, u, tx, ty, lt, Rel_no R (fun j h1 h2 h3 h4 h5 => ?_) (fun j hj => ?_) ?_ ?_⟩
      · rw [hs_ne h1, fd_cell (by omega) (by omega) (by omega) (by omega), ref_ne h4]
        exact va_up_ne _ _ h5
      · rw [hs_ne (by decide), fd_cell (by decide) (by decide) (by decide) (by decide), e23 23 (by decide)]
      · show upd (fdh _ _ _ _ 31) 1 _ = _
        rw [fd_cell (by decide) (by decide) (by decide) (by decide), e23 31 (by decide)]
      · rw [hs_ne (by decide), fd_cell (by decide) (by decide) (by decide) (by decide), ref_3]
        rfl
    · exact absurd ((lsR_class e23).mp hy) hl
end OPS5
