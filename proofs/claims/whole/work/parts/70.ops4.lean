theorem kR_30 (h : HpT) (u : Nat) : keepR h u 30 = if u < 8 then pcF (h 30) u (h 26) 9 else pcF (shF (h 30) 63) 7 (h 26) 9 := by
  unfold keepR
  split
  · rfl
  · rfl
theorem kR_10 (h : HpT) (u : Nat) : keepR h u 23 10 = if u < 8 then nI (u + 1) else 8 := by
  unfold keepR
  split
  · rfl
  · rfl
theorem pC_22 (h : HpT) (u n : Nat) : phC h u n 22 = if u < 8 then upd (h 22) u (packF (h 4) n) else upd (va_cpy (h 22) (h 22) 1 0 7) 7 (packF (h 4) n) := by
  unfold phC keepC
  split
  · rfl
  · rfl
theorem pC_21 (h : HpT) (u n : Nat) : phC h u n 21 0 = if u < 8 then nI (u + 1) else 8 := by
  unfold phC keepC
  split
  · rfl
  · rfl
def upN (u : Nat) : Nat := if u < 8 then u + 1 else 8
theorem RU_D {n u : Nat} {h g : HpT} (hn : n ≤ 9) (U : RU n u h) (hr : ∀ i, i < 9 → ∃ p, p < 3 ∧ h 26 i = nI p) (hab : agr n (h 26) (h 4)) (e22 : g 22 = if u < 8 then upd (h 22) u (packF (h 4) n) else upd (va_cpy (h 22) (h 22) 1 0 7) 7 (packF (h 4) n)) (e21 : g 21 0 = if u < 8 then nI (u + 1) else 8) (e30 : g 30 = if u < 8 then pcF (h 30) u (h 26) 9 else pcF (shF (h 30) 63) 7 (h 26) 9) (e10 : g 23 10 = if u < 8 then nI (u + 1) else 8) : RU n (upN u) g := by
  obtain ⟨u1, u2, u3, u4⟩ := U
  have hp4 : ∀ i, i < n → ∃ p, p < 3 ∧ h 4 i = nI p := fun i hi => by rw [← hab i hi]; exact hr i (by omega)
  unfold upN
  by_cases hu : u < 8
  · rw [if_pos hu] at e22 e21 e30 e10 ⊢
    refine ⟨by omega, e21, e10, fun j hj => ?_⟩
    rw [e22, e30]
    by_cases e : j = u
    · subst e
      refine ⟨fun i hi => ?_, fun i hi => ?_⟩
      · rw [pcF_same (by omega), pk_us, ph_pack hn hp4 hi]; exact hab i hi
      · rw [pcF_same hi]; exact hr i hi
    · obtain ⟨a, b⟩ := u4 j (by omega)
      refine ⟨fun i hi => ?_, fun i hi => ?_⟩
      · rw [pcF_other (Nat.le_refl 9) (by omega) e, pk_un e]; exact a i hi
      · rw [pcF_other (Nat.le_refl 9) hi e]; exact b i hi
  · rw [if_neg hu] at e22 e21 e30 e10 ⊢
    refine ⟨by omega, e21, e10, fun j hj => ?_⟩
    rw [e22, e30]
    by_cases e : j = 7
    · subst e
      refine ⟨fun i hi => ?_, fun i hi => ?_⟩
      · rw [pcF_same (by omega), pk_us, ph_pack hn hp4 hi]; exact hab i hi
      · rw [pcF_same hi]; exact hr i hi
    · obtain ⟨a, b⟩ := u4 (j + 1) (by omega)
      refine ⟨fun i hi => ?_, fun i hi => ?_⟩
      · rw [pcF_other (Nat.le_refl 9) (by omega) e, pk_un e]
        unfold shF va_cpy
        rw [if_pos (by omega), if_pos (by omega), show 9 * j + i + 9 = 9 * (j + 1) + i by omega, show 1 + (j - 0) = j + 1 by omega]
        exact a i hi
      · rw [pcF_other (Nat.le_refl 9) hi e]
        unfold shF
        rw [if_pos (by omega), show 9 * j + i + 9 = 9 * (j + 1) + i by omega]
        exact b i hi
/-- behind a call told D -/
theorem Rel_D {n q u : Nat} {tx ty lt : Nat → Nat} {h g : HpT} (R : Rel n q u tx ty lt h) (s1 : SI n g) (hr : ∀ i, i < 9 → ∃ p, p < 3 ∧ g 26 i = nI p) (hab : agr n (g 26) (g 4)) (hk : ∀ k, k ≤ 3 ∨ (5 ≤ k ∧ k ≤ 9) ∨ k = 18 ∨ k = 24 ∨ k = 25 ∨ (27 ≤ k ∧ k ≤ 29) ∨ k = 31 → g k = h k) (h4 : g 23 4 = h 23 4) (h6 : g 23 6 = h 23 6) (h8 : g 23 8 = h 23 8) (e22 : g 22 = if u < 8 then upd (h 22) u (packF (h 4) n) else upd (va_cpy (h 22) (h 22) 1 0 7) 7 (packF (h 4) n)) (e21 : g 21 0 = if u < 8 then nI (u + 1) else 8) (e30 : g 30 = if u < 8 then pcF (h 30) u (h 26) 9 else pcF (shF (h 30) 63) 7 (h 26) 9) (e10 : g 23 10 = if u < 8 then nI (u + 1) else 8) (d11 : g 11 13 = 0) : Rel n q (upN u) tx ty lt g := by
  obtain ⟨q1, q2, q3, q4, q5⟩ := r_Q R
  refine ⟨s1, ⟨R.2.1.1, ?_, ?_, hr⟩, ?_, r_L R, ?_, ⟨?_, ?_, ?_, ?_, hab⟩, ?_, RU_D (r_n R) (r_U R) R.2.1.2.2.2 q5 e22 e21 e30 e10, ?_, ?_, ?_, fun y => absurd d11 y⟩
  · rw [h4]; exact R.2.1.2.1
  · rw [hk 24 (by omega)]; exact R.2.1.2.2.1
  · unfold TI2; rw [h8, hk 29 (by omega)]; exact R.2.2.1
  · rw [hk 6 (by omega)]; exact R.2.2.2.2.1
  · rw [hk 24 (by omega), hk 2 (by omega)]; exact q1
  · rw [hk 25 (by omega), hk 3 (by omega)]; exact q2
  · rw [hk 27 (by omega), hk 5 (by omega)]; exact q3
  · rw [hk 28 (by omega), hk 9 (by omega)]; exact q4
  · unfold RP; rw [h6, hk 1 (by omega), hk 7 (by omega), hk 8 (by omega)]; exact r_P R
  · unfold RF; rw [hk 31 (by omega), hk 0 (by omega)]; exact r_F R
  · rw [hk 18 (by omega)]; exact r_18 R
  · unfold RG; rw [hk 3 (by omega), hk 9 (by omega), hk 1 (by omega)]; exact r_G R
section OPS4
variable {G : GxT} {h : HpT} {n q u : Nat} {tx ty lt : Nat → Nat}
theorem t_change (hF : Full G) (R : Rel n q u tx ty lt h) (v p : Int32) : twoI G yX4_change cX4_change 4 3 yX5_change cX5_change 4 2 [.int v, .int p] h := by
  have hn := r_n R
  obtain ⟨q1, q2, q3, q4, q5⟩ := r_Q R
  by_cases hv : inH n v ∧ 0 ≤ p ∧ p ≤ 2
  · obtain ⟨i, hi, rfl⟩ := hsN hn hv.1
    obtain ⟨p, hp, rfl⟩ := rgN (m := 2) rfl (by decide) hv.2
    by_cases hf : h 5 i = 1
    · exact tw_3 R (n_X4_change hF R.1 hi (by omega) hf) (n_X5_change hF (RI_ref R.2.1) hi (by omega) (by rw [ref_ne (by decide), q3]; exact hf))
    · have e23 : ∀ k, 23 ≤ k → cano n (hs (phC h u n) 4 i (nI p)) k = h k := fun k hk => by rw [cano_cell _ _ (by omega), hs_ne (by omega), phC_cell (by omega) (by omega) (by omega)]
      have z := o_X5_change hF (RI_class R.2.1 e23) hi (show p < 3 by omega) (by rw [e23 27 (by decide), q3]; exact hf) (r_U R).1 (by rw [e23 23 (by decide)]; exact (r_U R).2.2.1)
      rw [e23 26 (by decide), q5 i hi] at z
      refine tw_dd (o_X4_change hF R.1 hi (by omega) hf (r_U R).1 (r_U R).2.1) z ⟨n, q, upN u, tx, ty, lt, ?_⟩
      have c4 : phC h u n 4 = h 4 := phC_cell (by decide) (by decide) (by decide)
      have s1 : SI n (cano n (hs (phC h u n) 4 i (nI p))) := SI_ph (SI_phC R.1) (by rw [c4]; exact rg_upd R.1.2.2.2.1 ⟨p, by omega, rfl⟩)
      have hcl : ∀ k, k ≠ 26 → k ≠ 30 → k ≠ 23 → hs (keepR (cano n (hs (phC h u n) 4 i (nI p))) u) 26 i (nI p) k = cano n (hs (phC h u n) 4 i (nI p)) k := fun k h1 h2 h3 => by rw [hs_ne h1, keepR_cell h2 h3]
      have k26 : hs (keepR (cano n (hs (phC h u n) 4 i (nI p))) u) 26 i (nI p) 26 = upd (h 26) i (nI p) := by
        show upd (keepR (cano n (hs (phC h u n) 4 i (nI p))) u 26) i (nI p) = _
        rw [keepR_cell (by decide) (by decide), e23 26 (by decide)]
      refine Rel_D R (SI_cells s1 (by rw [hcl 1 (by decide) (by decide) (by decide)]) (hcl 2 (by decide) (by decide) (by decide)) (hcl 3 (by decide) (by decide) (by decide)) (hcl 4 (by decide) (by decide) (by decide)) (hcl 10 (by decide) (by decide) (by decide))) ?_ ?_ ?_ ?_ ?_ ?_ ?_ ?_ ?_ ?_ ?_
      · rw [k26]; exact rg_upd R.2.1.2.2.2 ⟨p, by omega, rfl⟩
      · rw [k26, hcl 4 (by decide) (by decide) (by decide)]
        show agr n (upd (h 26) i (nI p)) (upd (phC h u n 4) i (nI p))
        rw [c4]; exact agr_upd q5
      · intro k hk
        rw [hcl k (by omega) (by omega) (by omega), cano_cell _ _ (by omega), hs_ne (by omega), phC_cell (by omega) (by omega) (by omega)]
      · rw [hs_ne (by decide), keepR_23 (by decide), e23 23 (by decide)]
      · rw [hs_ne (by decide), keepR_23 (by decide), e23 23 (by decide)]
      · rw [hs_ne (by decide), keepR_23 (by decide), e23 23 (by decide)]
      · rw [hcl 22 (by decide) (by decide) (by decide), cano_cell _ _ (by decide), hs_ne (by decide), pC_22]
      · rw [hcl 21 (by decide) (by decide) (by decide), cano_cell _ _ (by decide), hs_ne (by decide), pC_21]
      · rw [hs_ne (by decide), kR_30, e23 30 (by decide), e23 26 (by decide)]
      · rw [hs_ne (by decide), kR_10]
      · rw [hcl 11 (by decide) (by decide) (by decide), cano_cell _ _ (by decide), hs_ne (by decide)]
        rfl
  · exact tw_2 R (b_X4_change hF R.1 hv) (b_X5_change hF (RI_ref R.2.1) hv)
/-- the class's world behind a change of phases that is kept for undo, and the reference's -/
theorem Rel_two {gc g : HpT} {ph ph2 : Nat → Int32} (R : Rel n q u tx ty lt h) (hg : ∀ i, i < 9 → ∃ p, p < 3 ∧ ph i = nI p) (hg2 : ∀ i, i < 9 → ∃ p, p < 3 ∧ ph2 i = nI p) (hab : agr n ph2 ph) (e4 : gc 4 = ph) (e10 : gc 10 = ldH n (va_up (phC h u n) 4 ph)) (ec : ∀ k, k ≤ 22 → k ≠ 4 → k ≠ 10 → k ≠ 20 → (11 ≤ k → k ≤ 17 → k = 11) → k ≠ 19 → gc k = phC h u n k) (e26 : g 26 = ph2) (er : ∀ k, k ≤ 22 → g k = gc k) (er2 : ∀ k, 24 ≤ k → k ≤ 31 → k ≠ 26 → g k = keepR h u k) (er3 : ∀ j, j = 4 ∨ j = 6 ∨ j = 8 ∨ j = 10 → g 23 j = keepR h u 23 j) : Rel n q (upN u) tx ty lt g := by
  have s1 : SI n (cano n (va_up (phC h u n) 4 ph)) := SI_ph (SI_phC R.1) hg
  have c1 : g 1 = h 1 := by rw [er 1 (by decide), ec 1 (by decide) (by decide) (by decide) (by decide) (by omega) (by decide), phC_cell (by decide) (by decide) (by decide)]
  have cc : ∀ k, k ≤ 9 → k ≠ 4 → g k = h k := fun k h1 h2 => by rw [er k (by omega), ec k (by omega) h2 (by omega) (by omega) (by omega) (by omega), phC_cell (by omega) (by omega) (by omega)]
  refine Rel_D R (SI_cells s1 ?_ ?_ ?_ ?_ ?_) (by rw [e26]; exact hg2) (by rw [e26, er 4 (by decide), e4]; exact hab) ?_ ?_ ?_ ?_ ?_ ?_ ?_ ?_ ?_
  · rw [cc 1 (by decide) (by decide)]
    show h 1 9 = phC h u n 1 9
    rw [phC_cell (by decide) (by decide) (by decide)]
  · rw [cc 2 (by decide) (by decide)]
    exact (phC_cell (by decide) (by decide) (by decide)).symm
  · rw [cc 3 (by decide) (by decide)]
    exact (phC_cell (by decide) (by decide) (by decide)).symm
  · rw [er 4 (by decide), e4]
    rfl
  · rw [er 10 (by decide), e10]
    rfl
  · intro k hk
    by_cases h1 : k ≤ 9
    · exact cc k h1 (by omega)
    · by_cases h2 : k = 18
      · subst h2
        rw [er 18 (by decide), ec 18 (by decide) (by decide) (by decide) (by decide) (by omega) (by decide), phC_cell (by decide) (by decide) (by decide)]
      · rw [er2 k (by omega) (by omega) (by omega), keepR_cell (by omega) (by omega)]
  · rw [er3 4 (by omega), keepR_23 (by decide)]
  · rw [er3 6 (by omega), keepR_23 (by decide)]
  · rw [er3 8 (by omega), keepR_23 (by decide)]
  · rw [er 22 (by decide), ec 22 (by decide) (by decide) (by decide) (by decide) (by omega) (by decide), pC_22]
  · rw [er 21 (by decide), ec 21 (by decide) (by decide) (by decide) (by decide) (by omega) (by decide), pC_21]
  · rw [er2 30 (by decide) (by decide) (by decide), kR_30]
  · rw [er3 10 (by omega), kR_10]
  · rw [er 11 (by decide), ec 11 (by decide) (by decide) (by decide) (by decide) (by omega) (by decide)]
    rfl
theorem keepR_eq {g g2 : HpT} {k : Nat} (e30 : g2 30 = g 30) (e26 : g2 26 = g 26) (hk : g2 k = g k) (hk23 : k ≠ 23) : keepR g2 u k = keepR g u k := by
  by_cases e : k = 30
  · subst e; rw [kR_30, kR_30, e30, e26]
  · rw [keepR_cell e hk23, keepR_cell e hk23]; exact hk
theorem keepR_eq23 {g g2 : HpT} {j : Nat} (hk : g2 23 j = g 23 j) : keepR g2 u 23 j = keepR g u 23 j := by
  by_cases e : j = 10
  · subst e; rw [kR_10, kR_10]
  · rw [keepR_23 e, keepR_23 e]; exact hk
theorem t_swap (hF : Full G) (R : Rel n q u tx ty lt h) (v w : Int32) : twoI G yX4_swap cX4_swap 3 4 yX5_swap cX5_swap 3 4 [.int v, .int w] h := by
  have hn := r_n R
  obtain ⟨q1, q2, q3, q4, q5⟩ := r_Q R
  by_cases hv : inH n v ∧ inH n w ∧ v ≠ w
  · obtain ⟨i, hi, rfl⟩ := hsN hn hv.1
    obtain ⟨o, ho, rfl⟩ := hsN hn hv.2.1
    have hio : i ≠ o := fun e => hv.2.2 (by rw [e])
    by_cases hf : h 5 i = 1 ∨ h 5 o = 1
    · exact tw_3 R (n_X4_swap hF R.1 hi ho hio hf) (n_X5_swap hF (RI_ref R.2.1) hi ho hio (by rw [ref_ne (by decide), q3]; exact hf))
    · have e23 : ∀ k, 23 ≤ k → cano n (va_up (phC h u n) 4 (swp (h 4) i o)) k = h k := fun k hk => by rw [cano_cell _ _ (by omega), va_up_ne _ _ (by omega), phC_cell (by omega) (by omega) (by omega)]
      have z := o_X5_swap hF (RI_class R.2.1 e23) hi ho hio (by rw [e23 27 (by decide), q3]; exact hf) (r_U R).1 (by rw [e23 23 (by decide)]; exact (r_U R).2.2.1)
      rw [e23 26 (by decide)] at z
      have R2 : Rel n q (upN u) tx ty lt (va_up (keepR (cano n (va_up (phC h u n) 4 (swp (h 4) i o))) u) 26 (swp (h 26) i o)) := by
        refine Rel_two (gc := cano n (va_up (phC h u n) 4 (swp (h 4) i o))) R (swp_rg (by omega) (by omega) R.1.2.2.2.1) (swp_rg (by omega) (by omega) R.2.1.2.2.2) (agr_swp hi ho q5) rfl rfl (fun k h1 h2 h3 h4 h5 h6 => by rw [cano_cell _ _ h3, va_up_ne _ _ h2]) rfl (fun k hk => by rw [va_up_ne _ _ (by omega), keepR_cell (by omega) (by omega)]) (fun k h1 h2 h3 => ?_) (fun j hj => ?_)
        · rw [va_up_ne _ _ h3]
          exact keepR_eq (e23 30 (by decide)) (e23 26 (by decide)) (e23 k (by omega)) (by omega)
        · rw [va_up_ne _ _ (by decide)]
          exact keepR_eq23 (by rw [e23 23 (by decide)])
      have eg : grR (asH (va_up (keepR (cano n (va_up (phC h u n) 4 (swp (h 4) i o))) u) 26 (swp (h 26) i o)) n) = grC (cano n (va_up (phC h u n) 4 (swp (h 4) i o))) := by
        rw [as_gr R2]
        unfold grC ntC
        rw [va_up_ne _ _ (by decide), va_up_ne _ _ (by decide), keepR_cell (by decide) (by decide), keepR_cell (by decide) (by decide)]
      rw [eg] at z
      exact tw_dd (o_X4_swap hF R.1 hi ho hio hf (r_U R).1 (r_U R).2.1) z ⟨n, q, upN u, tx, ty, lt, Rel_as R2⟩
  · exact tw_2 R (b_X4_swap hF R.1 hv) (b_X5_swap hF (RI_ref R.2.1) hv)
theorem t_undo (hF : Full G) (R : Rel n q u tx ty lt h) : twoI G yX4_undo cX4_undo 1 4 yX5_undo cX5_undo 2 1 [] h := by
  have hn := r_n R
  obtain ⟨q1, q2, q3, q4, q5⟩ := r_Q R
  obtain ⟨u1, u2, u3, u4⟩ := r_U R
  cases u with
  | zero => exact tw_3 R (n_X4_undo hF u2) (n_X5_undo hF (by rw [ref_ne (by decide)]; exact u3))
  | succ u =>
    obtain ⟨a, b⟩ := u4 u (by omega)
    have hl : ∀ i, i < n → ∃ p, p < 3 ∧ phF (h 22 u) (nI i) = nI p := fun i hi => by rw [← a i hi]; exact b i (by omega)
    have e23 : ∀ k, 23 ≤ k → hs (cano n (va_up (hs h 21 0 (nI u)) 4 (lyF (h 22 u) (h 4) n))) 11 13 0 k = h k := fun k hk => by rw [hs_ne (by omega), cano_cell _ _ (by omega), va_up_ne _ _ (by omega), hs_ne (by omega)]
    have z := o_X5_undo (h := hs (cano n (va_up (hs h 21 0 (nI u)) 4 (lyF (h 22 u) (h 4) n))) 11 13 0) hF (show u < 8 by omega) (by rw [e23 23 (by decide)]; exact u3)
    have s0 : SI n (hs h 21 0 (nI u)) := SI_cells R.1 rfl rfl rfl rfl rfl
    have s1 : SI n (cano n (va_up (hs h 21 0 (nI u)) 4 (lyF (h 22 u) (h 4) n))) := SI_ly s0 (Nat.le_refl n) hl
    refine tw_dd (o_X4_undo hF R.1 (by omega) u2 hl) z ⟨n, q, u, tx, ty, lt, ?_⟩
    refine ⟨SI_cells s1 rfl rfl rfl rfl rfl, ⟨hn, R.2.1.2.1, R.2.1.2.2.1, ?_⟩, R.2.2.1, r_L R, R.2.2.2.2.1, ⟨q1, q2, q3, q4, ?_⟩, ⟨(r_P R).1, (r_P R).2.1, (r_P R).2.2⟩, ⟨by omega, rfl, rfl, fun j hj => u4 j (by omega)⟩, ⟨(r_F R).1, (r_F R).2.1, (r_F R).2.2⟩, (show ∀ j, j < 18 → h 18 j = 0 from r_18 R), ⟨(r_G R).1, (r_G R).2.1, (r_G R).2.2⟩, fun y => absurd rfl y⟩
    · intro i hi
      show ∃ p, p < 3 ∧ cpF (h 26) (fun i => h 30 (9 * u + i)) 9 i = nI p
      unfold cpF
      rw [if_pos hi]
      exact b i hi
    · intro i hi
      show cpF (h 26) (fun i => h 30 (9 * u + i)) 9 i = lyF (h 22 u) (h 4) n i
      unfold cpF lyF
      rw [if_pos (by omega), if_pos hi]
      exact a i hi
end OPS4
