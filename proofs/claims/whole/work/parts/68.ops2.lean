theorem Rel_0 {n q u n2 q2 : Nat} {tx ty lt tx2 ty2 lt2 : Nat → Nat} {h g : HpT} (R : Rel n q u tx ty lt h) (s1 : SI n2 g) (r1 : RI n2 g) (t1 : TI2 q2 tx2 ty2 g) (L1 : LTI n2 q2 tx2 ty2 lt2) (h6 : ∀ i, i < n2 → g 6 i = nI (lt2 i)) (Q1 : RQ n2 g) (P1 : RP q2 tx2 ty2 g) (e31 : g 31 = h 31) (e0 : g 0 = h 0) (e18 : g 18 = h 18) (G1 : RG g) (d21 : g 21 0 = 0) (d23 : g 23 10 = 0) (d11 : g 11 13 = 0) : Rel n2 q2 0 tx2 ty2 lt2 g := by
  refine ⟨s1, r1, t1, L1, h6, Q1, P1, ⟨by omega, d21, d23, fun j hj => absurd hj (Nat.not_lt_zero _)⟩, ?_, ?_, G1, fun y => absurd d11 y⟩
  · unfold RF; rw [e31, e0]; exact r_F R
  · rw [e18]; exact r_18 R
theorem sc_ne {h : HpT} {k : Nat} (h1 : k ≠ 21) (h2 : k ≠ 11) : scH h k = h k := by
  unfold scH
  rw [hs_ne h2, hs_ne h1]
section OPS2
variable {G : GxT} {h : HpT} {n q u : Nat} {tx ty lt : Nat → Nat}
theorem t_sets (hF : Full G) (R : Rel n q u tx ty lt h) (v x w : Int32) : twoI G yX4_sets cX4_sets 4 3 yX5_sets cX5_sets 5 2 [.int v, .int x, .int w] h := by
  by_cases hv : inH n v ∧ ((x = 0 ∧ 0 ≤ w ∧ w ≤ 5) ∨ (x = 1 ∧ 1 ≤ w ∧ w ≤ 20) ∨ (x = 2 ∧ 0 ≤ w ∧ w ≤ 1))
  · have hn := r_n R
    obtain ⟨i, hi, rfl⟩ := hsN hn hv.1
    obtain ⟨q1, q2, q3, q4, q5⟩ := r_Q R
    rcases hv.2 with ⟨rfl, hw⟩ | ⟨rfl, hw⟩ | ⟨rfl, hw⟩
    · obtain ⟨b, hb, ew⟩ := rgN (m := 5) rfl (by decide) hw
      have e23 : ∀ k, 23 ≤ k → cano n (hs (scH h) 2 i w) k = h k := fun k hk => by rw [cano_cell _ _ (by omega), hs_ne (by omega), sc_ne (by omega) (by omega)]
      have z := o0_X5_sets hF (RI_class R.2.1 e23) hi hw
      rw [e23 24 (by decide), q1] at z
      refine tw_dd (o0_X4_sets hF R.1 hi (b := b) (by omega) ew) z ⟨n, q, 0, tx, ty, lt, Rel_0 R ?_ ?_ ?_ (r_L R) R.2.2.2.2.1 ?_ ⟨(r_P R).1, (r_P R).2.1, (r_P R).2.2⟩ rfl rfl rfl ⟨(r_G R).1, (r_G R).2.1, (r_G R).2.2⟩ rfl rfl rfl⟩
      · exact SI_cells (h := cano n (hs (scH h) 2 i w)) ⟨hn, R.1.2.1, rg_upd R.1.2.2.1 ⟨b, by omega, ew⟩, R.1.2.2.2.1, cano_LI _ _⟩ rfl rfl rfl rfl rfl
      · exact ⟨hn, R.2.1.2.1, rg_upd R.2.1.2.2.1 ⟨b, by omega, ew⟩, R.2.1.2.2.2⟩
      · exact R.2.2.1
      · refine ⟨?_, q2, q3, q4, q5⟩
        show upd (h 24) i w = upd (h 2) i w
        rw [q1]
    · obtain ⟨b, hb, ew⟩ := rgN (m := 20) rfl (by decide) (show 0 ≤ w ∧ w ≤ 20 from ⟨Int32.le_trans (by decide) hw.1, hw.2⟩)
      have e23 : ∀ k, 23 ≤ k → cano n (hs (scH h) 3 i w) k = h k := fun k hk => by rw [cano_cell _ _ (by omega), hs_ne (by omega), sc_ne (by omega) (by omega)]
      have z := o1_X5_sets hF (RI_class R.2.1 e23) hi hw
      rw [e23 25 (by decide), q2] at z
      refine tw_dd (o1_X4_sets hF R.1 hi hw) z ⟨n, q, 0, tx, ty, lt, Rel_0 R ?_ ?_ ?_ (r_L R) R.2.2.2.2.1 ?_ ⟨(r_P R).1, (r_P R).2.1, (r_P R).2.2⟩ rfl rfl rfl ⟨rg_upd (r_G R).1 ⟨b, by omega, ew⟩, (r_G R).2.1, (r_G R).2.2⟩ rfl rfl rfl⟩
      · exact SI_cells (h := cano n (hs (scH h) 3 i w)) ⟨hn, R.1.2.1, R.1.2.2.1, R.1.2.2.2.1, cano_LI _ _⟩ rfl rfl rfl rfl rfl
      · exact ⟨hn, R.2.1.2.1, R.2.1.2.2.1, R.2.1.2.2.2⟩
      · exact R.2.2.1
      · refine ⟨q1, ?_, q3, q4, q5⟩
        show upd (h 25) i w = upd (h 3) i w
        rw [q2]
    · have e23 : ∀ k, 23 ≤ k → cano n (hs (scH h) 5 i w) k = h k := fun k hk => by rw [cano_cell _ _ (by omega), hs_ne (by omega), sc_ne (by omega) (by omega)]
      have z := o2_X5_sets hF (RI_class R.2.1 e23) hi hw
      rw [e23 27 (by decide), q3] at z
      refine tw_dd (o2_X4_sets hF R.1 hi hw) z ⟨n, q, 0, tx, ty, lt, Rel_0 R ?_ ?_ ?_ (r_L R) R.2.2.2.2.1 ?_ ⟨(r_P R).1, (r_P R).2.1, (r_P R).2.2⟩ rfl rfl rfl ⟨(r_G R).1, (r_G R).2.1, (r_G R).2.2⟩ rfl rfl rfl⟩
      · exact SI_cells (h := cano n (hs (scH h) 5 i w)) ⟨hn, R.1.2.1, R.1.2.2.1, R.1.2.2.2.1, cano_LI _ _⟩ rfl rfl rfl rfl rfl
      · exact ⟨hn, R.2.1.2.1, R.2.1.2.2.1, R.2.1.2.2.2⟩
      · exact R.2.2.1
      · refine ⟨q1, q2, ?_, q4, q5⟩
        show upd (h 27) i w = upd (h 5) i w
        rw [q3]
  · exact tw_2 R (b_X4_sets hF R.1 hv) (b_X5_sets hF (RI_ref R.2.1) hv)
theorem t_weight (hF : Full G) (R : Rel n q u tx ty lt h) (t v : Int32) : twoI G yX4_weight cX4_weight 4 2 yX5_weight cX5_weight 4 2 [.int t, .int v] h := by
  by_cases hv : (0 ≤ t ∧ t ≤ 5) ∧ (0 ≤ v ∧ v ≤ 9)
  · obtain ⟨i, hi, rfl⟩ := rgN (m := 5) rfl (by decide) hv.1
    obtain ⟨b, hb, ew⟩ := rgN (m := 9) rfl (by decide) hv.2
    obtain ⟨q1, q2, q3, q4, q5⟩ := r_Q R
    have z := o_X5_weight (h := hs (scH h) 9 i v) hF (show i < 6 by omega) hv.2
    rw [show hs (scH h) 9 i v 28 = h 28 from rfl, q4] at z
    refine tw_dd (o_X4_weight hF (by omega) hv.2) z ⟨n, q, 0, tx, ty, lt, Rel_0 R (SI_cells (h := scH h) (SI_sc R.1) rfl rfl rfl rfl rfl) ⟨R.2.1.1, R.2.1.2.1, R.2.1.2.2.1, R.2.1.2.2.2⟩ R.2.2.1 (r_L R) R.2.2.2.2.1 ⟨q1, q2, q3, ?_, q5⟩ ⟨(r_P R).1, (r_P R).2.1, (r_P R).2.2⟩ rfl rfl rfl ⟨(r_G R).1, ?_, (r_G R).2.2⟩ rfl rfl rfl⟩
    · show upd (h 28) i v = upd (h 9) i v
      rw [q4]
    · intro t ht
      show 0 ≤ (upd (h 9) i v t).toInt ∧ (upd (h 9) i v t).toInt ≤ 9
      by_cases e : t = i
      · subst e; rw [pk_us, ew, nI_toInt (by omega)]; omega
      · rw [pk_un e]; exact (r_G R).2.1 t ht
  · exact tw_2 R (b_X4_weight hF hv) (b_X5_weight hF hv)
theorem t_fuse (hF : Full G) (R : Rel n q u tx ty lt h) (v : Int32) : twoI G yX4_fuse cX4_fuse 3 2 yX5_fuse cX5_fuse 3 1 [.int v] h := by
  by_cases hv : 1 ≤ v ∧ v ≤ 400
  · obtain ⟨b, hb, ew⟩ := rgN (m := 400) rfl (by decide) (show 0 ≤ v ∧ v ≤ 400 from ⟨Int32.le_trans (by decide) hv.1, hv.2⟩)
    have z := o_X5_fuse (h := hs (scH h) 1 11 v) hF hv
    rw [show hs (scH h) 1 11 v 23 6 = h 23 6 from rfl, (r_P R).1] at z
    refine tw_dd (o_X4_fuse hF hv) z ⟨n, q, 0, tx, ty, lt, Rel_0 R (SI_cells (h := scH h) (SI_sc R.1) rfl rfl rfl rfl rfl) ⟨R.2.1.1, R.2.1.2.1, R.2.1.2.2.1, R.2.1.2.2.2⟩ R.2.2.1 (r_L R) R.2.2.2.2.1 (show RQ n h from r_Q R) ⟨rfl, (r_P R).2.1, (r_P R).2.2⟩ rfl rfl rfl ⟨(r_G R).1, (r_G R).2.1, ⟨b, hb, ew⟩⟩ rfl rfl rfl⟩
  · exact tw_2 R (b_X4_fuse hF hv) (b_X5_fuse hF hv)
theorem t_loosens (hF : Full G) (R : Rel n q u tx ty lt h) : twoI G yX4_loosens cX4_loosens 2 2 yX5_loosens cX5_loosens 2 0 [] h := by
  have z := c_X5_loosens (h := va_up (hs (scH h) 1 10 0) 6 (idF (h 6) n)) hF
  rw [show va_up (hs (scH h) 1 10 0) 6 (idF (h 6) n) 23 8 = h 23 8 from rfl, R.2.2.1.2.1, ← (r_P R).2.1] at z
  refine tw_dd (c_X4_loosens hF R.1) z ⟨n, 0, 0, tx, ty, fun i => i, Rel_0 R (SI_cells (h := scH h) (SI_sc R.1) rfl rfl rfl rfl rfl) ⟨R.2.1.1, R.2.1.2.1, R.2.1.2.2.1, R.2.1.2.2.2⟩ ⟨by omega, rfl, fun k hk => absurd hk (Nat.not_lt_zero _)⟩ (LTI_drop n tx ty) ?_ (show RQ n h from r_Q R) ⟨(r_P R).1, rfl, fun k hk => absurd hk (Nat.not_lt_zero _)⟩ rfl rfl rfl ⟨(r_G R).1, (r_G R).2.1, (r_G R).2.2⟩ rfl rfl rfl⟩
  intro i hi
  show idF (h 6) n i = nI i
  unfold idF
  rw [if_pos hi]
theorem t_anew (hF : Full G) (R : Rel n q u tx ty lt h) : twoI G yX4_anew cX4_anew 2 2 yX5_anew cX5_anew 3 0 [] h := by
  obtain ⟨q1, q2, q3, q4, q5⟩ := r_Q R
  have z := c_X5_anew (h := hs (va_up (va_up (hs (va_up (hs (scH h) 1 10 0) 6 (idF (h 6) n)) 1 9 0) 10 (fillF (h 10) 18 0)) 9 (fillF (h 9) 6 1)) 1 11 400) hF
  rw [show hs (va_up (va_up (hs (va_up (hs (scH h) 1 10 0) 6 (idF (h 6) n)) 1 9 0) 10 (fillF (h 10) 18 0)) 9 (fillF (h 9) 6 1)) 1 11 400 23 4 = h 23 4 from rfl, R.2.1.2.1, ← R.1.2.1] at z
  refine tw_dd (c_X4_anew hF R.1) z ⟨0, 0, 0, tx, ty, fun i => i, Rel_0 R ⟨by omega, rfl, R.1.2.2.1, R.1.2.2.2.1, ?_⟩ ⟨by omega, rfl, R.2.1.2.2.1, R.2.1.2.2.2⟩ ⟨by omega, rfl, fun k hk => absurd hk (Nat.not_lt_zero _)⟩ (LTI_drop 0 tx ty) (fun i hi => absurd hi (Nat.not_lt_zero _)) ⟨q1, q2, q3, ?_, fun i hi => absurd hi (Nat.not_lt_zero _)⟩ ⟨rfl, rfl, fun k hk => absurd hk (Nat.not_lt_zero _)⟩ rfl rfl rfl ⟨(r_G R).1, ?_, ⟨400, Nat.le_refl _, rfl⟩⟩ rfl rfl rfl⟩
  · intro j hj
    show fillF (h 10) 18 0 j = 0
    unfold fillF
    rw [if_pos hj]
  · show fillF (h 28) 6 1 = fillF (h 9) 6 1
    rw [q4]
  · intro t ht
    show 0 ≤ (fillF (h 9) 6 1 t).toInt ∧ (fillF (h 9) 6 1 t).toInt ≤ 9
    unfold fillF
    rw [if_pos ht]
    decide
theorem dw_cells (g : HpT) (s : Nat) : ∀ k, (∀ x, x ≠ 1 → x ≠ 2 → x ≠ 3 → x ≠ 4 → x ≠ 5 → x ≠ 6 → x ≠ 10 → dwH g s k x = g x) ∧ dwH g s k 2 = cpF (g 2) (d1 s) k ∧ dwH g s k 3 = cpF (g 3) (d2 s) k ∧ dwH g s k 4 = cpF (g 4) (d3 s) k ∧ dwH g s k 5 = cpF (g 5) (fun _ => 0) k ∧ dwH g s k 6 = idF (g 6) k ∧ (∀ j, j ≠ 9 → dwH g s k 1 j = g 1 j)
  | 0 => ⟨fun x _ _ _ _ _ _ _ => rfl, (cp_0 _ _).symm, (cp_0 _ _).symm, (cp_0 _ _).symm, (cp_0 _ _).symm, by funext j; simp [idF]; rfl, fun j _ => rfl⟩
  | k + 1 => by
    obtain ⟨i1, i2, i3, i4, i5, i6, i7⟩ := dw_cells g s k
    refine ⟨fun x h1 h2 h3 h4 h5 h6 h10 => ?_, ?_, ?_, ?_, ?_, ?_, fun j hj => ?_⟩
    · show cano (k + 1) (newC (dwH g s k) k _ _ _) x = g x
      rw [cano_cell _ _ h10]
      unfold newC
      rw [hs_ne h6, hs_ne h5, hs_ne h4, hs_ne h3, hs_ne h2, hs_ne h1]
      exact i1 x h1 h2 h3 h4 h5 h6 h10
    · show upd (dwH g s k 2) k (d1 s k) = _
      rw [i2, cp_upd]
    · show upd (dwH g s k 3) k (d2 s k) = _
      rw [i3, cp_upd]
    · show upd (dwH g s k 4) k (d3 s k) = _
      rw [i4, cp_upd]
    · show upd (dwH g s k 5) k 0 = _
      rw [i5]
      exact cp_upd (g 5) (fun _ => 0) k
    · show upd (dwH g s k 6) k (nI k) = _
      rw [i6]
      funext j
      simp only [upd, idF]
      by_cases e : j = k
      · rw [if_pos e, if_pos (by omega), e]
      · rw [if_neg e]
        by_cases e2 : j < k
        · rw [if_pos e2, if_pos (by omega)]
        · rw [if_neg e2, if_neg (by omega)]
    · show upd (dwH g s k 1) 9 (nI (k + 1)) j = _
      rw [pk_un hj]; exact i7 j hj
theorem cp_rg {f g : Nat → Int32} {n m : Nat} (hf : ∀ i, i < 9 → ∃ a, a < m ∧ f i = nI a) (hg : ∀ i, ∃ a, a < m ∧ g i = nI a) : ∀ i, i < 9 → ∃ a, a < m ∧ cpF f g n i = nI a := by
  intro i hi
  unfold cpF
  split
  · exact hg i
  · exact hf i hi
theorem t_draw (hF : Full G) (R : Rel n q u tx ty lt h) (s k : Int32) : twoI G yX4_draw cX4_draw 6 3 yX5_draw cX5_draw 6 1 [.int s, .int k] h := by
  by_cases hv : (0 ≤ s ∧ s ≤ 999999) ∧ (0 ≤ k ∧ k ≤ 9)
  · obtain ⟨s, hs9, rfl⟩ := rgN (m := 999999) rfl (by decide) hv.1
    obtain ⟨k, hk, rfl⟩ := rgN (m := 9) rfl (by decide) hv.2
    obtain ⟨q1, q2, q3, q4, q5⟩ := r_Q R
    have hS1 : SI k (dwH (dhH h n) s k) := dw_SI (SI_dh R.1) k hk
    obtain ⟨i1, i2, i3, i4, i5, i6, i7⟩ := dw_cells (dhH h n) s k
    have r1 : ∀ i, ∃ a, a < 6 ∧ d1 s i = nI a := fun i => ⟨_, Nat.mod_lt _ (by decide), rfl⟩
    have r2 : ∀ i, ∃ a, a < 21 ∧ d2 s i = nI a := fun i => ⟨_, by have := Nat.mod_lt (dX s (i + 1) / 1024) (show 0 < 20 by decide); show dX s (i + 1) / 1024 % 20 + 1 < 21; omega, rfl⟩
    have r3 : ∀ i, ∃ a, a < 3 ∧ d3 s i = nI a := fun i => ⟨_, Nat.mod_lt _ (by decide), rfl⟩
    generalize hg : dwH (dhH h n) s k = g at hS1 i1 i2 i3 i4 i5 i6 i7
    have z := o_X4_draw hF R.1 hs9 hk
    rw [hg] at z
    have j : ∀ x, 11 ≤ x → x ≠ 11 → x ≠ 21 → g x = h x := fun x h1 h2 h3 => by
      rw [i1 x (by omega) (by omega) (by omega) (by omega) (by omega) (by omega) (by omega)]
      unfold dhH
      rw [va_up_ne _ _ (by omega), hs_ne (by omega), va_up_ne _ _ (by omega), hs_ne (by omega), sc_ne h3 h2]
    refine tw_dd z (o_X5_draw hF hs9 hk) ⟨k, 0, 0, tx, ty, fun i => i, Rel_0 R (SI_cells hS1 rfl rfl rfl rfl rfl) ⟨hk, rfl, ?_, ?_⟩ ⟨by omega, rfl, fun k hk => absurd hk (Nat.not_lt_zero _)⟩ (LTI_drop k tx ty) ?_ ⟨?_, ?_, ?_, ?_, ?_⟩ ⟨?_, ?_, fun k hk => absurd hk (Nat.not_lt_zero _)⟩ ?_ ?_ ?_ ⟨?_, ?_, ?_⟩ ?_ rfl ?_⟩
    · show ∀ i, i < 9 → ∃ a, a < 6 ∧ cpF (g 24) (d1 s) k i = nI a
      rw [j 24 (by decide) (by decide) (by decide)]
      exact cp_rg R.2.1.2.2.1 r1
    · show ∀ i, i < 9 → ∃ a, a < 3 ∧ cpF (g 26) (d3 s) k i = nI a
      rw [j 26 (by decide) (by decide) (by decide)]
      exact cp_rg R.2.1.2.2.2 r3
    · intro i hi
      show g 6 i = nI i
      rw [i6]
      unfold idF
      rw [if_pos hi]
    · show cpF (g 24) (d1 s) k = g 2
      rw [i2, j 24 (by decide) (by decide) (by decide), q1]
      rfl
    · show cpF (g 25) (d2 s) k = g 3
      rw [i3, j 25 (by decide) (by decide) (by decide), q2]
      rfl
    · show cpF (g 27) (fun _ => 0) k = g 5
      rw [i5, j 27 (by decide) (by decide) (by decide), q3]
      rfl
    · show g 28 = g 9
      rw [i1 9 (by decide) (by decide) (by decide) (by decide) (by decide) (by decide) (by decide), j 28 (by decide) (by decide) (by decide), q4]
      rfl
    · show agr k (cpF (g 26) (d3 s) k) (g 4)
      rw [i4]
      intro i hi
      unfold cpF
      rw [if_pos hi, if_pos hi]
    · show g 23 6 = g 1 11
      rw [i7 11 (by decide), j 23 (by decide) (by decide) (by decide)]
      exact (r_P R).1
    · show g 1 10 = nI 0
      rw [i7 10 (by decide)]
      rfl
    · show g 31 = h 31
      exact j 31 (by decide) (by decide) (by decide)
    · show g 0 = h 0
      rw [i1 0 (by decide) (by decide) (by decide) (by decide) (by decide) (by decide) (by decide)]
      rfl
    · show g 18 = h 18
      exact j 18 (by decide) (by decide) (by decide)
    · show ∀ i, i < 9 → ∃ z, z < 21 ∧ g 3 i = nI z
      rw [i3]
      exact cp_rg (r_G R).1 r2
    · show WB (g 9)
      rw [i1 9 (by decide) (by decide) (by decide) (by decide) (by decide) (by decide) (by decide)]
      exact (r_G R).2.1
    · show ∃ f, f ≤ 400 ∧ g 1 11 = nI f
      rw [i7 11 (by decide)]
      exact (r_G R).2.2
    · show g 21 0 = 0
      rw [i1 21 (by decide) (by decide) (by decide) (by decide) (by decide) (by decide) (by decide)]
      rfl
    · show g 11 13 = 0
      rw [i1 11 (by decide) (by decide) (by decide) (by decide) (by decide) (by decide) (by decide)]
      rfl
  · exact tw_2 R (b_X4_draw hF hv) (b_X5_draw hF hv)
end OPS2
