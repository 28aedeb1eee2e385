def twoL (G : GxT) (yc : MethodName) (cc : ByteArray) (mL dc : Nat) (yr : MethodName) (cr : ByteArray) (mR dr : Nat) (av : List Value) (h : HpT) : Prop := ∃ (P : Option Value → HpT → Prop), mc G yc cc mL (some .long) dc (.ref (gad G 0) :: av) h P ∧ ∀ r h1, P r h1 → ∃ x, r = some (.long x) ∧ ∃ (Q : Option Value → HpT → Prop), mc G yr cr mR (some .long) dr (.ref (gad G 23) :: av) h1 Q ∧ ∀ r2 h2, Q r2 h2 → r2 = some (.long x) ∧ RX h2
theorem nI_lts {a b : Nat} (ha : a < 100) (hb : b < 100) : nI a < nI b ↔ a < b := by
  rw [Int32.lt_iff_toInt_lt, nI_toInt (by omega), nI_toInt (by omega)]
  omega
section OPS3
variable {G : GxT} {h : HpT} {n q u : Nat} {tx ty lt : Nat → Nat}
theorem t_tie (hF : Full G) (R : Rel n q u tx ty lt h) (v w : Int32) : twoI G yX4_tie cX4_tie 3 3 yX5_tie cX5_tie 3 2 [.int v, .int w] h := by
  by_cases hv : inH n v ∧ inH n w ∧ v ≠ w
  · have hn := r_n R
    have hq6 := r_q R
    obtain ⟨i, hi, rfl⟩ := hsN hn hv.1
    obtain ⟨j, hj, rfl⟩ := hsN hn hv.2.1
    have hij : i ≠ j := fun e => hv.2.2 (by rw [e])
    have ei := R.2.2.2.2.1 i hi
    have ej := R.2.2.2.2.1 j hj
    have li := ((r_L R).1 i hi).1
    have lj := ((r_L R).1 j hj).1
    obtain ⟨b1, b2⟩ := lt_bit hn hq6 (r_L R) hi
    obtain ⟨b3, b4⟩ := lt_bit hn hq6 (r_L R) hj
    by_cases he : lt i = lt j
    · exact tw_3 R (n_X4_tie hF R.1 hi hj hij (by rw [ei, ej, he])) (n_X5_tie hF (RI_ref R.2.1) (TI_ref R.2.2.1) hi hj hij (by omega) b1 b2 (by omega) b3 b4 he)
    · have he6 : ¬ h 6 i = h 6 j := fun z => he ((nI_eqs (by omega) (by omega)).mp (by rw [← ei, ← ej]; exact z))
      by_cases hq : q = 6
      · exact tw_4 R (f_X4_tie hF R.1 hi hj hij he6 hq (r_P R).2.1) (f_X5_tie hF (RI_ref R.2.1) (TI_ref R.2.2.1) hi hj hij (by omega) b1 b2 (by omega) b3 b4 he hq)
      · have z := o_X4_tie hF R.1 hi hj hij he6 (by omega) (r_P R).2.1
        have hmin : (if h 6 j < h 6 i then h 6 j else h 6 i) = nI (min (lt i) (lt j)) := by
          rw [ei, ej]
          by_cases y : lt j < lt i
          · rw [if_pos ((nI_lts (by omega) (by omega)).mpr y), Nat.min_eq_right (by omega)]
          · rw [if_neg (fun x => y ((nI_lts (by omega) (by omega)).mp x)), Nat.min_eq_left (by omega)]
        have hmax : (if h 6 i < h 6 j then h 6 j else h 6 i) = nI (max (lt i) (lt j)) := by
          rw [ei, ej]
          by_cases y : lt i < lt j
          · rw [if_pos ((nI_lts (by omega) (by omega)).mpr y), Nat.max_eq_right (by omega)]
          · rw [if_neg (fun x => y ((nI_lts (by omega) (by omega)).mp x)), Nat.max_eq_left (by omega)]
        rw [hmin, hmax] at z
        have z2 := o_X5_tie (h := va_up (hs (hs (hs (scH h) 7 q (nI i)) 8 q (nI j)) 1 10 (nI (q + 1))) 6 (mgF (h 6) (nI (min (lt i) (lt j))) (nI (max (lt i) (lt j))) n)) hF (RI_class R.2.1 (fun k hk => by rw [va_up_ne _ _ (by omega), hs_ne (by omega), hs_ne (by omega), hs_ne (by omega), sc_ne (by omega) (by omega)])) (TI_class R.2.2.1 (fun k hk => by rw [va_up_ne _ _ (by omega), hs_ne (by omega), hs_ne (by omega), hs_ne (by omega), sc_ne (by omega) (by omega)])) hi hj hij (show lt i < 9 by omega) b1 b2 (show lt j < 9 by omega) b3 b4 he hq
        refine tw_dd z z2 ⟨n, q + 1, 0, fun k => if k = q then i else tx k, fun k => if k = q then j else ty k, fun x => if lt x = max (lt i) (lt j) then min (lt i) (lt j) else lt x, Rel_0 R (SI_cells (h := scH h) (SI_sc R.1) rfl rfl rfl rfl rfl) ⟨R.2.1.1, R.2.1.2.1, R.2.1.2.2.1, R.2.1.2.2.2⟩ ⟨by omega, rfl, ?_⟩ (LTI_pair (r_L R) hi hj hij) ?_ (show RQ n h from r_Q R) ⟨(r_P R).1, rfl, ?_⟩ rfl rfl rfl ⟨(r_G R).1, (r_G R).2.1, (r_G R).2.2⟩ rfl rfl rfl⟩
        · intro k hk
          show (if k = q then i else tx k) < 9 ∧ (if k = q then j else ty k) < 9 ∧ upd (upd (h 29) (2 * q) (nI i)) (2 * q + 1) (nI j) (2 * k) = nI (if k = q then i else tx k) ∧ upd (upd (h 29) (2 * q) (nI i)) (2 * q + 1) (nI j) (2 * k + 1) = nI (if k = q then j else ty k)
          by_cases e : k = q
          · subst e
            rw [if_pos rfl, if_pos rfl, pk_un (by omega), pk_us, pk_us]
            exact ⟨by omega, by omega, rfl, rfl⟩
          · rw [if_neg e, if_neg e, pk_un (by omega), pk_un (by omega), pk_un (by omega), pk_un (by omega)]
            exact R.2.2.1.2.2 k (by omega)
        · intro x hx
          show mgF (h 6) (nI (min (lt i) (lt j))) (nI (max (lt i) (lt j))) n x = nI (if lt x = max (lt i) (lt j) then min (lt i) (lt j) else lt x)
          have ex := R.2.2.2.2.1 x hx
          have lx := ((r_L R).1 x hx).1
          unfold mgF
          rw [ex]
          by_cases e : lt x = max (lt i) (lt j)
          · rw [if_pos e, if_pos ⟨hx, by rw [e]⟩]
          · rw [if_neg e, if_neg (fun y => e ((nI_eqs (by omega) (by omega)).mp y.2))]
        · intro k hk
          show upd (h 7) q (nI i) k = nI (if k = q then i else tx k) ∧ upd (h 8) q (nI j) k = nI (if k = q then j else ty k)
          by_cases e : k = q
          · subst e
            rw [if_pos rfl, if_pos rfl, pk_us, pk_us]
            exact ⟨rfl, rfl⟩
          · rw [if_neg e, if_neg e, pk_un e, pk_un e]
            exact (r_P R).2.2 k (by omega)
  · exact tw_2 R (b_X4_tie hF R.1 hv) (b_X5_tie hF (RI_ref R.2.1) hv)
theorem t_of (hF : Full G) (R : Rel n q u tx ty lt h) (v x : Int32) : twoI G yX4_of cX4_of 3 2 yX5_of cX5_of 3 2 [.int v, .int x] h := by
  have hn := r_n R
  obtain ⟨q1, q2, q3, q4, q5⟩ := r_Q R
  by_cases hv : inH n v
  · by_cases hx : 0 ≤ x ∧ x ≤ 4
    · obtain ⟨i, hi, rfl⟩ := hsN hn hv
      obtain ⟨m, hm, rfl⟩ := rgN (m := 4) rfl (by decide) hx
      rcases (show m = 0 ∨ m = 1 ∨ m = 2 ∨ m = 3 ∨ m = 4 by omega) with rfl | rfl | rfl | rfl | rfl
      · have z := o0_X5_of hF R.2.1 hi
        rw [q1] at z
        exact tw_dd (o0_X4_of hF R.1 hi) z ⟨n, q, u, tx, ty, lt, R⟩
      · have z := o1_X5_of hF R.2.1 hi
        rw [q2] at z
        exact tw_dd (o1_X4_of hF R.1 hi) z ⟨n, q, u, tx, ty, lt, R⟩
      · have z := o2_X5_of hF R.2.1 hi
        rw [q5 i hi] at z
        exact tw_dd (o2_X4_of hF R.1 hi) z ⟨n, q, u, tx, ty, lt, R⟩
      · have z := o3_X5_of hF R.2.1 hi
        rw [q3] at z
        exact tw_dd (o3_X4_of hF R.1 hi) z ⟨n, q, u, tx, ty, lt, R⟩
      · obtain ⟨b1, b2⟩ := lt_bit hn (r_q R) (r_L R) hi
        have li := ((r_L R).1 i hi).1
        have z := o4_X5_of hF R.2.1 R.2.2.1 hi (by omega) b1 b2
        rw [← R.2.2.2.2.1 i hi] at z
        exact tw_dd (o4_X4_of hF R.1 hi) z ⟨n, q, u, tx, ty, lt, R⟩
    · obtain ⟨i, hi, rfl⟩ := hsN hn hv
      exact tw_2 R (bb_X4_of hF R.1 hi hx) (b_X5_of hF (RI_ref R.2.1) (fun z => hx z.2))
  · exact tw_2 R (b_X4_of hF R.1 hv) (b_X5_of hF (RI_ref R.2.1) (fun z => hv z.1))
theorem t_takes (hF : Full G) (R : Rel n q u tx ty lt h) (v t : Int32) : twoI G yX4_takes cX4_takes 3 2 yX5_takes cX5_takes 3 2 [.int v, .int t] h := by
  obtain ⟨q1, q2, q3, q4, q5⟩ := r_Q R
  by_cases hv : inH n v ∧ 0 ≤ t ∧ t ≤ 5
  · obtain ⟨i, hi, rfl⟩ := hsN (r_n R) hv.1
    obtain ⟨t, ht, rfl⟩ := rgN (m := 5) rfl (by decide) hv.2
    have z := o_X5_takes hF R.2.1 hi (show t < 6 by omega)
    rw [q1, q2] at z
    exact tw_dd (o_X4_takes hF R.1 hi (by omega)) z ⟨n, q, u, tx, ty, lt, R⟩
  · exact tw_2 R (b_X4_takes hF R.1 hv) (b_X5_takes hF (RI_ref R.2.1) hv)
theorem as33 (R : Rel n q u tx ty lt h) {p t : Nat} (hp : p < 3) (ht : t < 6) : asH h n 33 (3 * t + p) = h 10 (p * 6 + t) := by
  obtain ⟨q1, q2, q3, q4, q5⟩ := r_Q R
  have e : asH h n 33 = lnF (asT h n) n := by unfold asH; exact va_up_self _ _ _
  have e10 := R.1.2.2.2.2 (p * 6 + t) (by omega)
  rw [show (p * 6 + t) / 6 = p by omega, show (p * 6 + t) % 6 = t by omega] at e10
  rw [e, e10]
  unfold lnF
  rw [if_pos (by omega), show (3 * t + p) % 3 = p by omega, show (3 * t + p) / 3 = t by omega]
  have e34 : asT h n 34 = cpF (h 34) (h 26) n := by unfold asT; exact va_up_self _ _ _
  have e32 : asT h n 32 = rtR h (n * 6) := by unfold asT; rw [va_up_ne _ _ (by decide), va_up_self]
  rw [e32, e34]
  refine ldT_V ht (fun i hi => ?_) (fun j hj => ?_)
  · rw [cp_agr _ _ _ i hi]; exact q5 i hi
  · rw [rt_tk h n j hj, q1, q2]
theorem t_load (hF : Full G) (R : Rel n q u tx ty lt h) (v t : Int32) : twoI G yX4_load cX4_load 3 2 yX5_load cX5_load 3 3 [.int v, .int t] h := by
  by_cases hv : (0 ≤ v ∧ v ≤ 2) ∧ 0 ≤ t ∧ t ≤ 5
  · obtain ⟨p, hp, rfl⟩ := rgN (m := 2) rfl (by decide) hv.1
    obtain ⟨t, ht, rfl⟩ := rgN (m := 5) rfl (by decide) hv.2
    have z := o_X5_load hF R.2.1 (show p < 3 by omega) (show t < 6 by omega)
    rw [as33 R (by omega) (by omega)] at z
    exact tw_dd (o_X4_load hF (by omega) (by omega)) z ⟨n, q, u, tx, ty, lt, Rel_as R⟩
  · exact tw_2as R (b_X4_load hF hv) (b_X5_load hF (RI_ref R.2.1) hv)
theorem as_nt (R : Rel n q u tx ty lt h) {t : Nat} (ht : t < 6) : ntR (asH h n) t = ntC h t := by
  unfold ntR ntC
  have a0 := as33 R (p := 0) (by decide) ht
  have a1 := as33 R (p := 1) (by decide) ht
  have a2 := as33 R (p := 2) (by decide) ht
  rw [show 3 * t + 0 = 3 * t from rfl, show 0 * 6 + t = t by omega] at a0
  rw [show 1 * 6 + t = 6 + t by omega] at a1
  rw [show 2 * 6 + t = 12 + t by omega] at a2
  rw [a0, a1, a2]
theorem as_gr (R : Rel n q u tx ty lt h) : grR (asH h n) = grC h := by
  unfold grR grC
  rw [as_cell (by decide) (by decide) (by decide), (r_Q R).2.2.2.1]
  exact gsum_cong (fun t ht => as_nt R ht)
theorem t_neutral (hF : Full G) (R : Rel n q u tx ty lt h) (t : Int32) : twoI G yX4_neutral cX4_neutral 2 2 yX5_neutral cX5_neutral 2 3 [.int t] h := by
  by_cases hv : 0 ≤ t ∧ t ≤ 5
  · obtain ⟨t, ht, rfl⟩ := rgN (m := 5) rfl (by decide) hv
    have z := o_X5_neutral hF R.2.1 (show t < 6 by omega)
    rw [as_nt R (by omega)] at z
    exact tw_dd (o_X4_neutral hF (by omega)) z ⟨n, q, u, tx, ty, lt, Rel_as R⟩
  · exact tw_2as R (b_X4_neutral hF hv) (b_X5_neutral hF (RI_ref R.2.1) hv)
theorem t_grief (hF : Full G) (R : Rel n q u tx ty lt h) : twoI G yX4_grief cX4_grief 1 3 yX5_grief cX5_grief 1 4 [] h := by
  have z := c_X5_grief hF R.2.1
  rw [as_gr R] at z
  exact tw_dd (c_X4_grief hF) z ⟨n, q, u, tx, ty, lt, Rel_as R⟩
theorem agr_sym {a b : Nat → Int32} {k : Nat} (e : agr k a b) : agr k b a := fun i hi => (e i hi).symm
theorem t_good (hF : Full G) (R : Rel n q u tx ty lt h) (x : Int32) : twoI G yX4_good cX4_good 2 2 yX5_good cX5_good 2 3 [.int x] h := by
  obtain ⟨q1, q2, q3, q4, q5⟩ := r_Q R
  by_cases hv : 0 ≤ x ∧ x ≤ 1
  · obtain ⟨m, hm, rfl⟩ := rgN (m := 1) rfl (by decide) hv
    rcases (show m = 0 ∨ m = 1 by omega) with rfl | rfl
    · have z := o0_X5_good hF R.2.1
      have e : bP (sfR (asH h n)) = bP (∀ j, j < 18 → absI (h 10 j) ≤ h 1 11) := by
        refine bP_iff (sfR_as.trans ?_)
        rw [q1, q2, (r_P R).1]
        exact ((sfV_W (agr_sym q5) (r_TB R) (r_fu R)).symm.trans (sfC_V R.1.2.2.2.2).symm)
      rw [e] at z
      exact tw_dd (o0_X4_good hF) z ⟨n, q, u, tx, ty, lt, Rel_as R⟩
    · have z := o1_X5_good hF R.2.1 R.2.2.1
      have e34 : asH h n 34 = cpF (h 34) (h 26) n := by unfold asH asT; rw [va_up_ne _ _ (by decide), va_up_self]
      have e : bP (kpR (asH h n) q tx ty) = bP (∀ j, j < n → h 4 j = h 4 (lt j)) := by
        refine bP_iff (Iff.trans ?_ ((r_L R).2.2 (h 4)))
        unfold kpR
        rw [e34]
        constructor
        · intro z k hk
          obtain ⟨k1, k2, -⟩ := (r_L R).2.1 k hk
          have := z k hk
          rw [cp_agr _ _ _ _ k1, cp_agr _ _ _ _ k2, q5 _ k1, q5 _ k2] at this
          exact this
        · intro z k hk
          obtain ⟨k1, k2, -⟩ := (r_L R).2.1 k hk
          rw [cp_agr _ _ _ _ k1, cp_agr _ _ _ _ k2, q5 _ k1, q5 _ k2]
          exact z k hk
      rw [e] at z
      exact tw_dd (o1_X4_good hF R.1 (r_lt R)) z ⟨n, q, u, tx, ty, lt, Rel_as R⟩
  · exact tw_2as R (b_X4_good hF hv) (b_X5_good hF (RI_ref R.2.1) hv)
theorem hg_cong {f g : Nat → Int32} : ∀ {k : Nat}, (∀ j, j ≤ k → f j = g j) → hgF f k = hgF g k
  | 0, _ => rfl
  | k + 1, e => by
    unfold hgF
    have ih := hg_cong (k := k) (fun j hj => e j (by omega))
    have hl := hgF_le g k
    rw [ih, e (hgF g k) (by omega), e (k + 1) (Nat.le_refl _)]
theorem gl_pl {f g : Nat → Int32} (h0 : glF f 1 = f 0) : ∀ k, (∀ j, j ≤ k → f j = g j) → glF f (k + 1) = g (plN g k)
  | 0, e => by rw [h0]; exact e 0 (Nat.le_refl _)
  | k + 1, e => by
    have ih := gl_pl h0 k (fun j hj => e j (by omega))
    rw [glF, ih, e (k + 1) (Nat.le_refl _), plN]
    by_cases z : absI (g (plN g k)) < absI (g (k + 1))
    · rw [if_pos z, if_pos z]
    · rw [if_neg z, if_neg z]
theorem abs_0 {x : Int32} (hx : bz 540 x) (h : ¬ absI 0 < absI x) : x = 0 := by
  have e0 : (0 : Int32).toInt = 0 := rfl
  have ea : absI 0 = 0 := rfl
  rw [ea, Int32.lt_iff_toInt_lt, e0] at h
  unfold absI at h
  by_cases y : 0 ≤ x
  · rw [if_pos y] at h
    rw [Int32.le_iff_toInt_le, e0] at y
    exact Int32.toInt_inj.mp (by omega)
  · rw [if_neg y, z_sub (x := 0) (y := x) (A := 0) ⟨by decide, by decide⟩ hx (by omega), e0] at h
    rw [Int32.le_iff_toInt_le, e0] at y
    exact Int32.toInt_inj.mp (by omega)
theorem t_worst (hF : Full G) (R : Rel n q u tx ty lt h) (x : Int32) : twoI G yX4_worst cX4_worst 2 3 yX5_worst cX5_worst 5 3 [.int x] h := by
  by_cases hv : 0 ≤ x ∧ x ≤ 1
  · obtain ⟨m, hm, rfl⟩ := rgN (m := 1) rfl (by decide) hv
    rcases (show m = 0 ∨ m = 1 by omega) with rfl | rfl
    · have z := o0_X5_worst hF R.2.1
      rw [hg_cong (f := ntR (asH h n)) (g := ntC h) (fun j hj => as_nt R (by omega))] at z
      exact tw_dd (o0_X4_worst hF) z ⟨n, q, u, tx, ty, lt, Rel_as R⟩
    · have z := o1_X5_worst hF R.2.1
      have ef : ∀ j, j ≤ 17 → glI h j = asH h n 33 j := by
        intro j hj
        have := as33 R (p := j % 3) (t := j / 3) (by omega) (by omega)
        rw [show 3 * (j / 3) + j % 3 = j by omega] at this
        rw [this]
        rfl
      have e0 : glF (glI h) 1 = glI h 0 := by
        show (if absI 0 < absI (glI h 0) then glI h 0 else 0) = glI h 0
        by_cases y : absI 0 < absI (glI h 0)
        · rw [if_pos y]
        · rw [if_neg y]
          have hb : bz 540 (glI h 0) := by
            show bz 540 (h 10 0)
            have e10 := R.1.2.2.2.2 0 (by omega)
            rw [e10, ldV_f (by decide)]
            exact ld_540 (r_TB R) (by decide)
          exact (abs_0 hb y).symm
      rw [← gl_pl e0 17 ef] at z
      exact tw_dd (o1_X4_worst hF) z ⟨n, q, u, tx, ty, lt, Rel_as R⟩
  · exact tw_2 R (b_X4_worst hF hv) (b_X5_worst hF hv)
theorem to_eq (R : Rel n q u tx ty lt h) {x : Nat} (hx : x ≤ 7) : toR h n x = toF h n x := by
  obtain ⟨f1, f2, f3⟩ := r_F R
  obtain ⟨p1, p2, p3⟩ := r_P R
  obtain ⟨u1, u2, u3, -⟩ := r_U R
  rcases (show x = 0 ∨ x = 1 ∨ x = 2 ∨ x = 3 ∨ x = 4 ∨ x = 5 ∨ x = 6 ∨ x = 7 by omega) with rfl | rfl | rfl | rfl | rfl | rfl | rfl | rfl
  · exact f1
  · exact f2
  · exact f3
  · show h 23 4 = h 1 9
    rw [R.2.1.2.1, R.1.2.1]
  · show h 23 8 = h 1 10
    rw [R.2.2.1.2.1, p2]
  · exact p1
  · show h 23 10 = h 21 0
    rw [u2, u3]
  · show fbF (h 27) n = fbF (h 5) n
    rw [(r_Q R).2.2.1]
theorem t_told (hF : Full G) (R : Rel n q u tx ty lt h) (x : Int32) : twoI G yX4_told cX4_told 2 2 yX5_told cX5_told 2 1 [.int x] h := by
  by_cases hv : 0 ≤ x ∧ x ≤ 7
  · obtain ⟨m, hm, rfl⟩ := rgN (m := 7) rfl (by decide) hv
    have z := o_X5_told hF R.2.1 hm
    rw [to_eq R hm] at z
    exact tw_dd (o_X4_told hF R.1 hm) z ⟨n, q, u, tx, ty, lt, R⟩
  · exact tw_2 R (b_X4_told hF hv) (b_X5_told hF hv)
theorem dgS_cong {v w : Nat → Int32} {x : Int64} : ∀ {k : Nat}, (∀ j, j < k → v j = w j) → dgS v k x = dgS w k x
  | 0, _ => rfl
  | k + 1, e => by unfold dgS; rw [dgS_cong (fun j hj => e j (by omega)), e k (by omega)]
theorem dg3_cong {a b v w : Nat → Int32} {x : Int64} : ∀ {k : Nat}, (∀ j, j < k → v j = w j) → dg3 a b v k x = dg3 a b w k x
  | 0, _ => rfl
  | k + 1, e => by unfold dg3; rw [dg3_cong (fun j hj => e j (by omega)), e k (by omega)]
theorem dg2_S {a b v : Nat → Int32} {x : Int64} : ∀ {k : Nat}, (∀ j, j < k → v (2 * j) = a j ∧ v (2 * j + 1) = b j) → dgS v (2 * k) x = dg2 a b k x
  | 0, _ => rfl
  | k + 1, e => by
    show 31 * (31 * dgS v (2 * k) x + (v (2 * k)).toInt64) + (v (2 * k + 1)).toInt64 = _
    rw [dg2_S (k := k) (fun j hj => e j (by omega)), (e k (by omega)).1, (e k (by omega)).2]
    rfl
theorem t_digest (hF : Full G) (R : Rel n q u tx ty lt h) : twoL G yX4_digest cX4_digest 4 3 yX5_digest cX5_digest 4 4 [] h := by
  obtain ⟨q1, q2, q3, q4, q5⟩ := r_Q R
  have z := c_X5_digest hF R.2.1 (r_q R) R.2.2.1.2.1
  rw [as_gr R, q1, q2, q4, dg3_cong (v := h 26) (w := h 4) q5, dgS_cong (v := toR h n) (w := toF h n) (fun j hj => to_eq R (by omega)), dg2_S (v := h 29) (a := h 7) (b := h 8) (fun j hj => by
    rw [(R.2.2.1.2.2 j hj).2.2.1, (R.2.2.1.2.2 j hj).2.2.2, ((r_P R).2.2 j hj).1, ((r_P R).2.2 j hj).2]
    exact ⟨rfl, rfl⟩)] at z
  exact ⟨_, c_X4_digest hF R.1 (r_q R) (r_P R).2.1, fun r g e => by
    obtain ⟨rfl, rfl⟩ := e
    exact ⟨_, rfl, _, z, fun r2 h2 e => by obtain ⟨rfl, rfl⟩ := e; exact ⟨rfl, n, q, u, tx, ty, lt, Rel_as R⟩⟩⟩
end OPS3
