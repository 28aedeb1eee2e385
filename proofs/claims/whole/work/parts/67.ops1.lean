/-- a call of both: they answer alike, and are alike behind it -/
def twoI (G : GxT) (yc : MethodName) (cc : ByteArray) (mL dc : Nat) (yr : MethodName) (cr : ByteArray) (mR dr : Nat) (av : List Value) (h : HpT) : Prop := ∃ (P : Option Value → HpT → Prop), mc G yc cc mL (some .int) dc (.ref (gad G 0) :: av) h P ∧ ∀ r h1, P r h1 → ∃ x, r = some (.int x) ∧ ∃ (Q : Option Value → HpT → Prop), mc G yr cr mR (some .int) dr (.ref (gad G 23) :: av) h1 Q ∧ ∀ r2 h2, Q r2 h2 → r2 = some (.int x) ∧ RX h2
theorem tw_dd {G : GxT} {yc yr : MethodName} {cc cr : ByteArray} {mL dc mR dr : Nat} {av : List Value} {h h1 h2 : HpT} {x : Int32} (hc : mci G yc cc mL (some .int) dc (.ref (gad G 0) :: av) h x h1) (hr : mci G yr cr mR (some .int) dr (.ref (gad G 23) :: av) h1 x h2) (hx : RX h2) : twoI G yc cc mL dc yr cr mR dr av h := ⟨_, hc, fun r g e => by
  obtain ⟨rfl, rfl⟩ := e
  exact ⟨x, rfl, _, hr, fun r2 h2 e => by obtain ⟨rfl, rfl⟩ := e; exact ⟨rfl, hx⟩⟩⟩
theorem ref_2 (h : HpT) : refC h (-2) = hs h 0 4 (h 0 4 + 1) := if_pos rfl
theorem ref_3 (h : HpT) : refC h (-3) = hs h 0 5 (h 0 5 + 1) := by unfold refC; rw [if_neg (by decide), if_pos rfl]
theorem ref_4 (h : HpT) : refC h (-4) = hs h 0 6 (h 0 6 + 1) := by unfold refC; rw [if_neg (by decide), if_neg (by decide)]
theorem ref_ne {h : HpT} {w : Int32} {k : Nat} (hk : k ≠ 0) : refC h w k = h k := by
  unfold refC hs
  split
  · exact va_up_ne _ _ hk
  · split
    · exact va_up_ne _ _ hk
    · exact va_up_ne _ _ hk
theorem RI_ref {n : Nat} {h : HpT} {w : Int32} (hS : RI n h) : RI n (refC h w) := RI_cells hS (by rw [ref_ne (by decide)]) (ref_ne (by decide)) (ref_ne (by decide)) (ref_ne (by decide))
theorem TI_ref {q : Nat} {tx ty : Nat → Nat} {h : HpT} {w : Int32} (hT : TI2 q tx ty h) : TI2 q tx ty (refC h w) := by
  unfold TI2
  rw [ref_ne (by decide), ref_ne (by decide)]
  exact hT
section TW
variable {G : GxT} {yc yr : MethodName} {cc cr : ByteArray} {mL dc mR dr : Nat} {av : List Value} {h : HpT} {n q u : Nat} {tx ty lt : Nat → Nat}
theorem tw_2 (R : Rel n q u tx ty lt h) (hc : mci G yc cc mL (some .int) dc (.ref (gad G 0) :: av) h (-2) (refC h (-2))) (hr : mci G yr cr mR (some .int) dr (.ref (gad G 23) :: av) (refC h (-2)) (-2) (hs (refC h (-2)) 31 0 (refC h (-2) 31 0 + 1))) : twoI G yc cc mL dc yr cr mR dr av h := tw_dd hc hr ⟨n, q, u, tx, ty, lt, by rw [ref_2]; exact Rel_ref R (k := 0) (by decide)⟩
theorem tw_3 (R : Rel n q u tx ty lt h) (hc : mci G yc cc mL (some .int) dc (.ref (gad G 0) :: av) h (-3) (refC h (-3))) (hr : mci G yr cr mR (some .int) dr (.ref (gad G 23) :: av) (refC h (-3)) (-3) (hs (refC h (-3)) 31 1 (refC h (-3) 31 1 + 1))) : twoI G yc cc mL dc yr cr mR dr av h := tw_dd hc hr ⟨n, q, u, tx, ty, lt, by rw [ref_3]; exact Rel_ref R (k := 1) (by decide)⟩
theorem tw_4 (R : Rel n q u tx ty lt h) (hc : mci G yc cc mL (some .int) dc (.ref (gad G 0) :: av) h (-4) (refC h (-4))) (hr : mci G yr cr mR (some .int) dr (.ref (gad G 23) :: av) (refC h (-4)) (-4) (hs (refC h (-4)) 31 2 (refC h (-4) 31 2 + 1))) : twoI G yc cc mL dc yr cr mR dr av h := tw_dd hc hr ⟨n, q, u, tx, ty, lt, by rw [ref_4]; exact Rel_ref R (k := 2) (by decide)⟩
theorem as_cell {g : HpT} {k : Nat} (h1 : k ≠ 32) (h2 : k ≠ 33) (h3 : k ≠ 34) : asH g n k = g k := by
  unfold asH asT
  rw [va_up_ne _ _ h2, va_up_ne _ _ h3, va_up_ne _ _ h1]
theorem Rel_as {g : HpT} (R : Rel n q u tx ty lt g) : Rel n q u tx ty lt (asH g n) := Rel_q R (fun k hk => as_cell (by omega) (by omega) (by omega)) (by rw [as_cell (by decide) (by decide) (by decide)]) (by rw [as_cell (by decide) (by decide) (by decide)]) (by rw [as_cell (by decide) (by decide) (by decide)]) (by rw [as_cell (by decide) (by decide) (by decide)])
theorem hs_as {g : HpT} {k j : Nat} {v : Int32} (h1 : k ≠ 32) (h2 : k ≠ 33) (h3 : k ≠ 34) : hs (asH g n) k j v = va_up (va_up (va_up (hs g k j v) 32 (asH g n 32)) 34 (asH g n 34)) 33 (asH g n 33) := by
  unfold hs
  rw [as_cell h1 h2 h3]
  funext x
  simp only [va_up]
  by_cases e : x = k
  · subst e; simp [h1, h2, h3]
  · by_cases e1 : x = 33
    · subst e1; simp [Ne.symm h2]
    · by_cases e2 : x = 34
      · subst e2; simp [Ne.symm h3]
      · by_cases e3 : x = 32
        · subst e3; simp [Ne.symm h1]
        · simp only [e, e1, e2, e3, if_false]
          exact as_cell e3 e1 e2
theorem tw_2as (R : Rel n q u tx ty lt h) (hc : mci G yc cc mL (some .int) dc (.ref (gad G 0) :: av) h (-2) (refC h (-2))) (hr : mci G yr cr mR (some .int) dr (.ref (gad G 23) :: av) (refC h (-2)) (-2) (hs (asH (refC h (-2)) n) 31 0 (refC h (-2) 31 0 + 1))) : twoI G yc cc mL dc yr cr mR dr av h := tw_dd hc hr ⟨n, q, u, tx, ty, lt, by
  rw [hs_as (by decide) (by decide) (by decide), ref_2]
  refine Rel_q (Rel_ref R (k := 0) (by decide)) (fun k hk => ?_) rfl rfl rfl rfl
  rw [va_up_ne _ _ (by omega), va_up_ne _ _ (by omega), va_up_ne _ _ (by omega)]
  rfl⟩
end TW
theorem rg_upd {f : Nat → Int32} {i m : Nat} {x : Int32} (h : ∀ j, j < 9 → ∃ a, a < m ∧ f j = nI a) (hx : ∃ a, a < m ∧ x = nI a) : ∀ j, j < 9 → ∃ a, a < m ∧ upd f i x j = nI a := by
  intro j hj
  by_cases e : j = i
  · subst e; rw [pk_us]; exact hx
  · rw [pk_un e]; exact h j hj
theorem RI_class {n : Nat} {h g : HpT} (hS : RI n h) (e : ∀ k, 23 ≤ k → g k = h k) : RI n g := RI_cells hS (by rw [e 23 (by decide)]) (e 24 (by decide)) (e 25 (by decide)) (e 26 (by decide))
theorem TI_class {q : Nat} {tx ty : Nat → Nat} {h g : HpT} (hT : TI2 q tx ty h) (e : ∀ k, 23 ≤ k → g k = h k) : TI2 q tx ty g := by
  unfold TI2
  rw [e 23 (by decide), e 29 (by decide)]
  exact hT
theorem hs_ne {h : HpT} {k j : Nat} {v : Int32} {x : Nat} (e : x ≠ k) : hs h k j v x = h x := va_up_ne _ _ e
section OPS1
variable {G : GxT} {h : HpT} {n q u : Nat} {tx ty lt : Nat → Nat}
theorem t_house (hF : Full G) (R : Rel n q u tx ty lt h) (a z p : Int32) : twoI G yX4_house cX4_house 4 3 yX5_house cX5_house 4 1 [.int a, .int z, .int p] h := by
  by_cases hv : ((0 ≤ a ∧ a ≤ 5) ∧ (1 ≤ z ∧ z ≤ 20) ∧ (0 ≤ p ∧ p ≤ 2))
  · by_cases h9 : n = 9
    · exact tw_4 R (f_X4_house hF R.1 hv h9) (f_X5_house hF (RI_ref R.2.1) hv h9)
    · have hn := r_n R
      obtain ⟨a', ha, rfl⟩ := rgN (m := 5) rfl (by decide) hv.1
      obtain ⟨p', hp, rfl⟩ := rgN (m := 2) rfl (by decide) hv.2.2
      obtain ⟨z', hz, ez⟩ := rgN (m := 20) rfl (by decide) (show 0 ≤ z ∧ z ≤ 20 from ⟨Int32.le_trans (by decide) hv.2.1.1, hv.2.1.2⟩)
      have e23 : ∀ k, 23 ≤ k → cano (n + 1) (newC (scH h) n (nI a') z (nI p')) k = h k := by
        intro k hk
        rw [cano_cell _ _ (by omega)]
        unfold newC scH
        rw [hs_ne (by omega), hs_ne (by omega), hs_ne (by omega), hs_ne (by omega), hs_ne (by omega), hs_ne (by omega), hs_ne (by omega), hs_ne (by omega)]
      refine tw_dd (o_X4_house hF R.1 (by omega) (by omega) (by omega) hv.2.1) (o_X5_house hF (RI_class R.2.1 e23) (by omega) (by omega) (by omega) hv.2.1) ⟨n + 1, q, 0, tx, ty, fun i => if i = n then n else lt i, ?_⟩
      generalize hg : cano (n + 1) (newC (scH h) n (nI a') z (nI p')) = g
      have s1 : SI (n + 1) g := by rw [← hg]; exact SI_new (SI_sc R.1) (by omega) (by omega) (by omega)
      have c24 : g 24 = h 24 := by rw [← hg]; exact e23 24 (by decide)
      have c25 : g 25 = h 25 := by rw [← hg]; exact e23 25 (by decide)
      have c26 : g 26 = h 26 := by rw [← hg]; exact e23 26 (by decide)
      have c27 : g 27 = h 27 := by rw [← hg]; exact e23 27 (by decide)
      have c28 : g 28 = h 28 := by rw [← hg]; exact e23 28 (by decide)
      have c23 : g 23 = h 23 := by rw [← hg]; exact e23 23 (by decide)
      have c29 : g 29 = h 29 := by rw [← hg]; exact e23 29 (by decide)
      have c31 : g 31 = h 31 := by rw [← hg]; exact e23 31 (by decide)
      have d2 : g 2 = upd (h 2) n (nI a') := by rw [← hg]; rfl
      have d3 : g 3 = upd (h 3) n z := by rw [← hg]; rfl
      have d4 : g 4 = upd (h 4) n (nI p') := by rw [← hg]; rfl
      have d5 : g 5 = upd (h 5) n 0 := by rw [← hg]; rfl
      have d6 : g 6 = upd (h 6) n (nI n) := by rw [← hg]; rfl
      have d7 : g 7 = h 7 := by rw [← hg]; rfl
      have d8 : g 8 = h 8 := by rw [← hg]; rfl
      have d9 : g 9 = h 9 := by rw [← hg]; rfl
      have d0 : g 0 = h 0 := by rw [← hg]; rfl
      have d1 : g 1 = upd (h 1) 9 (nI (n + 1)) := by rw [← hg]; rfl
      have d18 : g 18 = h 18 := by rw [← hg]; rfl
      have d21 : g 21 0 = 0 := by rw [← hg]; rfl
      have d11 : g 11 13 = 0 := by rw [← hg]; rfl
      obtain ⟨q1, q2, q3, q4, q5⟩ := r_Q R
      obtain ⟨p1, p2, p3⟩ := r_P R
      refine ⟨SI_cells s1 rfl rfl rfl rfl rfl, ⟨by omega, ?_, ?_, ?_⟩, ⟨r_q R, ?_, ?_⟩, LTI_new (r_L R), ?_, ⟨?_, ?_, ?_, ?_, ?_⟩, ⟨?_, ?_, ?_⟩, ⟨by omega, d21, rfl, fun j hj => absurd hj (Nat.not_lt_zero _)⟩, ⟨?_, ?_, ?_⟩, ?_, ⟨?_, ?_, ?_⟩, fun y => absurd d11 y⟩
      · rfl
      · show ∀ i, i < 9 → ∃ b, b < 6 ∧ upd (g 24) n (nI a') i = nI b
        rw [c24]; exact rg_upd R.2.1.2.2.1 ⟨a', by omega, rfl⟩
      · show ∀ i, i < 9 → ∃ b, b < 3 ∧ upd (g 26) n (nI p') i = nI b
        rw [c26]; exact rg_upd R.2.1.2.2.2 ⟨p', by omega, rfl⟩
      · show g 23 8 = nI q
        rw [c23]; exact R.2.2.1.2.1
      · show ∀ k, k < q → tx k < 9 ∧ ty k < 9 ∧ g 29 (2 * k) = nI (tx k) ∧ g 29 (2 * k + 1) = nI (ty k)
        rw [c29]; exact R.2.2.1.2.2
      · intro i hi
        show g 6 i = nI (if i = n then n else lt i)
        rw [d6]
        by_cases e : i = n
        · subst e; rw [pk_us]; simp
        · rw [pk_un e, if_neg e]; exact R.2.2.2.2.1 i (by omega)
      · show upd (g 24) n (nI a') = g 2
        rw [c24, d2, q1]
      · show upd (g 25) n z = g 3
        rw [c25, d3, q2]
      · show upd (g 27) n 0 = g 5
        rw [c27, d5, q3]
      · show g 28 = g 9
        rw [c28, d9, q4]
      · show agr (n + 1) (upd (g 26) n (nI p')) (g 4)
        rw [c26, d4]
        intro j hj
        by_cases e : j = n
        · subst e; rw [pk_us, pk_us]
        · rw [pk_un e, pk_un e]; exact q5 j (by omega)
      · show g 23 6 = g 1 11
        rw [c23, d1, pk_un (by decide)]; exact p1
      · show g 1 10 = nI q
        rw [d1, pk_un (by decide)]; exact p2
      · show ∀ k, k < q → g 7 k = nI (tx k) ∧ g 8 k = nI (ty k)
        rw [d7, d8]; exact p3
      · show g 31 0 = g 0 4
        rw [c31, d0]; exact (r_F R).1
      · show g 31 1 = g 0 5
        rw [c31, d0]; exact (r_F R).2.1
      · show g 31 2 = g 0 6
        rw [c31, d0]; exact (r_F R).2.2
      · show ∀ j, j < 18 → g 18 j = 0
        rw [d18]; exact r_18 R
      · show ∀ i, i < 9 → ∃ b, b < 21 ∧ g 3 i = nI b
        rw [d3]; exact rg_upd (r_G R).1 ⟨z', by omega, ez⟩
      · show WB (g 9)
        rw [d9]; exact (r_G R).2.1
      · show ∃ f, f ≤ 400 ∧ g 1 11 = nI f
        rw [d1, pk_un (by decide)]; exact (r_G R).2.2
  · exact tw_2 R (b_X4_house hF hv) (b_X5_house hF hv)
end OPS1
