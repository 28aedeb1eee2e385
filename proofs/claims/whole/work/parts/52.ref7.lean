noncomputable def dnR (so sz w : Nat → Int32) (fu : Int32) (fr : Nat → Int32) (n : Nat) (g0 : Nat → Int32) (fp : StF) : Nat → (Nat → Int32) × StF
  | 0 => (g0, fdF (cmV so sz w fu n) fr g0 n (upd fp 0 (-1)))
  | j + 1 => (nsR (dnR so sz w fu fr n g0 fp j).1 (dnR so sz w fu fr n g0 fp j).2, fdF (cmV so sz w fu n) fr (nsR (dnR so sz w fu fr n g0 fp j).1 (dnR so sz w fu fr n g0 fp j).2) n (upd (dnR so sz w fu fr n g0 fp j).2 0 (-1)))
def lsQ (so sz w : Nat → Int32) (n : Nat) (q : (Nat → Int32) × StF) : Prop := ¬ q.2 0 < 0 ∧ q.2 0 < grV so sz q.1 w n
theorem frR_cong {h h2 : HpT} {q : Nat} (e1 : h2 27 = h 27) (e2 : h2 29 = h 29) : frR h2 q = frR h q := by unfold frR tdR; rw [e1, e2]
set_option maxRecDepth 20000 in
theorem l_X5_down {X : XxT} {post : Option Value → HpT → Prop} (hF : Full X.1) (F : FxT X cX5_down RX5 5) (Rr : RxT X (some .int) post) (hL : X.2.2.2.2.2.2.2.2.2.2.2.2.2.1 = 2) {K : HpT} {n q m : Nat} {g0 : Nat → Int32} {fp : StF} (hS : RI n K) (hq : q ≤ 6) (eq : K 23 8 = nI q) (hm : m ≤ 19683) (hg : ∀ j, j ≤ m → ∀ i, i < 9 → ∃ a, a < 3 ∧ ((dnR (K 24) (K 25) (K 28) (K 23 6) (frR K q) n g0 fp) j).1 i = nI a) (hl : ∀ j, j < m → lsQ (K 24) (K 25) (K 28) n ((dnR (K 24) (K 25) (K 28) (K 23 6) (frR K q) n g0 fp) j)) (hz : ¬ lsQ (K 24) (K 25) (K 28) n ((dnR (K 24) (K 25) (K 28) (K 23 6) (frR K q) n g0 fp) m)) (hf : ∀ j, j < m → FVr n ((dnR (K 24) (K 25) (K 28) (K 23 6) (frR K q) n g0 fp) j).2) (hp : ∀ t nw l, post (some (.int (nI m))) (rdh K ((dnR (K 24) (K 25) (K 28) (K 23 6) (frR K q) n g0 fp) m).1 t nw l ((dnR (K 24) (K 25) (K 28) (K 23 6) (frR K q) n g0 fp) m).2)) :
    ∀ (k j : Nat) (t nw l : Nat → Int32), m - (j + 1) < k → j + 1 ≤ m → rn X 2 [(0, .ref (gad X.1 23)), (1, .int (nI (j + 1)))] [] (rdh K ((dnR (K 24) (K 25) (K 28) (K 23 6) (frR K q) n g0 fp) (j + 1)).1 t nw l ((dnR (K 24) (K 25) (K 28) (K 23 6) (frR K q) n g0 fp) j).2) := by
  intro k
  induction k with
  | zero => intro j t nw l hk; exact absurd hk (Nat.not_lt_zero _)
  | succ k ih =>
    intro j t nw l hk hj
    refine rn_aload_n (np := 3) F dX5_down_2 rfl rfl <| (rn_cV0q (np := 6) F dX5_down_3 rfl cv_X5_lessens wM_X5_155 (fs hF rfl rfl) rfl (c_X5_lessens (n := n) (q := q) hF (show RI n (rdh K ((dnR (K 24) (K 25) (K 28) (K 23 6) (frR K q) n g0 fp) (j + 1)).1 t nw l ((dnR (K 24) (K 25) (K 28) (K 23 6) (frR K q) n g0 fp) j).2) from ⟨hS.1, hS.2.1, hS.2.2.1, hg (j + 1) hj⟩) hq eq) (Nat.le_of_ble_eq_true rfl) (Nat.le_of_ble_eq_true rfl) ?_)
    rintro x h3 ⟨rfl, l2, rfl⟩
    rw [rd_fd]
    by_cases hlt : lsR (rdh K ((dnR (K 24) (K 25) (K 28) (K 23 6) (frR K q) n g0 fp) (j + 1)).1 t nw l ((dnR (K 24) (K 25) (K 28) (K 23 6) (frR K q) n g0 fp) j).2) n q
    · have hjm : j + 1 < m := by
        rcases Nat.lt_or_ge (j + 1) m with z | z
        · exact z
        · have e : j + 1 = m := by omega
          subst e
          exact absurd hlt hz
      refine rn_if_eq (tg := 27) (np := 9) F dX5_down_6 rfl rfl (fun q => absurd q ((fun z => bP_0 z hlt))) (fun _ => rn_iload_n (np := 10) F dX5_down_9 rfl rfl <| rn_if_ne (tg := 17) (np := 13) F dX5_down_10 rfl rfl (fun _ => rn_aload_n (np := 18) F dX5_down_17 rfl rfl <| rn_cV0v (np := 21) F dX5_down_18 rfl cv_X5_steps wM_X5_158 (fs hF rfl rfl) rfl (c_X5_steps (n := n) hF hS.1 (hf (j + 1) hjm)) (Nat.le_of_ble_eq_true rfl) (Nat.le_of_ble_eq_true rfl) <| rn_hpE (rd_26 _ _ _ _ _ _ _) <| rn_iincN (np := 24) F dX5_down_21 rfl rfl hL rfl <| rn_goto (np := 2) F dX5_down_24 rfl <| ?_) (fun q => absurd q ((nI_ne0 (n := j + 1) (by omega) (by omega)))))
      exact ih (j + 1) _ _ _ (by omega) (by omega)
    · have e : j + 1 = m := by
        rcases Nat.lt_or_ge (j + 1) m with z | z
        · exact absurd (hl (j + 1) z) hlt
        · omega
      refine rn_if_eq (tg := 27) (np := 9) F dX5_down_6 rfl rfl (fun _ => rn_iload_n (np := 28) F dX5_down_27 rfl rfl <| rn_iret F Rr dX5_down_28 ?_) (fun q => absurd q ((fun z => z (bP_f hlt))))
      subst e
      exact hp _ _ _
theorem rdK {K : HpT} (g t nw l : Nat → Int32) {f : Nat → Int32} (e32 : K 32 = t) (e34 : K 34 = nw) (e33 : K 33 = l) (e37 : K 37 = f) : va_up K 26 g = rdh K g t nw l f := by
  subst e32 e34 e33 e37
  unfold rdh
  rw [show K 32 = va_up K 26 g 32 from rfl, up_id, show K 34 = va_up K 26 g 34 from rfl, up_id, show K 33 = va_up K 26 g 33 from rfl, up_id, show K 37 = va_up K 26 g 37 from rfl, up_id]
set_option maxRecDepth 20000 in
theorem c_X5_down {G : GxT} (hF : Full G) {h : HpT} {n q u m : Nat} (hS : RI n h) (hq : q ≤ 6) (eq : h 23 8 = nI q) (hu : u ≤ 8) (eu : h 23 10 = nI u) (hm : m ≤ 19683) (hl : ∀ j, j < m → lsQ (h 24) (h 25) (h 28) n ((dnR (h 24) (h 25) (h 28) (h 23 6) (frR h q) n (h 26) (h 37)) j)) (hz : ¬ lsQ (h 24) (h 25) (h 28) n ((dnR (h 24) (h 25) (h 28) (h 23 6) (frR h q) n (h 26) (h 37)) m)) (hf : ∀ j, j < m → FVr n ((dnR (h 24) (h 25) (h 28) (h 23 6) (frR h q) n (h 26) (h 37)) j).2) : mc G yX5_down cX5_down 2 (some .int) 5 [.ref (gad G 23)] h (fun r h2 => r = some (.int (nI m)) ∧ ((m = 0 ∧ ∃ t nw l, h2 = rdh h (h 26) t nw l ((dnR (h 24) (h 25) (h 28) (h 23 6) (frR h q) n (h 26) (h 37)) 0).2) ∨ (0 < m ∧ ∃ t nw l t2 nw2 l2, h2 = rdh (keepR (rdh h (h 26) t nw l ((dnR (h 24) (h 25) (h 28) (h 23 6) (frR h q) n (h 26) (h 37)) 0).2) u) ((dnR (h 24) (h 25) (h 28) (h 23 6) (frR h q) n (h 26) (h 37)) m).1 t2 nw2 l2 ((dnR (h 24) (h 25) (h 28) (h 23 6) (frR h q) n (h 26) (h 37)) m).2))) := by
  refine mc_of (by decide) (Nat.le_of_ble_eq_true rfl) (fun X hG F Rr hL => ?_)
  subst hG
  have F : FxT X cX5_down RX5 5 := F
  show rn X 0 [(0, .ref (gad X.1 23))] [] h
  have hg : ∀ j, j ≤ m → ∀ i, i < 9 → ∃ a, a < 3 ∧ ((dnR (h 24) (h 25) (h 28) (h 23 6) (frR h q) n (h 26) (h 37)) j).1 i = nI a := by
    intro j
    induction j with
    | zero => intro _; exact hS.2.2.2
    | succ j ih => intro hj; exact nsR_rg hS.1 (ih (by omega)) (hf j (by omega))
  refine rn_iconst (np := 1) (v := 0) F dX5_down_0 rfl rfl <| rn_istore_n (np := 2) F dX5_down_1 rfl hL rfl <| rn_aload_n (np := 3) F dX5_down_2 rfl rfl <| (rn_cV0q (np := 6) F dX5_down_3 rfl cv_X5_lessens wM_X5_155 (fs hF rfl rfl) rfl (c_X5_lessens (n := n) (q := q) hF hS hq eq) (Nat.le_of_ble_eq_true rfl) (Nat.le_of_ble_eq_true rfl) ?_)
  rintro x h3 ⟨rfl, l2, rfl⟩
  have e0 : fdh (va_up h 32 (rtR h (n * 6))) l2 (cpF (h 34) (h 26) n) (fR h n q) = rdh h (h 26) (rtR h (n * 6)) (cpF (h 34) (h 26) n) l2 ((dnR (h 24) (h 25) (h 28) (h 23 6) (frR h q) n (h 26) (h 37)) 0).2 := by
    have := rd_fd h (h 26) (h 32) (h 34) (h 33) (h 37) (rtR h (n * 6)) l2 (cpF (h 34) (h 26) n) (fR h n q)
    rw [rd_self] at this
    exact this
  rw [e0]
  by_cases hlt : lsR h n q
  · have hm0 : 0 < m := by
      rcases Nat.eq_zero_or_pos m with z | z
      · subst z; exact absurd hlt hz
      · exact z
    have e37 : keepR (rdh h (h 26) (rtR h (n * 6)) (cpF (h 34) (h 26) n) l2 ((dnR (h 24) (h 25) (h 28) (h 23 6) (frR h q) n (h 26) (h 37)) 0).2) u 37 = ((dnR (h 24) (h 25) (h 28) (h 23 6) (frR h q) n (h 26) (h 37)) 0).2 := keepR_cell (by decide) (by decide)
    have e26 : keepR (rdh h (h 26) (rtR h (n * 6)) (cpF (h 34) (h 26) n) l2 ((dnR (h 24) (h 25) (h 28) (h 23 6) (frR h q) n (h 26) (h 37)) 0).2) u 26 = h 26 := keepR_cell (by decide) (by decide)
    have e32 : keepR (rdh h (h 26) (rtR h (n * 6)) (cpF (h 34) (h 26) n) l2 ((dnR (h 24) (h 25) (h 28) (h 23 6) (frR h q) n (h 26) (h 37)) 0).2) u 32 = rtR h (n * 6) := keepR_cell (by decide) (by decide)
    have e34 : keepR (rdh h (h 26) (rtR h (n * 6)) (cpF (h 34) (h 26) n) l2 ((dnR (h 24) (h 25) (h 28) (h 23 6) (frR h q) n (h 26) (h 37)) 0).2) u 34 = cpF (h 34) (h 26) n := keepR_cell (by decide) (by decide)
    have e33 : keepR (rdh h (h 26) (rtR h (n * 6)) (cpF (h 34) (h 26) n) l2 ((dnR (h 24) (h 25) (h 28) (h 23 6) (frR h q) n (h 26) (h 37)) 0).2) u 33 = l2 := keepR_cell (by decide) (by decide)
    have e24 : keepR (rdh h (h 26) (rtR h (n * 6)) (cpF (h 34) (h 26) n) l2 ((dnR (h 24) (h 25) (h 28) (h 23 6) (frR h q) n (h 26) (h 37)) 0).2) u 24 = h 24 := keepR_cell (by decide) (by decide)
    have e25 : keepR (rdh h (h 26) (rtR h (n * 6)) (cpF (h 34) (h 26) n) l2 ((dnR (h 24) (h 25) (h 28) (h 23 6) (frR h q) n (h 26) (h 37)) 0).2) u 25 = h 25 := keepR_cell (by decide) (by decide)
    have e27 : keepR (rdh h (h 26) (rtR h (n * 6)) (cpF (h 34) (h 26) n) l2 ((dnR (h 24) (h 25) (h 28) (h 23 6) (frR h q) n (h 26) (h 37)) 0).2) u 27 = h 27 := keepR_cell (by decide) (by decide)
    have e28 : keepR (rdh h (h 26) (rtR h (n * 6)) (cpF (h 34) (h 26) n) l2 ((dnR (h 24) (h 25) (h 28) (h 23 6) (frR h q) n (h 26) (h 37)) 0).2) u 28 = h 28 := keepR_cell (by decide) (by decide)
    have e29 : keepR (rdh h (h 26) (rtR h (n * 6)) (cpF (h 34) (h 26) n) l2 ((dnR (h 24) (h 25) (h 28) (h 23 6) (frR h q) n (h 26) (h 37)) 0).2) u 29 = h 29 := keepR_cell (by decide) (by decide)
    have e236 : keepR (rdh h (h 26) (rtR h (n * 6)) (cpF (h 34) (h 26) n) l2 ((dnR (h 24) (h 25) (h 28) (h 23 6) (frR h q) n (h 26) (h 37)) 0).2) u 23 6 = h 23 6 := keepR_23 (by decide)
    have e238 : keepR (rdh h (h 26) (rtR h (n * 6)) (cpF (h 34) (h 26) n) l2 ((dnR (h 24) (h 25) (h 28) (h 23 6) (frR h q) n (h 26) (h 37)) 0).2) u 23 8 = h 23 8 := keepR_23 (by decide)
    have e234 : keepR (rdh h (h 26) (rtR h (n * 6)) (cpF (h 34) (h 26) n) l2 ((dnR (h 24) (h 25) (h 28) (h 23 6) (frR h q) n (h 26) (h 37)) 0).2) u 23 4 = h 23 4 := keepR_23 (by decide)
    have efr : frR (keepR (rdh h (h 26) (rtR h (n * 6)) (cpF (h 34) (h 26) n) l2 ((dnR (h 24) (h 25) (h 28) (h 23 6) (frR h q) n (h 26) (h 37)) 0).2) u) q = frR h q := frR_cong e27 e29
    have hSK : RI n (keepR (rdh h (h 26) (rtR h (n * 6)) (cpF (h 34) (h 26) n) l2 ((dnR (h 24) (h 25) (h 28) (h 23 6) (frR h q) n (h 26) (h 37)) 0).2) u) := RI_cells hS e234 e24 e25 e26
    refine rn_if_eq (tg := 27) (np := 9) F dX5_down_6 rfl rfl (fun q => absurd q ((fun z => bP_0 z hlt))) (fun _ => rn_iload_n (np := 10) F dX5_down_9 rfl rfl <| rn_if_ne (tg := 17) (np := 13) F dX5_down_10 rfl rfl (fun q => absurd q ((fun z => z rfl))) (fun _ => rn_aload_n (np := 14) F dX5_down_13 rfl rfl <| rn_cV0v (np := 17) F dX5_down_14 rfl cv_X5_keeps wM_X5_135 (fs hF rfl rfl) rfl (c_X5_keeps (u := u) hF hu eu) (Nat.le_of_ble_eq_true rfl) (Nat.le_of_ble_eq_true rfl) <| rn_aload_n (np := 18) F dX5_down_17 rfl rfl <| rn_cV0v (np := 21) F dX5_down_18 rfl cv_X5_steps wM_X5_158 (fs hF rfl rfl) rfl (c_X5_steps (n := n) hF hS.1 (by rw [e37]; exact hf 0 hm0)) (Nat.le_of_ble_eq_true rfl) (Nat.le_of_ble_eq_true rfl) <| rn_hpE (show _ = rdh (keepR (rdh h (h 26) (rtR h (n * 6)) (cpF (h 34) (h 26) n) l2 ((dnR (h 24) (h 25) (h 28) (h 23 6) (frR h q) n (h 26) (h 37)) 0).2) u) (nsR (h 26) ((dnR (h 24) (h 25) (h 28) (h 23 6) (frR h q) n (h 26) (h 37)) 0).2) (rtR h (n * 6)) (cpF (h 34) (h 26) n) l2 ((dnR (h 24) (h 25) (h 28) (h 23 6) (frR h q) n (h 26) (h 37)) 0).2 by rw [e37, e26]; exact rdK _ _ _ _ e32 e34 e33 e37) <| rn_iinc (np := 24) (v := 1) F dX5_down_21 rfl rfl rfl hL rfl <| rn_goto (np := 2) F dX5_down_24 rfl <| ?_))
    have z := l_X5_down (K := keepR (rdh h (h 26) (rtR h (n * 6)) (cpF (h 34) (h 26) n) l2 ((dnR (h 24) (h 25) (h 28) (h 23 6) (frR h q) n (h 26) (h 37)) 0).2) u) (n := n) (q := q) (m := m) (g0 := h 26) (fp := h 37) hF F Rr hL hSK hq (by rw [e238]; exact eq) hm
      (by rw [e24, e25, e28, e236, efr]; exact hg) (by rw [e24, e25, e28, e236, efr]; exact hl) (by rw [e24, e25, e28, e236, efr]; exact hz) (by rw [e24, e25, e28, e236, efr]; exact hf)
      (by rw [e24, e25, e28, e236, efr]; exact fun t nw l => ⟨rfl, Or.inr ⟨hm0, _, _, _, t, nw, l, rfl⟩⟩) m 0 (rtR h (n * 6)) (cpF (h 34) (h 26) n) l2 (by omega) (by omega)
    rw [e24, e25, e28, e236, efr] at z
    exact z
  · have hm0 : m = 0 := by
      rcases Nat.eq_zero_or_pos m with z | z
      · exact z
      · exact absurd (hl 0 z) hlt
    subst hm0
    refine rn_if_eq (tg := 27) (np := 9) F dX5_down_6 rfl rfl (fun _ => rn_iload_n (np := 28) F dX5_down_27 rfl rfl <| rn_iret F Rr dX5_down_28 ?_) (fun q => absurd q ((fun z => z (bP_f hlt))))
    exact ⟨rfl, Or.inl ⟨rfl, _, _, _, rfl⟩⟩
