def nsF (g : Nat → Int32) (f : StF) : Nat → Int32 := if f 2 = 0 then upd g (f 3).toNatClampNeg (f 4) else swp g (f 3).toNatClampNeg (f 4).toNatClampNeg
def FV (n : Nat) (f : StF) : Prop := (f 2 = 0 ∧ ∃ i p, i < n ∧ p < 3 ∧ f 3 = nI i ∧ f 4 = nI p) ∨ (¬ f 2 = 0 ∧ ∃ i o, i < n ∧ o < n ∧ f 3 = nI i ∧ f 4 = nI o)
theorem nsF_rg {n : Nat} {g : Nat → Int32} {f : StF} (hn : n ≤ 9) (hg : ∀ i, i < 9 → ∃ a, a < 3 ∧ g i = nI a) (hf : FV n f) : ∀ i, i < 9 → ∃ a, a < 3 ∧ nsF g f i = nI a := by
  unfold nsF
  rcases hf with ⟨h0, i, p, hi, hp, e3, e4⟩ | ⟨h0, i, o, hi, ho, e3, e4⟩
  · rw [if_pos h0, e4]; exact upd_rg hp hg
  · rw [if_neg h0, e3, e4, nI_clamp (by omega), nI_clamp (by omega)]; exact swp_rg (by omega) (by omega) hg
noncomputable def dnP (so sz w : Nat → Int32) (fu : Int32) (fr : Nat → Int32) (n : Nat) (g0 : Nat → Int32) (fp : StF) : Nat → (Nat → Int32) × StF
  | 0 => (g0, fdF (cmpC so sz w fu n) fr g0 n (upd fp 0 0))
  | j + 1 => (nsF (dnP so sz w fu fr n g0 fp j).1 (dnP so sz w fu fr n g0 fp j).2, fdF (cmpC so sz w fu n) fr (nsF (dnP so sz w fu fr n g0 fp j).1 (dnP so sz w fu fr n g0 fp j).2) n (upd (dnP so sz w fu fr n g0 fp j).2 0 0))
def lsP (so sz w : Nat → Int32) (n : Nat) (q : (Nat → Int32) × StF) : Prop := q.2 0 ≠ 0 ∧ q.2 1 < grV so sz q.1 w n
theorem frC_cong {h h2 : HpT} {n : Nat} (e5 : h2 5 = h 5) (e6 : h2 6 = h 6) : frC h2 n = frC h n := by unfold frC; rw [e5, e6]
theorem stt_of {n : Nat} {K : HpT} {g : Nat → Int32} : stt n K (K 20) g = cano n (va_up K 4 g) := by unfold stt; rw [up_id]
set_option maxRecDepth 20000 in
theorem l34_X4_down {X : XxT} {post : Option Value → HpT → Prop} (hF : Full X.1) (F : FxT X cX4_down RX4 6) (Rr : RxT X (some .int) post) (hL : X.2.2.2.2.2.2.2.2.2.2.2.2.2.1 = 2) {K : HpT} {n j : Nat} (hS : SI n K) (hf : FV n (K 20)) (hk : rn X 9 [(0, .ref (gad X.1 0)), (1, .int (nI (j + 1)))] [] (stt n K (fdF (cmpC (K 2) (K 3) (K 9) (K 1 11) n) (frC K n) (nsF (K 4) (K 20)) n (upd (K 20) 0 0)) (nsF (K 4) (K 20)))) : rn X 34 [(0, .ref (gad X.1 0)), (1, .int (nI j))] [] K := by
  have hn := hS.1
  have hS2 : SI n (stt n K (K 20) (nsF (K 4) (K 20))) := SI_stt hS (nsF_rg hn hS.2.2.2.1 hf)
  rcases hf with ⟨h0, i, p, hi, hp, e3, e4⟩ | ⟨h0, i, o, hi, ho, e3, e4⟩
  · have e : nsF (K 4) (K 20) = upd (K 4) i (nI p) := by unfold nsF; rw [if_pos h0, e3, e4, nI_clamp (by omega)]
    rw [stt_of, e] at hS2
    rw [e] at hk
    refine rn_aload_n (np := 35) F dX4_down_34 rfl rfl <| rn_getr (np := 38) F dX4_down_35 rfl fF_X4_28 (fs hF rfl rfl) rfl <| rn_cV0v (np := 41) F dX4_down_38 rfl cv_X1_take wM_X4_183 (fs hF rfl rfl) rfl (c_X1_take0 (n := n) (i := i) (p := p) hF hS h0 hi hp e3 e4) (Nat.le_of_ble_eq_true rfl) (Nat.le_of_ble_eq_true rfl) <| rn_iincN (np := 44) F dX4_down_41 rfl rfl hL rfl <| rn_aload_n (np := 45) F dX4_down_44 rfl rfl <| rn_getr (np := 48) F dX4_down_45 rfl fF_X4_28 (fs hF rfl rfl) rfl <| rn_cV0v (np := 51) F dX4_down_48 rfl cv_X1_find wM_X4_177 (fs hF rfl rfl) rfl (c_X1_find (n := n) hF hS2) (Nat.le_of_ble_eq_true rfl) (Nat.le_of_ble_eq_true rfl) <| rn_goto (np := 9) F dX4_down_51 rfl <| ?_
    have := stt_stt (n := n) (h := K) (f := K 20) (g := upd (K 4) i (nI p)) (f2 := fdF (cmpC (K 2) (K 3) (K 9) (K 1 11) n) (frC K n) (upd (K 4) i (nI p)) n (upd (K 20) 0 0)) (g2 := upd (K 4) i (nI p))
    rw [← this, stt_of] at hk
    exact hk
  · have e : nsF (K 4) (K 20) = swp (K 4) i o := by unfold nsF; rw [if_neg h0, e3, e4, nI_clamp (by omega), nI_clamp (by omega)]
    rw [stt_of, e] at hS2
    rw [e] at hk
    refine rn_aload_n (np := 35) F dX4_down_34 rfl rfl <| rn_getr (np := 38) F dX4_down_35 rfl fF_X4_28 (fs hF rfl rfl) rfl <| rn_cV0v (np := 41) F dX4_down_38 rfl cv_X1_take wM_X4_183 (fs hF rfl rfl) rfl (c_X1_take1 (n := n) (i := i) (o := o) hF hS h0 hi ho e3 e4) (Nat.le_of_ble_eq_true rfl) (Nat.le_of_ble_eq_true rfl) <| rn_iincN (np := 44) F dX4_down_41 rfl rfl hL rfl <| rn_aload_n (np := 45) F dX4_down_44 rfl rfl <| rn_getr (np := 48) F dX4_down_45 rfl fF_X4_28 (fs hF rfl rfl) rfl <| rn_cV0v (np := 51) F dX4_down_48 rfl cv_X1_find wM_X4_177 (fs hF rfl rfl) rfl (c_X1_find (n := n) hF hS2) (Nat.le_of_ble_eq_true rfl) (Nat.le_of_ble_eq_true rfl) <| rn_goto (np := 9) F dX4_down_51 rfl <| ?_
    have := stt_stt (n := n) (h := K) (f := K 20) (g := swp (K 4) i o) (f2 := fdF (cmpC (K 2) (K 3) (K 9) (K 1 11) n) (frC K n) (swp (K 4) i o) n (upd (K 20) 0 0)) (g2 := swp (K 4) i o)
    rw [← this, stt_of] at hk
    exact hk
set_option maxRecDepth 20000 in
theorem l9_X4_down {X : XxT} {post : Option Value → HpT → Prop} (hF : Full X.1) (F : FxT X cX4_down RX4 6) (Rr : RxT X (some .int) post) (hL : X.2.2.2.2.2.2.2.2.2.2.2.2.2.1 = 2) {B : HpT} {n m : Nat} {g0 : Nat → Int32} {fp : StF} (hS : SI n B) (hm : m ≤ 19683) (hg : ∀ j, j ≤ m → ∀ i, i < 9 → ∃ a, a < 3 ∧ ((dnP (B 2) (B 3) (B 9) (B 1 11) (frC B n) n g0 fp) j).1 i = nI a) (hl : ∀ j, j < m → lsP (B 2) (B 3) (B 9) n ((dnP (B 2) (B 3) (B 9) (B 1 11) (frC B n) n g0 fp) j)) (hz : ¬ lsP (B 2) (B 3) (B 9) n ((dnP (B 2) (B 3) (B 9) (B 1 11) (frC B n) n g0 fp) m)) (hf : ∀ j, j < m → FV n ((dnP (B 2) (B 3) (B 9) (B 1 11) (frC B n) n g0 fp) j).2) (hp : post (some (.int (nI m))) (stt n B ((dnP (B 2) (B 3) (B 9) (B 1 11) (frC B n) n g0 fp) m).2 ((dnP (B 2) (B 3) (B 9) (B 1 11) (frC B n) n g0 fp) m).1)) :
    ∀ (k j : Nat), m - j < k → 1 ≤ j → j ≤ m → rn X 9 [(0, .ref (gad X.1 0)), (1, .int (nI j))] [] (stt n B ((dnP (B 2) (B 3) (B 9) (B 1 11) (frC B n) n g0 fp) j).2 ((dnP (B 2) (B 3) (B 9) (B 1 11) (frC B n) n g0 fp) j).1) := by
  intro k
  induction k with
  | zero => intro j hk; exact absurd hk (Nat.not_lt_zero _)
  | succ k ih =>
    intro j hk h1 hj
    have hSj : SI n (stt n B ((dnP (B 2) (B 3) (B 9) (B 1 11) (frC B n) n g0 fp) j).2 ((dnP (B 2) (B 3) (B 9) (B 1 11) (frC B n) n g0 fp) j).1) := SI_stt hS (hg j hj)
    have eg : grC (stt n B ((dnP (B 2) (B 3) (B 9) (B 1 11) (frC B n) n g0 fp) j).2 ((dnP (B 2) (B 3) (B 9) (B 1 11) (frC B n) n g0 fp) j).1) = grV (B 2) (B 3) ((dnP (B 2) (B 3) (B 9) (B 1 11) (frC B n) n g0 fp) j).1 (B 9) n := grC_V hSj.2.2.2.2
    refine rn_iload_n (np := 10) F dX4_down_9 rfl rfl <| rn_sipush (np := 13) (v := 19683) F dX4_down_10 rfl rfl <| rn_Nge (tg := 54) (np := 16) (b := 19683) F dX4_down_13 rfl rfl rfl rfl (by omega) (fun c13 => rn_iload_n (np := 55) F dX4_down_54 rfl rfl <| rn_iret F Rr dX4_down_55 ?_) (fun c13 => rn_aload_n (np := 17) F dX4_down_16 rfl rfl <| rn_getr (np := 20) F dX4_down_17 rfl fF_X4_28 (fs hF rfl rfl) rfl <| rn_cV0i (np := 23) F dX4_down_20 rfl cv_X1_lessens wM_X4_180 (fs hF rfl rfl) rfl (c_X1_lessens hF) (Nat.le_of_ble_eq_true rfl) (Nat.le_of_ble_eq_true rfl) <| rn_if_eq (tg := 54) (np := 26) F dX4_down_23 rfl rfl (fun c23 => rn_iload_n (np := 55) F dX4_down_54 rfl rfl <| rn_iret F Rr dX4_down_55 ?_) (fun c23 => rn_iload_n (np := 27) F dX4_down_26 rfl rfl <| rn_if_ne (tg := 34) (np := 30) F dX4_down_27 rfl rfl (fun _ => ?_) (fun q => absurd q ((fun q => nI_ne0 (n := j) (by omega) (by omega) q)))))
    · rw [show j = m by omega]; exact hp
    · have : j = m := by
        rcases Nat.lt_or_ge j m with q | q
        · have z := hl j q
          exact absurd ⟨z.1, by rw [eg]; exact z.2⟩ (bI_0 c23)
        · omega
      rw [this]; exact hp
    · have hjm : j < m := by
        rcases Nat.lt_or_ge j m with q | q
        · exact q
        · have : j = m := by omega
          subst this
          have z := bI_1 c23
          rw [eg] at z
          exact absurd z hz
      refine l34_X4_down (K := stt n B ((dnP (B 2) (B 3) (B 9) (B 1 11) (frC B n) n g0 fp) j).2 ((dnP (B 2) (B 3) (B 9) (B 1 11) (frC B n) n g0 fp) j).1) hF F Rr hL hSj (hf j hjm) ?_
      rw [stt_stt]
      exact ih (j + 1) (by omega) (by omega) (by omega)
set_option maxRecDepth 20000 in
theorem c_X4_down {G : GxT} (hF : Full G) {h : HpT} {n u m : Nat} (hS : SI n h) (hu : u ≤ 8) (eu : h 21 0 = nI u) (hm : m ≤ 19683) (hl : ∀ j, j < m → lsP (h 2) (h 3) (h 9) n ((dnP (h 2) (h 3) (h 9) (h 1 11) (frC h n) n (h 4) (h 20)) j)) (hz : ¬ lsP (h 2) (h 3) (h 9) n ((dnP (h 2) (h 3) (h 9) (h 1 11) (frC h n) n (h 4) (h 20)) m)) (hf : ∀ j, j < m → FV n ((dnP (h 2) (h 3) (h 9) (h 1 11) (frC h n) n (h 4) (h 20)) j).2) : mci G yX4_down cX4_down 2 (some .int) 6 [.ref (gad G 0)] h (nI m) (if m = 0 then va_up h 20 ((dnP (h 2) (h 3) (h 9) (h 1 11) (frC h n) n (h 4) (h 20)) 0).2 else stt n (phC (va_up h 20 ((dnP (h 2) (h 3) (h 9) (h 1 11) (frC h n) n (h 4) (h 20)) 0).2) u n) ((dnP (h 2) (h 3) (h 9) (h 1 11) (frC h n) n (h 4) (h 20)) m).2 ((dnP (h 2) (h 3) (h 9) (h 1 11) (frC h n) n (h 4) (h 20)) m).1) := by
  refine mc_of (by decide) (Nat.le_of_ble_eq_true rfl) (fun X hG F Rr hL => ?_)
  subst hG
  have F : FxT X cX4_down RX4 6 := F
  show rn X 0 [(0, .ref (gad X.1 0))] [] h
  have hg : ∀ j, j ≤ m → ∀ i, i < 9 → ∃ a, a < 3 ∧ ((dnP (h 2) (h 3) (h 9) (h 1 11) (frC h n) n (h 4) (h 20)) j).1 i = nI a := by
    intro j
    induction j with
    | zero => intro _; exact hS.2.2.2.1
    | succ j ih => intro hj; exact nsF_rg hS.1 (ih (by omega)) (hf j (by omega))
  have eg : grC (va_up h 20 ((dnP (h 2) (h 3) (h 9) (h 1 11) (frC h n) n (h 4) (h 20)) 0).2) = grV (h 2) (h 3) (h 4) (h 9) n := grC_V (SI_20 hS).2.2.2.2
  refine rn_iconst (np := 1) (v := 0) F dX4_down_0 rfl rfl <| rn_istore_n (np := 2) F dX4_down_1 rfl hL rfl <| rn_aload_n (np := 3) F dX4_down_2 rfl rfl <| rn_getr (np := 6) F dX4_down_3 rfl fF_X4_28 (fs hF rfl rfl) rfl <| rn_cV0v (np := 9) F dX4_down_6 rfl cv_X1_find wM_X4_177 (fs hF rfl rfl) rfl (c_X1_find' (n := n) hF hS) (Nat.le_of_ble_eq_true rfl) (Nat.le_of_ble_eq_true rfl) <| ?_
  show rn X 9 [(0, .ref (gad X.1 0)), (1, .int 0)] [] (va_up h 20 ((dnP (h 2) (h 3) (h 9) (h 1 11) (frC h n) n (h 4) (h 20)) 0).2)
  refine rn_iload_n (np := 10) F dX4_down_9 rfl rfl <| rn_sipush (np := 13) (v := 19683) F dX4_down_10 rfl rfl <| rn_icmp_ge (tg := 54) (np := 16) F dX4_down_13 rfl rfl (fun q => absurd q ((by decide))) (fun _ => rn_aload_n (np := 17) F dX4_down_16 rfl rfl <| rn_getr (np := 20) F dX4_down_17 rfl fF_X4_28 (fs hF rfl rfl) rfl <| rn_cV0i (np := 23) F dX4_down_20 rfl cv_X1_lessens wM_X4_180 (fs hF rfl rfl) rfl (c_X1_lessens hF) (Nat.le_of_ble_eq_true rfl) (Nat.le_of_ble_eq_true rfl) <| rn_if_eq (tg := 54) (np := 26) F dX4_down_23 rfl rfl (fun c23 => rn_iload_n (np := 55) F dX4_down_54 rfl rfl <| rn_iret F Rr dX4_down_55 ?_) (fun c23 => rn_iload_n (np := 27) F dX4_down_26 rfl rfl <| rn_if_ne (tg := 34) (np := 30) F dX4_down_27 rfl rfl (fun q => absurd q ((fun q => q rfl))) (fun _ => rn_aload_n (np := 31) F dX4_down_30 rfl rfl <| rn_cV0v (np := 34) F dX4_down_31 rfl cv_X4_phasesChange wM_X4_168 (fs hF rfl rfl) rfl (c_X4_phasesChange' (n := n) (u := u) (h := va_up h 20 ((dnP (h 2) (h 3) (h 9) (h 1 11) (frC h n) n (h 4) (h 20)) 0).2) hF hS.1 hS.2.1 hu eu) (Nat.le_of_ble_eq_true rfl) (Nat.le_of_ble_eq_true rfl) <| ?_)))
  · have e : m = 0 := by
      rcases Nat.eq_zero_or_pos m with q | q
      · exact q
      · have z := hl 0 q
        exact absurd ⟨z.1, by rw [eg]; exact z.2⟩ (bI_0 c23)
    subst e
    exact ⟨rfl, by rw [if_pos rfl]⟩
  · have hm0 : 0 < m := by
      rcases Nat.eq_zero_or_pos m with q | q
      · subst q
        have z := bI_1 c23
        rw [eg] at z
        exact absurd z hz
      · exact q
    have e20 : (phC (va_up h 20 ((dnP (h 2) (h 3) (h 9) (h 1 11) (frC h n) n (h 4) (h 20)) 0).2) u n) 20 = ((dnP (h 2) (h 3) (h 9) (h 1 11) (frC h n) n (h 4) (h 20)) 0).2 := by rw [phC_cell (by decide) (by decide) (by decide), va_up_self]
    have e2 : (phC (va_up h 20 ((dnP (h 2) (h 3) (h 9) (h 1 11) (frC h n) n (h 4) (h 20)) 0).2) u n) 2 = h 2 := phC_cell (by decide) (by decide) (by decide)
    have e3 : (phC (va_up h 20 ((dnP (h 2) (h 3) (h 9) (h 1 11) (frC h n) n (h 4) (h 20)) 0).2) u n) 3 = h 3 := phC_cell (by decide) (by decide) (by decide)
    have e4 : (phC (va_up h 20 ((dnP (h 2) (h 3) (h 9) (h 1 11) (frC h n) n (h 4) (h 20)) 0).2) u n) 4 = h 4 := phC_cell (by decide) (by decide) (by decide)
    have e9 : (phC (va_up h 20 ((dnP (h 2) (h 3) (h 9) (h 1 11) (frC h n) n (h 4) (h 20)) 0).2) u n) 9 = h 9 := phC_cell (by decide) (by decide) (by decide)
    have e1 : (phC (va_up h 20 ((dnP (h 2) (h 3) (h 9) (h 1 11) (frC h n) n (h 4) (h 20)) 0).2) u n) 1 = h 1 := phC_cell (by decide) (by decide) (by decide)
    have e5 : (phC (va_up h 20 ((dnP (h 2) (h 3) (h 9) (h 1 11) (frC h n) n (h 4) (h 20)) 0).2) u n) 5 = h 5 := phC_cell (by decide) (by decide) (by decide)
    have e6 : (phC (va_up h 20 ((dnP (h 2) (h 3) (h 9) (h 1 11) (frC h n) n (h 4) (h 20)) 0).2) u n) 6 = h 6 := phC_cell (by decide) (by decide) (by decide)
    have efr : frC (phC (va_up h 20 ((dnP (h 2) (h 3) (h 9) (h 1 11) (frC h n) n (h 4) (h 20)) 0).2) u n) n = frC h n := frC_cong e5 e6
    have hSB : SI n (phC (va_up h 20 ((dnP (h 2) (h 3) (h 9) (h 1 11) (frC h n) n (h 4) (h 20)) 0).2) u n) := SI_phC (SI_20 hS)
    refine l34_X4_down (j := 0) (K := (phC (va_up h 20 ((dnP (h 2) (h 3) (h 9) (h 1 11) (frC h n) n (h 4) (h 20)) 0).2) u n)) hF F Rr hL hSB (by rw [e20]; exact hf 0 hm0) ?_
    have z := l9_X4_down (B := (phC (va_up h 20 ((dnP (h 2) (h 3) (h 9) (h 1 11) (frC h n) n (h 4) (h 20)) 0).2) u n)) (n := n) (m := m) (g0 := h 4) (fp := h 20) hF F Rr hL hSB hm
      (by rw [e2, e3, e9, e1, efr]; exact hg) (by rw [e2, e3, e9, e1, efr]; exact hl) (by rw [e2, e3, e9, e1, efr]; exact hz) (by rw [e2, e3, e9, e1, efr]; exact hf) ⟨rfl, by rw [if_neg (by omega), e2, e3, e9, e1, efr]⟩ m 1 (by omega) (Nat.le_refl 1) hm0
    rw [e2, e3, e9, e1, efr] at z
    rw [e20, e2, e3, e9, e1, efr, e4]
    exact z
