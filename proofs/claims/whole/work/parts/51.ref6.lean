set_option maxRecDepth 20000 in
theorem c_X5_lessens {G : GxT} (hF : Full G) {h : HpT} {n q : Nat} (hS : RI n h) (hq : q ≤ 6) (eq : h 23 8 = nI q) : mc G yX5_lessens cX5_lessens 1 (some .boolean) 4 [.ref (gad G 23)] h (fun r h2 => ∃ x, r = some (.int x) ∧ x = bP (lsR h n q) ∧ ∃ l, h2 = fdh (va_up h 32 (rtR h (n * 6))) l (cpF (h 34) (h 26) n) (fR h n q)) := by
  refine mc_of (by decide) (Nat.le_of_ble_eq_true rfl) (fun X hG F Rr hL => ?_)
  subst hG
  have F : FxT X cX5_lessens RX5 4 := F
  show rn X 0 [(0, .ref (gad X.1 23))] [] h
  refine rn_aload_n (np := 1) F dX5_lessens_0 rfl rfl <| (rn_cV0q (np := 4) F dX5_lessens_1 rfl cv_X5_finds wM_X5_152 (fs hF rfl rfl) rfl (c_X5_finds (n := n) (q := q) hF hS hq eq) (Nat.le_of_ble_eq_true rfl) (Nat.le_of_ble_eq_true rfl) ?_)
  rintro x h3 ⟨rfl, l, rfl⟩
  have hS3 : RI n (fdh (va_up h 32 (rtR h (n * 6))) l (cpF (h 34) (h 26) n) (fR h n q)) := RI_cells hS rfl rfl rfl rfl
  have eg : grR (asH (fdh (va_up h 32 (rtR h (n * 6))) l (cpF (h 34) (h 26) n) (fR h n q)) n) = grV (h 24) (h 25) (h 26) (h 28) n := grR_as
  obtain ⟨l2, el2⟩ := as_fd2 h n l (fR h n q)
  refine rn_if_eq (tg := 24) (np := 7) F dX5_lessens_4 rfl rfl (fun c4 => rn_iconst (np := 25) (v := 0) F dX5_lessens_24 rfl rfl <| rn_zret F Rr dX5_lessens_25 rfl ?_) (fun c4 => rn_aload_n (np := 8) F dX5_lessens_7 rfl rfl <| rn_getr (np := 11) F dX5_lessens_8 rfl fF_X5_53 (fs hF rfl rfl) rfl <| rn_iconst (np := 12) (v := 0) F dX5_lessens_11 rfl rfl <| rn_ialdN (np := 13) (j := 0) F dX5_lessens_12 rfl (fs hF rfl rfl) rfl (by omega) <| rn_aload_n (np := 14) F dX5_lessens_13 rfl rfl <| rn_cV0i (np := 17) F dX5_lessens_14 rfl cv_X5_griefOf wM_X5_122 (fs hF rfl rfl) rfl (c_X5_griefOf (n := n) hF hS3) (Nat.le_of_ble_eq_true rfl) (Nat.le_of_ble_eq_true rfl) <| rn_icmp_ge (tg := 24) (np := 20) F dX5_lessens_17 rfl rfl (fun c17 => rn_iconst (np := 25) (v := 0) F dX5_lessens_24 rfl rfl <| rn_zret F Rr dX5_lessens_25 rfl ?_) (fun c17 => rn_iconst (np := 21) (v := 1) F dX5_lessens_20 rfl rfl <| rn_goto (np := 25) F dX5_lessens_21 rfl <| rn_zret F Rr dX5_lessens_25 rfl ?_))
  · exact ⟨_, rfl, by rw [bP_f (fun z => bI_0 c4 z.1)], l, rfl⟩
  · refine ⟨_, rfl, ?_, l2, el2⟩
    rw [eg] at c17
    rw [bP_f (fun z => Int32.not_lt.mpr c17 z.2)]
  · refine ⟨_, rfl, ?_, l2, el2⟩
    rw [eg] at c17
    rw [bP_t ⟨bI_1 c4, Int32.not_le.mp c17⟩]
set_option maxRecDepth 20000 in
theorem c_X5_steps {G : GxT} (hF : Full G) {h : HpT} {n : Nat} (hn : n ≤ 9) (hf : FVr n (h 37)) : mcv G yX5_steps cX5_steps 1 none 1 [.ref (gad G 23)] h (va_up h 26 (nsR (h 26) (h 37))) := by
  refine mc_of (by decide) (Nat.le_of_ble_eq_true rfl) (fun X hG F Rr hL => ?_)
  subst hG
  have F : FxT X cX5_steps RX5 1 := F
  show rn X 0 [(0, .ref (gad X.1 23))] [] h
  rcases hf with ⟨h0, i, p, hi, hp, e3, e4⟩ | ⟨h0, i, o, hi, ho, e3, e4⟩
  · refine rn_aload_n (np := 1) F dX5_steps_0 rfl rfl <| rn_getr (np := 4) F dX5_steps_1 rfl fF_X5_53 (fs hF rfl rfl) rfl <| rn_iconst (np := 5) (v := 1) F dX5_steps_4 rfl rfl <| rn_ialdN (np := 6) (j := 1) F dX5_steps_5 rfl (fs hF rfl rfl) rfl (by omega) <| rn_if_ne (tg := 29) (np := 9) F dX5_steps_6 rfl rfl (fun q => absurd q ((fun z => z h0))) (fun _ => rn_aload_n (np := 10) F dX5_steps_9 rfl rfl <| rn_getr (np := 13) F dX5_steps_10 rfl fF_X5_16 (fs hF rfl rfl) rfl <| rn_aload_n (np := 14) F dX5_steps_13 rfl rfl <| rn_getr (np := 17) F dX5_steps_14 rfl fF_X5_53 (fs hF rfl rfl) rfl <| rn_iconst (np := 18) (v := 2) F dX5_steps_17 rfl rfl <| rn_ialdE (np := 19) (j := 2) F dX5_steps_18 rfl (fs hF rfl rfl) rfl (by omega) e3 <| rn_aload_n (np := 20) F dX5_steps_19 rfl rfl <| rn_getr (np := 23) F dX5_steps_20 rfl fF_X5_53 (fs hF rfl rfl) rfl <| rn_iconst (np := 24) (v := 3) F dX5_steps_23 rfl rfl <| rn_ialdE (np := 25) (j := 3) F dX5_steps_24 rfl (fs hF rfl rfl) rfl (by omega) e4 <| rn_iastN (np := 26) F dX5_steps_25 rfl (fs hF rfl rfl) rfl (by omega) <| rn_goto (np := 45) F dX5_steps_26 rfl <| rn_vret F Rr dX5_steps_45 ?_)
    refine ⟨rfl, ?_⟩
    unfold nsR
    rw [if_pos h0, e3, e4, nI_clamp (by omega)]
    rfl
  · refine rn_aload_n (np := 1) F dX5_steps_0 rfl rfl <| rn_getr (np := 4) F dX5_steps_1 rfl fF_X5_53 (fs hF rfl rfl) rfl <| rn_iconst (np := 5) (v := 1) F dX5_steps_4 rfl rfl <| rn_ialdN (np := 6) (j := 1) F dX5_steps_5 rfl (fs hF rfl rfl) rfl (by omega) <| rn_if_ne (tg := 29) (np := 9) F dX5_steps_6 rfl rfl (fun _ => rn_aload_n (np := 30) F dX5_steps_29 rfl rfl <| rn_aload_n (np := 31) F dX5_steps_30 rfl rfl <| rn_getr (np := 34) F dX5_steps_31 rfl fF_X5_53 (fs hF rfl rfl) rfl <| rn_iconst (np := 35) (v := 2) F dX5_steps_34 rfl rfl <| rn_ialdE (np := 36) (j := 2) F dX5_steps_35 rfl (fs hF rfl rfl) rfl (by omega) e3 <| rn_aload_n (np := 37) F dX5_steps_36 rfl rfl <| rn_getr (np := 40) F dX5_steps_37 rfl fF_X5_53 (fs hF rfl rfl) rfl <| rn_iconst (np := 41) (v := 3) F dX5_steps_40 rfl rfl <| rn_ialdE (np := 42) (j := 3) F dX5_steps_41 rfl (fs hF rfl rfl) rfl (by omega) e4 <| rn_cV2v (np := 45) F dX5_steps_42 rfl cv_X5_swaps wM_X5_138 (fs hF rfl rfl) rfl (c_X5_swaps hF (by omega) (by omega)) (Nat.le_of_ble_eq_true rfl) (Nat.le_of_ble_eq_true rfl) <| rn_vret F Rr dX5_steps_45 ?_) (fun q => absurd q (h0))
    refine ⟨rfl, ?_⟩
    unfold nsR
    rw [if_neg h0, e3, e4, nI_clamp (by omega), nI_clamp (by omega)]
set_option maxRecDepth 20000 in
theorem c_X5_step {G : GxT} (hF : Full G) {h : HpT} {n q u : Nat} (hS : RI n h) (hq : q ≤ 6) (eq : h 23 8 = nI q) (hu : u ≤ 8) (eu : h 23 10 = nI u) (hfv : lsR h n q → FVr n (fR h n q)) : mc G yX5_step cX5_step 1 (some .int) 5 [.ref (gad G 23)] h (fun r h2 => ∃ x, r = some (.int x) ∧ ∃ l, (¬ lsR h n q ∧ x = -3 ∧ h2 = hs (fdh (va_up h 32 (rtR h (n * 6))) l (cpF (h 34) (h 26) n) (fR h n q)) 31 1 (h 31 1 + 1)) ∨ (lsR h n q ∧ x = fR h n q 0 ∧ h2 = va_up (keepR (fdh (va_up h 32 (rtR h (n * 6))) l (cpF (h 34) (h 26) n) (fR h n q)) u) 26 (nsR (h 26) (fR h n q)))) := by
  refine mc_of (by decide) (Nat.le_of_ble_eq_true rfl) (fun X hG F Rr hL => ?_)
  subst hG
  have F : FxT X cX5_step RX5 5 := F
  show rn X 0 [(0, .ref (gad X.1 23))] [] h
  have hn := hS.1
  refine rn_aload_n (np := 1) F dX5_step_0 rfl rfl <| (rn_cV0q (np := 4) F dX5_step_1 rfl cv_X5_lessens wM_X5_155 (fs hF rfl rfl) rfl (c_X5_lessens (n := n) (q := q) hF hS hq eq) (Nat.le_of_ble_eq_true rfl) (Nat.le_of_ble_eq_true rfl) ?_)
  rintro x h3 ⟨rfl, l, rfl⟩
  by_cases hl : lsR h n q
  · have e37 : keepR (fdh (va_up h 32 (rtR h (n * 6))) l (cpF (h 34) (h 26) n) (fR h n q)) u 37 = fR h n q := keepR_cell (by decide) (by decide)
    have e26 : keepR (fdh (va_up h 32 (rtR h (n * 6))) l (cpF (h 34) (h 26) n) (fR h n q)) u 26 = h 26 := keepR_cell (by decide) (by decide)
    refine rn_if_ne (tg := 14) (np := 7) F dX5_step_4 rfl rfl (fun _ => rn_aload_n (np := 15) F dX5_step_14 rfl rfl <| rn_cV0v (np := 18) F dX5_step_15 rfl cv_X5_keeps wM_X5_135 (fs hF rfl rfl) rfl (c_X5_keeps (u := u) hF hu eu) (Nat.le_of_ble_eq_true rfl) (Nat.le_of_ble_eq_true rfl) <| rn_aload_n (np := 19) F dX5_step_18 rfl rfl <| rn_cV0v (np := 22) F dX5_step_19 rfl cv_X5_steps wM_X5_158 (fs hF rfl rfl) rfl (c_X5_steps (n := n) hF hn (by rw [e37]; exact hfv hl)) (Nat.le_of_ble_eq_true rfl) (Nat.le_of_ble_eq_true rfl) <| rn_aload_n (np := 23) F dX5_step_22 rfl rfl <| rn_getr (np := 26) F dX5_step_23 rfl fF_X5_53 (fs hF rfl rfl) rfl <| rn_iconst (np := 27) (v := 0) F dX5_step_26 rfl rfl <| rn_ialdE (np := 28) (j := 0) F dX5_step_27 rfl (fs hF rfl rfl) rfl (by omega) (show _ = fR h n q 0 by rw [va_up_ne _ _ (by decide), e37]) <| rn_iret F Rr dX5_step_28 ?_) (fun q => absurd q ((fun z => bP_0 z hl)))
    exact ⟨_, rfl, l, Or.inr ⟨hl, rfl, by rw [e37, e26]⟩⟩
  · refine rn_if_ne (tg := 14) (np := 7) F dX5_step_4 rfl rfl (fun q => absurd q ((fun z => z (bP_f hl)))) (fun _ => rn_aload_n (np := 8) F dX5_step_7 rfl rfl <| rn_bipush (np := 10) (v := (-3)) F dX5_step_8 rfl rfl <| rn_cV1i (np := 13) F dX5_step_10 rfl cv_X5_refuses wM_X5_63 (fs hF rfl rfl) rfl (c_X5_refuses (k := 1) hF rfl (by decide)) (Nat.le_of_ble_eq_true rfl) (Nat.le_of_ble_eq_true rfl) <| rn_iret F Rr dX5_step_13 ?_)
    exact ⟨_, rfl, l, Or.inl ⟨hl, rfl, rfl⟩⟩
set_option maxRecDepth 20000 in
theorem b_X5_next {G : GxT} (hF : Full G) {h : HpT} {u : Int32} (hu : ¬ (0 ≤ u ∧ u ≤ 3)) : mci G yX5_next cX5_next 2 (some .int) 4 [.ref (gad G 23), .int u] h (-2) (hs h 31 0 (h 31 0 + 1)) := by
  refine mc_of (by decide) (Nat.le_of_ble_eq_true rfl) (fun X hG F Rr hL => ?_)
  subst hG
  have F : FxT X cX5_next RX5 4 := F
  show rn X 0 [(0, .ref (gad X.1 23)), (1, .int u)] [] h
  refine rn_iload_n (np := 1) F dX5_next_0 rfl rfl <| rn_iconst (np := 2) (v := 0) F dX5_next_1 rfl rfl <| rn_iconst (np := 3) (v := 3) F dX5_next_2 rfl rfl <| rn_cS3i (np := 6) F dX5_next_3 rfl cs_X5_in wM_X5_59 (c_X5_in) (Nat.le_of_ble_eq_true rfl) (Nat.le_of_ble_eq_true rfl) <| rn_if_ne (tg := 16) (np := 9) F dX5_next_6 rfl rfl (fun c6 => ?_) (fun c6 => rn_aload_n (np := 10) F dX5_next_9 rfl rfl <| rn_bipush (np := 12) (v := (-2)) F dX5_next_10 rfl rfl <| rn_cV1i (np := 15) F dX5_next_12 rfl cv_X5_refuses wM_X5_63 (fs hF rfl rfl) rfl (c_X5_refuses (k := 0) hF rfl (by decide)) (Nat.le_of_ble_eq_true rfl) (Nat.le_of_ble_eq_true rfl) <| rn_iret F Rr dX5_next_15 ?_)
  all_goals first | exact ⟨rfl, rfl⟩ | exact absurd (bI_1 c6) hu
set_option maxRecDepth 20000 in
theorem c_X5_next {G : GxT} (hF : Full G) {h : HpT} {n q x : Nat} (hS : RI n h) (hq : q ≤ 6) (eq : h 23 8 = nI q) (hx : x ≤ 3) : mc G yX5_next cX5_next 2 (some .int) 4 [.ref (gad G 23), .int (nI x)] h (fun r h2 => ∃ y, r = some (.int y) ∧ ∃ l, (fR h n q 0 < 0 ∧ y = -3 ∧ h2 = hs (fdh (va_up h 32 (rtR h (n * 6))) l (cpF (h 34) (h 26) n) (fR h n q)) 31 1 (h 31 1 + 1)) ∨ (¬ fR h n q 0 < 0 ∧ y = fR h n q x ∧ h2 = (fdh (va_up h 32 (rtR h (n * 6))) l (cpF (h 34) (h 26) n) (fR h n q)))) := by
  refine mc_of (by decide) (Nat.le_of_ble_eq_true rfl) (fun X hG F Rr hL => ?_)
  subst hG
  have F : FxT X cX5_next RX5 4 := F
  show rn X 0 [(0, .ref (gad X.1 23)), (1, .int (nI x))] [] h
  refine rn_iload_n (np := 1) F dX5_next_0 rfl rfl <| rn_iconst (np := 2) (v := 0) F dX5_next_1 rfl rfl <| rn_iconst (np := 3) (v := 3) F dX5_next_2 rfl rfl <| rn_cS3i (np := 6) F dX5_next_3 rfl cs_X5_in wM_X5_59 (c_X5_in) (Nat.le_of_ble_eq_true rfl) (Nat.le_of_ble_eq_true rfl) <| rn_if_ne (tg := 16) (np := 9) F dX5_next_6 rfl rfl (fun _ => rn_aload_n (np := 17) F dX5_next_16 rfl rfl <| (rn_cV0q (np := 20) F dX5_next_17 rfl cv_X5_finds wM_X5_152 (fs hF rfl rfl) rfl (c_X5_finds (n := n) (q := q) hF hS hq eq) (Nat.le_of_ble_eq_true rfl) (Nat.le_of_ble_eq_true rfl) ?_)) (fun q => absurd q ((fun q => bI_0 q (rgI (m := 3) (by omega) (by decide)))))
  rintro y h3 ⟨rfl, l, rfl⟩
  refine rn_if_eq (tg := 32) (np := 23) F dX5_next_20 rfl rfl (fun c20 => rn_aload_n (np := 33) F dX5_next_32 rfl rfl <| rn_bipush (np := 35) (v := (-3)) F dX5_next_33 rfl rfl <| rn_cV1i (np := 38) F dX5_next_35 rfl cv_X5_refuses wM_X5_63 (fs hF rfl rfl) rfl (c_X5_refuses (k := 1) hF rfl (by decide)) (Nat.le_of_ble_eq_true rfl) (Nat.le_of_ble_eq_true rfl) <| rn_iret F Rr dX5_next_38 ?_) (fun c20 => rn_aload_n (np := 24) F dX5_next_23 rfl rfl <| rn_getr (np := 27) F dX5_next_24 rfl fF_X5_53 (fs hF rfl rfl) rfl <| rn_iload_n (np := 28) F dX5_next_27 rfl rfl <| rn_ialdN (np := 29) F dX5_next_28 rfl (fs hF rfl rfl) rfl (by omega) <| rn_goto (np := 38) F dX5_next_29 rfl <| rn_iret F Rr dX5_next_38 ?_)
  · exact ⟨_, rfl, l, Or.inl ⟨Classical.byContradiction (fun z => bI_0 c20 z), rfl, rfl⟩⟩
  · exact ⟨_, rfl, l, Or.inr ⟨bI_1 c20, rfl, rfl⟩⟩
