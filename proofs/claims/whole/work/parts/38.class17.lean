theorem cob_lt {f : Nat → Int32} {k q : Nat} (h : cobN f k = some q) (hk : k ≤ 10) : q < 10 := by have := cobN_lt _ _ _ h; omega
set_option maxRecDepth 20000 in
theorem c_X4_lay {G : GxT} (hF : Full G) {h : HpT} {n u : Nat} {lt : Nat → Nat} (hS : SI n h) (hlt : ∀ i, i < n → lt i ≤ i ∧ h 6 i = nI (lt i)) (hu : u ≤ 8) (eu : h 21 0 = nI u) (hv : (∀ h3, FaR h n lt h3 → ∀ q, cobN (h3 12) 10 = some q → ∀ i, i < n → ∃ p, p < 3 ∧ phF (h3 13 q) (nI i) = nI p)) : mc G yX4_lay cX4_lay 3 (some .int) 15 [.ref (gad G 0)] h (fun r h2 => ∃ x, r = some (.int x) ∧ ∃ h3, FaR h n lt h3 ∧ ((cobN (h3 12) 10 = none ∧ x = -3 ∧ h2 = refC h3 (-3)) ∨ ∃ q, cobN (h3 12) 10 = some q ∧ x = nI q ∧ h2 = cano n (va_up (phC h3 u n) 4 (lyF (h3 13 q) (h 4) n)))) := by
  refine mc_of (by decide) (Nat.le_of_ble_eq_true rfl) (fun X hG F Rr hL => ?_)
  subst hG
  have F : FxT X cX4_lay RX4 15 := F
  show rn X 0 [(0, .ref (gad X.1 0))] [] h
  refine rn_aload_n (np := 1) F dX4_lay_0 rfl rfl <| rn_getr (np := 4) F dX4_lay_1 rfl fF_X4_21 (fs hF rfl rfl) rfl <| rn_bipush (np := 6) (v := 9) F dX4_lay_4 rfl rfl <| (rn_cV1q (np := 9) F dX4_lay_6 rfl cv_X0_changesOfBest wM_X4_186 (fs hF rfl rfl) rfl (c_X0_changesOfBest (n := n) (lt := lt) (q := 9) hF hS hlt (Nat.le_refl 9)) (Nat.le_of_ble_eq_true rfl) (Nat.le_of_ble_eq_true rfl) ?_)
  rintro x h3 ⟨rfl, hf⟩
  have hn := hS.1
  have hS3 := SI_Fa hf hS
  cases hq : cobN (h3 12) (9 + 1) with
  | none =>
    show rn X 9 _ [.int (-1)] h3
    refine rn_istore_n (np := 10) F dX4_lay_9 rfl hL rfl <| rn_iload_n (np := 11) F dX4_lay_10 rfl rfl <| rn_iconst (np := 12) (v := (-1)) F dX4_lay_11 rfl rfl <| rn_icmp_ne (tg := 22) (np := 15) F dX4_lay_12 rfl rfl (fun q => absurd q ((by decide))) (fun _ => rn_aload_n (np := 16) F dX4_lay_15 rfl rfl <| rn_bipush (np := 18) (v := (-3)) F dX4_lay_16 rfl rfl <| rn_cV1i (np := 21) F dX4_lay_18 rfl cv_X4_refuse wM_X4_49 (fs hF rfl rfl) rfl (c_X4_refuse hF) (Nat.le_of_ble_eq_true rfl) (Nat.le_of_ble_eq_true rfl) <| rn_iret F Rr dX4_lay_21 ?_)
    exact ⟨_, rfl, h3, hf, Or.inl ⟨hq, rfl, rfl⟩⟩
  | some q =>
    have hq10 := cob_lt hq (Nat.le_refl 10)
    show rn X 9 _ [.int (nI q)] h3
    have e4 : phC h3 u n 4 = h 4 := by rw [phC_cell (by decide) (by decide) (by decide), FaR_cell hf (by decide)]
    refine rn_istore_n (np := 10) F dX4_lay_9 rfl hL rfl <| rn_iload_n (np := 11) F dX4_lay_10 rfl rfl <| rn_iconst (np := 12) (v := (-1)) F dX4_lay_11 rfl rfl <| rn_icmp_ne (tg := 22) (np := 15) F dX4_lay_12 rfl rfl (fun _ => rn_aload_n (np := 23) F dX4_lay_22 rfl rfl <| rn_getr (np := 26) F dX4_lay_23 rfl fF_X4_21 (fs hF rfl rfl) rfl <| rn_getr (np := 29) F dX4_lay_26 rfl fF_X4_189 (fs hF rfl rfl) rfl <| rn_iload_n (np := 30) F dX4_lay_29 rfl rfl <| rn_ialdN (np := 31) F dX4_lay_30 rfl (fs hF rfl rfl) rfl (by omega) <| rn_istore_n (np := 32) F dX4_lay_31 rfl hL rfl <| rn_aload_n (np := 33) F dX4_lay_32 rfl rfl <| rn_cV0v (np := 36) F dX4_lay_33 rfl cv_X4_phasesChange wM_X4_168 (fs hF rfl rfl) rfl (c_X4_phasesChange' (n := n) (u := u) hF hS.1 hS3.2.1 hu (by rw [FaR_cell hf (by decide)]; exact eu)) (Nat.le_of_ble_eq_true rfl) (Nat.le_of_ble_eq_true rfl) <| rn_aload_n (np := 37) F dX4_lay_36 rfl rfl <| rn_getr (np := 40) F dX4_lay_37 rfl fF_X4_10 (fs hF rfl rfl) rfl <| rn_iload_n (np := 41) F dX4_lay_40 rfl rfl <| rn_cV1v (np := 44) F dX4_lay_41 rfl cv_X2_layPacked wM_X4_192 (fs hF rfl rfl) rfl (c_X2_layPacked (n := n) hF (SI_phC hS3) (hv h3 hf q hq)) (Nat.le_of_ble_eq_true rfl) (Nat.le_of_ble_eq_true rfl) <| rn_iload_n (np := 45) F dX4_lay_44 rfl rfl <| rn_iret F Rr dX4_lay_45 ?_) (fun q => absurd q ((nI_m1 (by omega))))
    exact ⟨_, rfl, h3, hf, Or.inr ⟨q, hq, rfl, by rw [e4]⟩⟩
set_option maxRecDepth 20000 in
theorem b_X4_best {G : GxT} (hF : Full G) {h : HpT} {u : Int32} (hu : ¬ (0 ≤ u ∧ u ≤ 2)) : mci G yX4_best cX4_best 3 (some .int) 15 [.ref (gad G 0), .int u] h (-2) (refC h (-2)) := by
  refine mc_of (by decide) (Nat.le_of_ble_eq_true rfl) (fun X hG F Rr hL => ?_)
  subst hG
  have F : FxT X cX4_best RX4 15 := F
  show rn X 0 [(0, .ref (gad X.1 0)), (1, .int u)] [] h
  refine rn_iload_n (np := 1) F dX4_best_0 rfl rfl <| rn_iconst (np := 2) (v := 0) F dX4_best_1 rfl rfl <| rn_iconst (np := 3) (v := 2) F dX4_best_2 rfl rfl <| rn_cS3i (np := 6) F dX4_best_3 rfl cs_X4_isIn wM_X4_77 (c_X4_isIn) (Nat.le_of_ble_eq_true rfl) (Nat.le_of_ble_eq_true rfl) <| rn_if_ne (tg := 16) (np := 9) F dX4_best_6 rfl rfl (fun c6 => ?_) (fun c6 => rn_aload_n (np := 10) F dX4_best_9 rfl rfl <| rn_bipush (np := 12) (v := (-2)) F dX4_best_10 rfl rfl <| rn_cV1i (np := 15) F dX4_best_12 rfl cv_X4_refuse wM_X4_49 (fs hF rfl rfl) rfl (c_X4_refuse hF) (Nat.le_of_ble_eq_true rfl) (Nat.le_of_ble_eq_true rfl) <| rn_iret F Rr dX4_best_15 ?_)
  all_goals first | exact ⟨rfl, rfl⟩ | exact absurd (bI_1 c6) hu
set_option maxRecDepth 20000 in
theorem o0_X4_best {G : GxT} (hF : Full G) {h : HpT} {n : Nat} {lt : Nat → Nat} (hS : SI n h) (hlt : ∀ i, i < n → lt i ≤ i ∧ h 6 i = nI (lt i)) : mc G yX4_best cX4_best 3 (some .int) 15 [.ref (gad G 0), .int 0] h (fun r h2 => ∃ x, r = some (.int x) ∧ ∃ h3, FaR h n lt h3 ∧ ((cobN (h3 12) (9 + 1) = none ∧ x = -3 ∧ h2 = refC h3 (-3)) ∨ ∃ q, cobN (h3 12) (9 + 1) = some q ∧ x = h3 12 q ∧ h2 = h3)) := by
  refine mc_of (by decide) (Nat.le_of_ble_eq_true rfl) (fun X hG F Rr hL => ?_)
  subst hG
  have F : FxT X cX4_best RX4 15 := F
  show rn X 0 [(0, .ref (gad X.1 0)), (1, .int 0)] [] h
  refine rn_iload_n (np := 1) F dX4_best_0 rfl rfl <| rn_iconst (np := 2) (v := 0) F dX4_best_1 rfl rfl <| rn_iconst (np := 3) (v := 2) F dX4_best_2 rfl rfl <| rn_cS3i (np := 6) F dX4_best_3 rfl cs_X4_isIn wM_X4_77 (c_X4_isIn) (Nat.le_of_ble_eq_true rfl) (Nat.le_of_ble_eq_true rfl) <| rn_if_ne (tg := 16) (np := 9) F dX4_best_6 rfl rfl (fun _ => rn_aload_n (np := 17) F dX4_best_16 rfl rfl <| rn_getr (np := 20) F dX4_best_17 rfl fF_X4_21 (fs hF rfl rfl) rfl <| rn_bipush (np := 22) (v := 9) F dX4_best_20 rfl rfl <| (rn_cV1q (np := 25) F dX4_best_22 rfl cv_X0_changesOfBest wM_X4_186 (fs hF rfl rfl) rfl (c_X0_changesOfBest (n := n) (lt := lt) (q := 9) hF hS hlt (Nat.le_refl 9)) (Nat.le_of_ble_eq_true rfl) (Nat.le_of_ble_eq_true rfl) ?_)) (fun q => absurd q ((fun q => bI_0 q (by decide))))
  rintro x h3 ⟨rfl, hf⟩
  have hn := hS.1
  cases hq : cobN (h3 12) (9 + 1) with
  | none =>
    show rn X 25 _ [.int (-1)] h3
    refine rn_istore_n (np := 26) F dX4_best_25 rfl hL rfl <| rn_iload_n (np := 27) F dX4_best_26 rfl rfl <| rn_iconst (np := 28) (v := (-1)) F dX4_best_27 rfl rfl <| rn_icmp_ne (tg := 38) (np := 31) F dX4_best_28 rfl rfl (fun q => absurd q ((by decide))) (fun _ => rn_aload_n (np := 32) F dX4_best_31 rfl rfl <| rn_bipush (np := 34) (v := (-3)) F dX4_best_32 rfl rfl <| rn_cV1i (np := 37) F dX4_best_34 rfl cv_X4_refuse wM_X4_49 (fs hF rfl rfl) rfl (c_X4_refuse hF) (Nat.le_of_ble_eq_true rfl) (Nat.le_of_ble_eq_true rfl) <| rn_iret F Rr dX4_best_37 ?_)
    exact ⟨_, rfl, h3, hf, Or.inl ⟨hq, rfl, rfl⟩⟩
  | some q =>
    have hq10 := cob_lt hq (by omega)
    show rn X 25 _ [.int (nI q)] h3
    refine rn_istore_n (np := 26) F dX4_best_25 rfl hL rfl <| rn_iload_n (np := 27) F dX4_best_26 rfl rfl <| rn_iconst (np := 28) (v := (-1)) F dX4_best_27 rfl rfl <| rn_icmp_ne (tg := 38) (np := 31) F dX4_best_28 rfl rfl (fun _ => rn_iload_n (np := 39) F dX4_best_38 rfl rfl <| sw_X4_best_39 F (fun c39 => rn_aload_n (np := 65) F dX4_best_64 rfl rfl <| rn_getr (np := 68) F dX4_best_65 rfl fF_X4_21 (fs hF rfl rfl) rfl <| rn_getr (np := 71) F dX4_best_68 rfl fF_X4_205 (fs hF rfl rfl) rfl <| rn_iload_n (np := 72) F dX4_best_71 rfl rfl <| rn_ialdN (np := 73) F dX4_best_72 rfl (fs hF rfl rfl) rfl (by omega) <| rn_iret F Rr dX4_best_73 ?_) (fun c39 => rn_iload_n (np := 75) F dX4_best_74 rfl rfl <| rn_iret F Rr dX4_best_75 ?_) (fun c39_0 c39_1 => rn_aload_n (np := 77) F dX4_best_76 rfl rfl <| rn_getr (np := 80) F dX4_best_77 rfl fF_X4_21 (fs hF rfl rfl) rfl <| rn_getf (np := 83) F dX4_best_80 rfl fF_X4_208 (fs hF rfl rfl) rfl <| rn_iret F Rr dX4_best_83 ?_)) (fun q => absurd q ((nI_m1 (by omega))))
    all_goals first | exact ⟨_, rfl, h3, hf, Or.inr ⟨q, hq, rfl, rfl⟩⟩ | exact absurd c39 (by decide) | exact absurd rfl c39_0
set_option maxRecDepth 20000 in
theorem o1_X4_best {G : GxT} (hF : Full G) {h : HpT} {n : Nat} {lt : Nat → Nat} (hS : SI n h) (hlt : ∀ i, i < n → lt i ≤ i ∧ h 6 i = nI (lt i)) : mc G yX4_best cX4_best 3 (some .int) 15 [.ref (gad G 0), .int 1] h (fun r h2 => ∃ x, r = some (.int x) ∧ ∃ h3, FaR h n lt h3 ∧ ((cobN (h3 12) (9 + 1) = none ∧ x = -3 ∧ h2 = refC h3 (-3)) ∨ ∃ q, cobN (h3 12) (9 + 1) = some q ∧ x = nI q ∧ h2 = h3)) := by
  refine mc_of (by decide) (Nat.le_of_ble_eq_true rfl) (fun X hG F Rr hL => ?_)
  subst hG
  have F : FxT X cX4_best RX4 15 := F
  show rn X 0 [(0, .ref (gad X.1 0)), (1, .int 1)] [] h
  refine rn_iload_n (np := 1) F dX4_best_0 rfl rfl <| rn_iconst (np := 2) (v := 0) F dX4_best_1 rfl rfl <| rn_iconst (np := 3) (v := 2) F dX4_best_2 rfl rfl <| rn_cS3i (np := 6) F dX4_best_3 rfl cs_X4_isIn wM_X4_77 (c_X4_isIn) (Nat.le_of_ble_eq_true rfl) (Nat.le_of_ble_eq_true rfl) <| rn_if_ne (tg := 16) (np := 9) F dX4_best_6 rfl rfl (fun _ => rn_aload_n (np := 17) F dX4_best_16 rfl rfl <| rn_getr (np := 20) F dX4_best_17 rfl fF_X4_21 (fs hF rfl rfl) rfl <| rn_bipush (np := 22) (v := 9) F dX4_best_20 rfl rfl <| (rn_cV1q (np := 25) F dX4_best_22 rfl cv_X0_changesOfBest wM_X4_186 (fs hF rfl rfl) rfl (c_X0_changesOfBest (n := n) (lt := lt) (q := 9) hF hS hlt (Nat.le_refl 9)) (Nat.le_of_ble_eq_true rfl) (Nat.le_of_ble_eq_true rfl) ?_)) (fun q => absurd q ((fun q => bI_0 q (by decide))))
  rintro x h3 ⟨rfl, hf⟩
  have hn := hS.1
  cases hq : cobN (h3 12) (9 + 1) with
  | none =>
    show rn X 25 _ [.int (-1)] h3
    refine rn_istore_n (np := 26) F dX4_best_25 rfl hL rfl <| rn_iload_n (np := 27) F dX4_best_26 rfl rfl <| rn_iconst (np := 28) (v := (-1)) F dX4_best_27 rfl rfl <| rn_icmp_ne (tg := 38) (np := 31) F dX4_best_28 rfl rfl (fun q => absurd q ((by decide))) (fun _ => rn_aload_n (np := 32) F dX4_best_31 rfl rfl <| rn_bipush (np := 34) (v := (-3)) F dX4_best_32 rfl rfl <| rn_cV1i (np := 37) F dX4_best_34 rfl cv_X4_refuse wM_X4_49 (fs hF rfl rfl) rfl (c_X4_refuse hF) (Nat.le_of_ble_eq_true rfl) (Nat.le_of_ble_eq_true rfl) <| rn_iret F Rr dX4_best_37 ?_)
    exact ⟨_, rfl, h3, hf, Or.inl ⟨hq, rfl, rfl⟩⟩
  | some q =>
    have hq10 := cob_lt hq (by omega)
    show rn X 25 _ [.int (nI q)] h3
    refine rn_istore_n (np := 26) F dX4_best_25 rfl hL rfl <| rn_iload_n (np := 27) F dX4_best_26 rfl rfl <| rn_iconst (np := 28) (v := (-1)) F dX4_best_27 rfl rfl <| rn_icmp_ne (tg := 38) (np := 31) F dX4_best_28 rfl rfl (fun _ => rn_iload_n (np := 39) F dX4_best_38 rfl rfl <| sw_X4_best_39 F (fun c39 => rn_aload_n (np := 65) F dX4_best_64 rfl rfl <| rn_getr (np := 68) F dX4_best_65 rfl fF_X4_21 (fs hF rfl rfl) rfl <| rn_getr (np := 71) F dX4_best_68 rfl fF_X4_205 (fs hF rfl rfl) rfl <| rn_iload_n (np := 72) F dX4_best_71 rfl rfl <| rn_ialdN (np := 73) F dX4_best_72 rfl (fs hF rfl rfl) rfl (by omega) <| rn_iret F Rr dX4_best_73 ?_) (fun c39 => rn_iload_n (np := 75) F dX4_best_74 rfl rfl <| rn_iret F Rr dX4_best_75 ?_) (fun c39_0 c39_1 => rn_aload_n (np := 77) F dX4_best_76 rfl rfl <| rn_getr (np := 80) F dX4_best_77 rfl fF_X4_21 (fs hF rfl rfl) rfl <| rn_getf (np := 83) F dX4_best_80 rfl fF_X4_208 (fs hF rfl rfl) rfl <| rn_iret F Rr dX4_best_83 ?_)) (fun q => absurd q ((nI_m1 (by omega))))
    all_goals first | exact ⟨_, rfl, h3, hf, Or.inr ⟨q, hq, rfl, rfl⟩⟩ | exact absurd c39 (by decide) | exact absurd rfl c39_1
set_option maxRecDepth 20000 in
theorem o2_X4_best {G : GxT} (hF : Full G) {h : HpT} {n : Nat} {lt : Nat → Nat} (hS : SI n h) (hlt : ∀ i, i < n → lt i ≤ i ∧ h 6 i = nI (lt i)) : mc G yX4_best cX4_best 3 (some .int) 15 [.ref (gad G 0), .int 2] h (fun r h2 => ∃ x, r = some (.int x) ∧ ∃ h3, FaR h n lt h3 ∧ ((cobN (h3 12) (9 + 1) = none ∧ x = -3 ∧ h2 = refC h3 (-3)) ∨ ∃ q, cobN (h3 12) (9 + 1) = some q ∧ x = h3 11 2 ∧ h2 = h3)) := by
  refine mc_of (by decide) (Nat.le_of_ble_eq_true rfl) (fun X hG F Rr hL => ?_)
  subst hG
  have F : FxT X cX4_best RX4 15 := F
  show rn X 0 [(0, .ref (gad X.1 0)), (1, .int 2)] [] h
  refine rn_iload_n (np := 1) F dX4_best_0 rfl rfl <| rn_iconst (np := 2) (v := 0) F dX4_best_1 rfl rfl <| rn_iconst (np := 3) (v := 2) F dX4_best_2 rfl rfl <| rn_cS3i (np := 6) F dX4_best_3 rfl cs_X4_isIn wM_X4_77 (c_X4_isIn) (Nat.le_of_ble_eq_true rfl) (Nat.le_of_ble_eq_true rfl) <| rn_if_ne (tg := 16) (np := 9) F dX4_best_6 rfl rfl (fun _ => rn_aload_n (np := 17) F dX4_best_16 rfl rfl <| rn_getr (np := 20) F dX4_best_17 rfl fF_X4_21 (fs hF rfl rfl) rfl <| rn_bipush (np := 22) (v := 9) F dX4_best_20 rfl rfl <| (rn_cV1q (np := 25) F dX4_best_22 rfl cv_X0_changesOfBest wM_X4_186 (fs hF rfl rfl) rfl (c_X0_changesOfBest (n := n) (lt := lt) (q := 9) hF hS hlt (Nat.le_refl 9)) (Nat.le_of_ble_eq_true rfl) (Nat.le_of_ble_eq_true rfl) ?_)) (fun q => absurd q ((fun q => bI_0 q (by decide))))
  rintro x h3 ⟨rfl, hf⟩
  have hn := hS.1
  cases hq : cobN (h3 12) (9 + 1) with
  | none =>
    show rn X 25 _ [.int (-1)] h3
    refine rn_istore_n (np := 26) F dX4_best_25 rfl hL rfl <| rn_iload_n (np := 27) F dX4_best_26 rfl rfl <| rn_iconst (np := 28) (v := (-1)) F dX4_best_27 rfl rfl <| rn_icmp_ne (tg := 38) (np := 31) F dX4_best_28 rfl rfl (fun q => absurd q ((by decide))) (fun _ => rn_aload_n (np := 32) F dX4_best_31 rfl rfl <| rn_bipush (np := 34) (v := (-3)) F dX4_best_32 rfl rfl <| rn_cV1i (np := 37) F dX4_best_34 rfl cv_X4_refuse wM_X4_49 (fs hF rfl rfl) rfl (c_X4_refuse hF) (Nat.le_of_ble_eq_true rfl) (Nat.le_of_ble_eq_true rfl) <| rn_iret F Rr dX4_best_37 ?_)
    exact ⟨_, rfl, h3, hf, Or.inl ⟨hq, rfl, rfl⟩⟩
  | some q =>
    have hq10 := cob_lt hq (by omega)
    show rn X 25 _ [.int (nI q)] h3
    refine rn_istore_n (np := 26) F dX4_best_25 rfl hL rfl <| rn_iload_n (np := 27) F dX4_best_26 rfl rfl <| rn_iconst (np := 28) (v := (-1)) F dX4_best_27 rfl rfl <| rn_icmp_ne (tg := 38) (np := 31) F dX4_best_28 rfl rfl (fun _ => rn_iload_n (np := 39) F dX4_best_38 rfl rfl <| sw_X4_best_39 F (fun c39 => rn_aload_n (np := 65) F dX4_best_64 rfl rfl <| rn_getr (np := 68) F dX4_best_65 rfl fF_X4_21 (fs hF rfl rfl) rfl <| rn_getr (np := 71) F dX4_best_68 rfl fF_X4_205 (fs hF rfl rfl) rfl <| rn_iload_n (np := 72) F dX4_best_71 rfl rfl <| rn_ialdN (np := 73) F dX4_best_72 rfl (fs hF rfl rfl) rfl (by omega) <| rn_iret F Rr dX4_best_73 ?_) (fun c39 => rn_iload_n (np := 75) F dX4_best_74 rfl rfl <| rn_iret F Rr dX4_best_75 ?_) (fun c39_0 c39_1 => rn_aload_n (np := 77) F dX4_best_76 rfl rfl <| rn_getr (np := 80) F dX4_best_77 rfl fF_X4_21 (fs hF rfl rfl) rfl <| rn_getf (np := 83) F dX4_best_80 rfl fF_X4_208 (fs hF rfl rfl) rfl <| rn_iret F Rr dX4_best_83 ?_)) (fun q => absurd q ((nI_m1 (by omega))))
    all_goals first | exact ⟨_, rfl, h3, hf, Or.inr ⟨q, hq, rfl, rfl⟩⟩ | exact absurd c39 (by decide)
set_option maxRecDepth 20000 in
theorem b_X4_phase {G : GxT} (hF : Full G) {h : HpT} {n : Nat} {v : Int32} (hS : SI n h) (hv : ¬ inH n v) : mci G yX4_phase cX4_phase 3 (some .int) 15 [.ref (gad G 0), .int v] h (-2) (refC h (-2)) := by
  refine mc_of (by decide) (Nat.le_of_ble_eq_true rfl) (fun X hG F Rr hL => ?_)
  subst hG
  have F : FxT X cX4_phase RX4 15 := F
  show rn X 0 [(0, .ref (gad X.1 0)), (1, .int v)] [] h
  refine rn_aload_n (np := 1) F dX4_phase_0 rfl rfl <| rn_iload_n (np := 2) F dX4_phase_1 rfl rfl <| rn_cV1i (np := 5) F dX4_phase_2 rfl cv_X4_isHouse wM_X4_64 (fs hF rfl rfl) rfl (c_X4_isHouse hF) (Nat.le_of_ble_eq_true rfl) (Nat.le_of_ble_eq_true rfl) <| rn_if_ne (tg := 15) (np := 8) F dX4_phase_5 rfl rfl (fun c5 => ?_) (fun c5 => rn_aload_n (np := 9) F dX4_phase_8 rfl rfl <| rn_bipush (np := 11) (v := (-2)) F dX4_phase_9 rfl rfl <| rn_cV1i (np := 14) F dX4_phase_11 rfl cv_X4_refuse wM_X4_49 (fs hF rfl rfl) rfl (c_X4_refuse hF) (Nat.le_of_ble_eq_true rfl) (Nat.le_of_ble_eq_true rfl) <| rn_iret F Rr dX4_phase_14 ?_)
  · have q := bI_1 c5
    rw [hS.2.1] at q
    exact absurd q hv
  · exact ⟨rfl, rfl⟩
set_option maxRecDepth 20000 in
theorem o_X4_phase {G : GxT} (hF : Full G) {h : HpT} {n : Nat} {lt : Nat → Nat} (hS : SI n h) (hlt : ∀ i, i < n → lt i ≤ i ∧ h 6 i = nI (lt i)) {i : Nat} (hi : i < n) : mc G yX4_phase cX4_phase 3 (some .int) 15 [.ref (gad G 0), .int (nI i)] h (fun r h2 => ∃ x, r = some (.int x) ∧ ∃ h3, FaR h n lt h3 ∧ ((cobN (h3 12) (9 + 1) = none ∧ x = -3 ∧ h2 = refC h3 (-3)) ∨ ∃ q, cobN (h3 12) (9 + 1) = some q ∧ x = phF (h3 13 q) (nI i) ∧ h2 = h3)) := by
  refine mc_of (by decide) (Nat.le_of_ble_eq_true rfl) (fun X hG F Rr hL => ?_)
  subst hG
  have F : FxT X cX4_phase RX4 15 := F
  show rn X 0 [(0, .ref (gad X.1 0)), (1, .int (nI i))] [] h
  refine rn_aload_n (np := 1) F dX4_phase_0 rfl rfl <| rn_iload_n (np := 2) F dX4_phase_1 rfl rfl <| rn_cV1i (np := 5) F dX4_phase_2 rfl cv_X4_isHouse wM_X4_64 (fs hF rfl rfl) rfl (c_X4_isHouse hF) (Nat.le_of_ble_eq_true rfl) (Nat.le_of_ble_eq_true rfl) <| rn_if_ne (tg := 15) (np := 8) F dX4_phase_5 rfl rfl (fun _ => rn_aload_n (np := 16) F dX4_phase_15 rfl rfl <| rn_getr (np := 19) F dX4_phase_16 rfl fF_X4_21 (fs hF rfl rfl) rfl <| rn_bipush (np := 21) (v := 9) F dX4_phase_19 rfl rfl <| (rn_cV1q (np := 24) F dX4_phase_21 rfl cv_X0_changesOfBest wM_X4_186 (fs hF rfl rfl) rfl (c_X0_changesOfBest (n := n) (lt := lt) (q := 9) hF hS hlt (Nat.le_refl 9)) (Nat.le_of_ble_eq_true rfl) (Nat.le_of_ble_eq_true rfl) ?_)) (fun q => absurd q ((fun q => bI_0 q (by rw [hS.2.1]; exact hsI hi hS.1))))
  rintro x h3 ⟨rfl, hf⟩
  have hn := hS.1
  cases hq : cobN (h3 12) (9 + 1) with
  | none =>
    show rn X 24 _ [.int (-1)] h3
    refine rn_istore_n (np := 25) F dX4_phase_24 rfl hL rfl <| rn_iload_n (np := 26) F dX4_phase_25 rfl rfl <| rn_iconst (np := 27) (v := (-1)) F dX4_phase_26 rfl rfl <| rn_icmp_ne (tg := 37) (np := 30) F dX4_phase_27 rfl rfl (fun q => absurd q ((by decide))) (fun _ => rn_aload_n (np := 31) F dX4_phase_30 rfl rfl <| rn_bipush (np := 33) (v := (-3)) F dX4_phase_31 rfl rfl <| rn_cV1i (np := 36) F dX4_phase_33 rfl cv_X4_refuse wM_X4_49 (fs hF rfl rfl) rfl (c_X4_refuse hF) (Nat.le_of_ble_eq_true rfl) (Nat.le_of_ble_eq_true rfl) <| rn_iret F Rr dX4_phase_36 ?_)
    exact ⟨_, rfl, h3, hf, Or.inl ⟨hq, rfl, rfl⟩⟩
  | some q =>
    have hq10 := cob_lt hq (by omega)
    show rn X 24 _ [.int (nI q)] h3
    refine rn_istore_n (np := 25) F dX4_phase_24 rfl hL rfl <| rn_iload_n (np := 26) F dX4_phase_25 rfl rfl <| rn_iconst (np := 27) (v := (-1)) F dX4_phase_26 rfl rfl <| rn_icmp_ne (tg := 37) (np := 30) F dX4_phase_27 rfl rfl (fun _ => rn_aload_n (np := 38) F dX4_phase_37 rfl rfl <| rn_getr (np := 41) F dX4_phase_38 rfl fF_X4_21 (fs hF rfl rfl) rfl <| rn_getr (np := 44) F dX4_phase_41 rfl fF_X4_189 (fs hF rfl rfl) rfl <| rn_iload_n (np := 45) F dX4_phase_44 rfl rfl <| rn_ialdN (np := 46) F dX4_phase_45 rfl (fs hF rfl rfl) rfl (by omega) <| rn_iload_n (np := 47) F dX4_phase_46 rfl rfl <| rn_cS2i (np := 50) F dX4_phase_47 rfl cs_X4_phaseIn wM_X4_211 (c_X4_phaseIn) (Nat.le_of_ble_eq_true rfl) (Nat.le_of_ble_eq_true rfl) <| rn_iret F Rr dX4_phase_50 ?_) (fun q => absurd q ((nI_m1 (by omega))))
    exact ⟨_, rfl, h3, hf, Or.inr ⟨q, hq, rfl, rfl⟩⟩
set_option maxRecDepth 20000 in
theorem b_X4_by {G : GxT} (hF : Full G) {h : HpT} {u : Int32} (hu : ¬ (0 ≤ u ∧ u ≤ 9)) : mci G yX4_by cX4_by 3 (some .int) 15 [.ref (gad G 0), .int u] h (-2) (refC h (-2)) := by
  refine mc_of (by decide) (Nat.le_of_ble_eq_true rfl) (fun X hG F Rr hL => ?_)
  subst hG
  have F : FxT X cX4_by RX4 15 := F
  show rn X 0 [(0, .ref (gad X.1 0)), (1, .int u)] [] h
  refine rn_iload_n (np := 1) F dX4_by_0 rfl rfl <| rn_iconst (np := 2) (v := 0) F dX4_by_1 rfl rfl <| rn_bipush (np := 4) (v := 9) F dX4_by_2 rfl rfl <| rn_cS3i (np := 7) F dX4_by_4 rfl cs_X4_isIn wM_X4_77 (c_X4_isIn) (Nat.le_of_ble_eq_true rfl) (Nat.le_of_ble_eq_true rfl) <| rn_if_ne (tg := 17) (np := 10) F dX4_by_7 rfl rfl (fun c7 => ?_) (fun c7 => rn_aload_n (np := 11) F dX4_by_10 rfl rfl <| rn_bipush (np := 13) (v := (-2)) F dX4_by_11 rfl rfl <| rn_cV1i (np := 16) F dX4_by_13 rfl cv_X4_refuse wM_X4_49 (fs hF rfl rfl) rfl (c_X4_refuse hF) (Nat.le_of_ble_eq_true rfl) (Nat.le_of_ble_eq_true rfl) <| rn_iret F Rr dX4_by_16 ?_)
  all_goals first | exact ⟨rfl, rfl⟩ | exact absurd (bI_1 c7) hu
set_option maxRecDepth 20000 in
theorem o_X4_by {G : GxT} (hF : Full G) {h : HpT} {n : Nat} {lt : Nat → Nat} (hS : SI n h) (hlt : ∀ i, i < n → lt i ≤ i ∧ h 6 i = nI (lt i)) {k : Nat} (hq9 : k ≤ 9) : mc G yX4_by cX4_by 3 (some .int) 15 [.ref (gad G 0), .int (nI k)] h (fun r h2 => ∃ x, r = some (.int x) ∧ ∃ h3, FaR h n lt h3 ∧ ((cobN (h3 12) (k + 1) = none ∧ x = -3 ∧ h2 = refC h3 (-3)) ∨ ∃ q, cobN (h3 12) (k + 1) = some q ∧ x = h3 12 q ∧ h2 = h3)) := by
  refine mc_of (by decide) (Nat.le_of_ble_eq_true rfl) (fun X hG F Rr hL => ?_)
  subst hG
  have F : FxT X cX4_by RX4 15 := F
  show rn X 0 [(0, .ref (gad X.1 0)), (1, .int (nI k))] [] h
  refine rn_iload_n (np := 1) F dX4_by_0 rfl rfl <| rn_iconst (np := 2) (v := 0) F dX4_by_1 rfl rfl <| rn_bipush (np := 4) (v := 9) F dX4_by_2 rfl rfl <| rn_cS3i (np := 7) F dX4_by_4 rfl cs_X4_isIn wM_X4_77 (c_X4_isIn) (Nat.le_of_ble_eq_true rfl) (Nat.le_of_ble_eq_true rfl) <| rn_if_ne (tg := 17) (np := 10) F dX4_by_7 rfl rfl (fun _ => rn_aload_n (np := 18) F dX4_by_17 rfl rfl <| rn_getr (np := 21) F dX4_by_18 rfl fF_X4_21 (fs hF rfl rfl) rfl <| rn_iload_n (np := 22) F dX4_by_21 rfl rfl <| (rn_cV1q (np := 25) F dX4_by_22 rfl cv_X0_changesOfBest wM_X4_186 (fs hF rfl rfl) rfl (c_X0_changesOfBest (n := n) (lt := lt) (q := k) hF hS hlt hq9) (Nat.le_of_ble_eq_true rfl) (Nat.le_of_ble_eq_true rfl) ?_)) (fun q => absurd q ((fun q => bI_0 q (rgI (m := 9) (by omega) (by decide)))))
  rintro x h3 ⟨rfl, hf⟩
  have hn := hS.1
  cases hq : cobN (h3 12) (k + 1) with
  | none =>
    show rn X 25 _ [.int (-1)] h3
    refine rn_istore_n (np := 26) F dX4_by_25 rfl hL rfl <| rn_iload_n (np := 27) F dX4_by_26 rfl rfl <| rn_iconst (np := 28) (v := (-1)) F dX4_by_27 rfl rfl <| rn_icmp_ne (tg := 38) (np := 31) F dX4_by_28 rfl rfl (fun q => absurd q ((by decide))) (fun _ => rn_aload_n (np := 32) F dX4_by_31 rfl rfl <| rn_bipush (np := 34) (v := (-3)) F dX4_by_32 rfl rfl <| rn_cV1i (np := 37) F dX4_by_34 rfl cv_X4_refuse wM_X4_49 (fs hF rfl rfl) rfl (c_X4_refuse hF) (Nat.le_of_ble_eq_true rfl) (Nat.le_of_ble_eq_true rfl) <| rn_iret F Rr dX4_by_37 ?_)
    exact ⟨_, rfl, h3, hf, Or.inl ⟨hq, rfl, rfl⟩⟩
  | some q =>
    have hq10 := cob_lt hq (by omega)
    show rn X 25 _ [.int (nI q)] h3
    refine rn_istore_n (np := 26) F dX4_by_25 rfl hL rfl <| rn_iload_n (np := 27) F dX4_by_26 rfl rfl <| rn_iconst (np := 28) (v := (-1)) F dX4_by_27 rfl rfl <| rn_icmp_ne (tg := 38) (np := 31) F dX4_by_28 rfl rfl (fun _ => rn_aload_n (np := 39) F dX4_by_38 rfl rfl <| rn_getr (np := 42) F dX4_by_39 rfl fF_X4_21 (fs hF rfl rfl) rfl <| rn_getr (np := 45) F dX4_by_42 rfl fF_X4_205 (fs hF rfl rfl) rfl <| rn_iload_n (np := 46) F dX4_by_45 rfl rfl <| rn_ialdN (np := 47) F dX4_by_46 rfl (fs hF rfl rfl) rfl (by omega) <| rn_iret F Rr dX4_by_47 ?_) (fun q => absurd q ((nI_m1 (by omega))))
    exact ⟨_, rfl, h3, hf, Or.inr ⟨q, hq, rfl, rfl⟩⟩
set_option maxRecDepth 20000 in
theorem b_X4_fewest {G : GxT} (hF : Full G) {h : HpT} {u : Int32} (hu : u < 0) : mci G yX4_fewest cX4_fewest 2 (some .int) 15 [.ref (gad G 0), .int u] h (-2) (refC h (-2)) := by
  refine mc_of (by decide) (Nat.le_of_ble_eq_true rfl) (fun X hG F Rr hL => ?_)
  subst hG
  have F : FxT X cX4_fewest RX4 15 := F
  show rn X 0 [(0, .ref (gad X.1 0)), (1, .int u)] [] h
  refine rn_iload_n (np := 1) F dX4_fewest_0 rfl rfl <| rn_if_ge (tg := 11) (np := 4) F dX4_fewest_1 rfl rfl (fun c1 => ?_) (fun c1 => rn_aload_n (np := 5) F dX4_fewest_4 rfl rfl <| rn_bipush (np := 7) (v := (-2)) F dX4_fewest_5 rfl rfl <| rn_cV1i (np := 10) F dX4_fewest_7 rfl cv_X4_refuse wM_X4_49 (fs hF rfl rfl) rfl (c_X4_refuse hF) (Nat.le_of_ble_eq_true rfl) (Nat.le_of_ble_eq_true rfl) <| rn_iret F Rr dX4_fewest_10 ?_)
  all_goals first | exact ⟨rfl, rfl⟩ | exact absurd c1 (Int32.not_le.mpr hu)
set_option maxRecDepth 20000 in
theorem c_X4_fewest {G : GxT} (hF : Full G) {h : HpT} {n : Nat} {lt : Nat → Nat} {u : Int32} (hS : SI n h) (hlt : ∀ i, i < n → lt i ≤ i ∧ h 6 i = nI (lt i)) (hu : ¬ u < 0) : mc G yX4_fewest cX4_fewest 2 (some .int) 15 [.ref (gad G 0), .int u] h (fun r h2 => ∃ x, r = some (.int x) ∧ x = ov (fwN (h2 12) u 10) ∧ FaR h n lt h2) := by
  refine mc_of (by decide) (Nat.le_of_ble_eq_true rfl) (fun X hG F Rr hL => ?_)
  subst hG
  have F : FxT X cX4_fewest RX4 15 := F
  show rn X 0 [(0, .ref (gad X.1 0)), (1, .int u)] [] h
  refine rn_iload_n (np := 1) F dX4_fewest_0 rfl rfl <| rn_if_ge (tg := 11) (np := 4) F dX4_fewest_1 rfl rfl (fun _ => rn_aload_n (np := 12) F dX4_fewest_11 rfl rfl <| rn_getr (np := 15) F dX4_fewest_12 rfl fF_X4_21 (fs hF rfl rfl) rfl <| rn_iload_n (np := 16) F dX4_fewest_15 rfl rfl <| (rn_cV1q (np := 19) F dX4_fewest_16 rfl cv_X0_fewestChangesFor wM_X4_214 (fs hF rfl rfl) rfl (c_X0_fewestChangesFor (n := n) (lt := lt) hF hS hlt) (Nat.le_of_ble_eq_true rfl) (Nat.le_of_ble_eq_true rfl) ?_)) (fun q => absurd q ((fun q => q (Int32.not_lt.mp hu))))
  rintro x h3 ⟨rfl, hf⟩
  exact rn_iret F Rr dX4_fewest_19 ⟨_, rfl, rfl, hf⟩
set_option maxRecDepth 20000 in
theorem c_X4_many {G : GxT} (hF : Full G) {h : HpT} {n : Nat} {lt : Nat → Nat} (hS : SI n h) (hlt : ∀ i, i < n → lt i ≤ i ∧ h 6 i = nI (lt i)) : mc G yX4_many cX4_many 1 (some .int) 15 [.ref (gad G 0)] h (fun r h2 => ∃ x, r = some (.int x) ∧ x = h2 11 11 ∧ FaR h n lt h2) := by
  refine mc_of (by decide) (Nat.le_of_ble_eq_true rfl) (fun X hG F Rr hL => ?_)
  subst hG
  have F : FxT X cX4_many RX4 15 := F
  show rn X 0 [(0, .ref (gad X.1 0))] [] h
  refine rn_aload_n (np := 1) F dX4_many_0 rfl rfl <| rn_getr (np := 4) F dX4_many_1 rfl fF_X4_21 (fs hF rfl rfl) rfl <| (rn_cV0q (np := 7) F dX4_many_4 rfl cv_X0_countAll wM_X4_217 (fs hF rfl rfl) rfl (c_X0_countAll (n := n) (lt := lt) hF hS hlt) (Nat.le_of_ble_eq_true rfl) (Nat.le_of_ble_eq_true rfl) ?_)
  rintro x h3 ⟨rfl, hf⟩
  exact rn_iret F Rr dX4_many_7 ⟨_, rfl, rfl, hf⟩
