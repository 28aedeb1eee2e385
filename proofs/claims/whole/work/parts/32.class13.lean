set_option maxRecDepth 20000 in
theorem l_X0_changesOfBest {X : XxT} {post : Option Value → HpT → Prop} (hF : Full X.1) (F : FxT X cX0_changesOfBest RX0 14) (Rr : RxT X (some .int) post) (hL : X.2.2.2.2.2.2.2.2.2.2.2.2.2.1 = 4) {h : HpT} {n : Nat} (hn : n ≤ 9) (hp : post (some (.int (ov (cobN (h 12) (n + 1))))) h) : ∀ (k : Nat) (j : Nat), n + 1 - j < k → j ≤ n + 1 → rn X 8 [(0, .ref (gad X.1 11)), (1, .int (nI n)), (2, .int (ov (cobN (h 12) j))), (3, .int (nI j))] [] h := by
  intro k
  induction k with
  | zero => intro j hk; exact absurd hk (Nat.not_lt_zero _)
  | succ k ih =>
    intro j hk hj
    refine rn_iload_n (np := 9) F dX0_changesOfBest_8 rfl rfl <| rn_iload_n (np := 10) F dX0_changesOfBest_9 rfl rfl <| rn_Ngt (tg := 57) (np := 13) F dX0_changesOfBest_10 rfl rfl rfl rfl (by omega) (fun c10 => rn_iload_n (np := 58) F dX0_changesOfBest_57 rfl rfl <| rn_iret F Rr dX0_changesOfBest_58 ?_) (fun c10 => rn_iload_n (np := 14) F dX0_changesOfBest_13 rfl rfl <| rn_bipush (np := 16) (v := 9) F dX0_changesOfBest_14 rfl rfl <| rn_Ngt (tg := 57) (np := 19) (b := 9) F dX0_changesOfBest_16 rfl rfl rfl rfl (by omega) (fun c16 => rn_iload_n (np := 58) F dX0_changesOfBest_57 rfl rfl <| rn_iret F Rr dX0_changesOfBest_58 ?_) (fun c16 => rn_aload_n (np := 20) F dX0_changesOfBest_19 rfl rfl <| rn_getr (np := 23) F dX0_changesOfBest_20 rfl fF_X0_9 (fs hF rfl rfl) rfl <| rn_iload_n (np := 24) F dX0_changesOfBest_23 rfl rfl <| rn_ialdN (np := 25) F dX0_changesOfBest_24 rfl (fs hF rfl rfl) rfl (by omega) <| rn_iconst (np := 26) (v := (-1)) F dX0_changesOfBest_25 rfl rfl <| rn_icmp_eq (tg := 51) (np := 29) F dX0_changesOfBest_26 rfl rfl (fun c26 => rn_iincN (np := 54) F dX0_changesOfBest_51 rfl rfl hL rfl <| rn_goto (np := 8) F dX0_changesOfBest_54 rfl <| ?_) (fun c26 => rn_iload_n (np := 30) F dX0_changesOfBest_29 rfl rfl <| rn_iconst (np := 31) (v := (-1)) F dX0_changesOfBest_30 rfl rfl <| rn_icmp_eq (tg := 49) (np := 34) F dX0_changesOfBest_31 rfl rfl (fun c31 => rn_iload_n (np := 50) F dX0_changesOfBest_49 rfl rfl <| rn_istore_n (np := 51) F dX0_changesOfBest_50 rfl hL rfl <| rn_iincN (np := 54) F dX0_changesOfBest_51 rfl rfl hL rfl <| rn_goto (np := 8) F dX0_changesOfBest_54 rfl <| ?_) (fun c31 => ?_))))
    · rw [show j = n + 1 by omega]; exact hp
    · exact absurd c16 (by omega)
    · have e : cobN (h 12) (j + 1) = cobN (h 12) j := by rw [cobN]; exact if_pos c26
      exact e ▸ ih (j + 1) (by omega) (by omega)
    · have e0 : cobN (h 12) j = none := by
        cases hq : cobN (h 12) j with
        | none => rfl
        | some q => rw [hq] at c31; exact absurd c31 (nI_m1 (by have := cobN_lt _ _ _ hq; omega))
      have e : cobN (h 12) (j + 1) = some j := by rw [cobN, if_neg c26, e0]
      have z := ih (j + 1) (by omega) (by omega)
      rw [e] at z
      exact z
    · obtain ⟨q, hq⟩ : ∃ q, cobN (h 12) j = some q := by
        cases hq : cobN (h 12) j with
        | none => rw [hq] at c31; exact absurd rfl c31
        | some q => exact ⟨q, rfl⟩
      have hqj := cobN_lt _ _ _ hq
      rw [hq]
      refine rn_aload_n (np := 35) F dX0_changesOfBest_34 rfl rfl <| rn_getr (np := 38) F dX0_changesOfBest_35 rfl fF_X0_9 (fs hF rfl rfl) rfl <| rn_iload_n (np := 39) F dX0_changesOfBest_38 rfl rfl <| rn_ialdN (np := 40) F dX0_changesOfBest_39 rfl (fs hF rfl rfl) rfl (by omega) <| rn_aload_n (np := 41) F dX0_changesOfBest_40 rfl rfl <| rn_getr (np := 44) F dX0_changesOfBest_41 rfl fF_X0_9 (fs hF rfl rfl) rfl <| rn_iload_n (np := 45) F dX0_changesOfBest_44 rfl rfl <| rn_ialdN (np := 46) F dX0_changesOfBest_45 rfl (fs hF rfl rfl) rfl (by omega) <| rn_icmp_ge (tg := 51) (np := 49) F dX0_changesOfBest_46 rfl rfl (fun c46 => rn_iincN (np := 54) F dX0_changesOfBest_51 rfl rfl hL rfl <| rn_goto (np := 8) F dX0_changesOfBest_54 rfl <| ?_) (fun c46 => rn_iload_n (np := 50) F dX0_changesOfBest_49 rfl rfl <| rn_istore_n (np := 51) F dX0_changesOfBest_50 rfl hL rfl <| rn_iincN (np := 54) F dX0_changesOfBest_51 rfl rfl hL rfl <| rn_goto (np := 8) F dX0_changesOfBest_54 rfl <| ?_)
      · have e : cobN (h 12) (j + 1) = some q := by rw [cobN, if_neg c26, hq]; exact if_neg (Int32.not_lt.mpr c46)
        have z := ih (j + 1) (by omega) (by omega)
        rw [e] at z
        exact z
      · have e : cobN (h 12) (j + 1) = some j := by rw [cobN, if_neg c26, hq]; exact if_pos (Int32.not_le.mp c46)
        have z := ih (j + 1) (by omega) (by omega)
        rw [e] at z
        exact z
set_option maxRecDepth 20000 in
theorem c_X0_changesOfBest {G : GxT} (hF : Full G) {h : HpT} {n q : Nat} {lt : Nat → Nat} (hS : SI n h) (hlt : ∀ i, i < n → lt i ≤ i ∧ h 6 i = nI (lt i)) (hq : q ≤ 9) : mc G yX0_changesOfBest cX0_changesOfBest 4 (some .int) 14 [.ref (gad G 11), .int (nI q)] h (fun r h2 => ∃ x, r = some (.int x) ∧ x = ov (cobN (h2 12) (q + 1)) ∧ FaR h n lt h2) := by
  refine mc_of (by decide) (Nat.le_of_ble_eq_true rfl) (fun X hG F Rr hL => ?_)
  subst hG
  have F : FxT X cX0_changesOfBest RX0 14 := F
  show rn X 0 [(0, .ref (gad X.1 11)), (1, .int (nI q))] [] h
  refine rn_aload_n (np := 1) F dX0_changesOfBest_0 rfl rfl <| rn_cV0p (np := 4) F dX0_changesOfBest_1 rfl cv_X0_findAll wM_X0_44 (fs hF rfl rfl) rfl (c_X0_findAll hF hS hlt) (Nat.le_of_ble_eq_true rfl) (Nat.le_of_ble_eq_true rfl) ?_
  intro h2 hf
  refine rn_iconst (np := 5) (v := (-1)) F dX0_changesOfBest_4 rfl rfl <| rn_istore_n (np := 6) F dX0_changesOfBest_5 rfl hL rfl <| rn_iconst (np := 7) (v := 0) F dX0_changesOfBest_6 rfl rfl <| rn_istore_n (np := 8) F dX0_changesOfBest_7 rfl hL rfl <| ?_
  exact l_X0_changesOfBest (h := h2) hF F Rr hL hq ⟨_, rfl, rfl, hf⟩ (q + 2) 0 (by omega) (by omega)
set_option maxRecDepth 20000 in
theorem l_X0_fewestChangesFor {X : XxT} {post : Option Value → HpT → Prop} (hF : Full X.1) (F : FxT X cX0_fewestChangesFor RX0 14) (Rr : RxT X (some .int) post) (hL : X.2.2.2.2.2.2.2.2.2.2.2.2.2.1 = 3) {h : HpT} {g : Int32} (hp : post (some (.int (ov (fwN (h 12) g 10)))) h) : ∀ (k : Nat) (j : Nat), 10 - j < k → j ≤ 10 → fwN (h 12) g j = none → rn X 6 [(0, .ref (gad X.1 11)), (1, .int g), (2, .int (nI j))] [] h := by
  intro k
  induction k with
  | zero => intro j hk; exact absurd hk (Nat.not_lt_zero _)
  | succ k ih =>
    intro j hk hj hf
    refine rn_iload_n (np := 7) F dX0_fewestChangesFor_6 rfl rfl <| rn_bipush (np := 9) (v := 9) F dX0_fewestChangesFor_7 rfl rfl <| rn_Ngt (tg := 40) (np := 12) (b := 9) F dX0_fewestChangesFor_9 rfl rfl rfl rfl (by omega) (fun c9 => rn_iconst (np := 41) (v := (-1)) F dX0_fewestChangesFor_40 rfl rfl <| rn_iret F Rr dX0_fewestChangesFor_41 ?_) (fun c9 => rn_aload_n (np := 13) F dX0_fewestChangesFor_12 rfl rfl <| rn_getr (np := 16) F dX0_fewestChangesFor_13 rfl fF_X0_9 (fs hF rfl rfl) rfl <| rn_iload_n (np := 17) F dX0_fewestChangesFor_16 rfl rfl <| rn_ialdN (np := 18) F dX0_fewestChangesFor_17 rfl (fs hF rfl rfl) rfl (by omega) <| rn_iconst (np := 19) (v := (-1)) F dX0_fewestChangesFor_18 rfl rfl <| rn_icmp_eq (tg := 34) (np := 22) F dX0_fewestChangesFor_19 rfl rfl (fun c19 => rn_iincN (np := 37) F dX0_fewestChangesFor_34 rfl rfl hL rfl <| rn_goto (np := 6) F dX0_fewestChangesFor_37 rfl <| ?_) (fun c19 => rn_aload_n (np := 23) F dX0_fewestChangesFor_22 rfl rfl <| rn_getr (np := 26) F dX0_fewestChangesFor_23 rfl fF_X0_9 (fs hF rfl rfl) rfl <| rn_iload_n (np := 27) F dX0_fewestChangesFor_26 rfl rfl <| rn_ialdN (np := 28) F dX0_fewestChangesFor_27 rfl (fs hF rfl rfl) rfl (by omega) <| rn_iload_n (np := 29) F dX0_fewestChangesFor_28 rfl rfl <| rn_icmp_gt (tg := 34) (np := 32) F dX0_fewestChangesFor_29 rfl rfl (fun c29 => rn_iincN (np := 37) F dX0_fewestChangesFor_34 rfl rfl hL rfl <| rn_goto (np := 6) F dX0_fewestChangesFor_37 rfl <| ?_) (fun c29 => rn_iload_n (np := 33) F dX0_fewestChangesFor_32 rfl rfl <| rn_iret F Rr dX0_fewestChangesFor_33 ?_)))
    · have e : fwN (h 12) g 10 = none := by rw [show 10 = j by omega]; exact hf
      rw [e] at hp; exact hp
    · exact ih (j + 1) (by omega) (by omega) (by rw [fwN, hf]; exact if_pos (Or.inl c19))
    · exact ih (j + 1) (by omega) (by omega) (by rw [fwN, hf]; exact if_pos (Or.inr c29))
    · have e : fwN (h 12) g (j + 1) = some j := by rw [fwN, hf]; exact if_neg (fun z => z.elim c19 c29)
      have e2 := fwN_up _ _ e (9 - j)
      rw [show j + 1 + (9 - j) = 10 by omega] at e2
      rw [e2] at hp; exact hp
set_option maxRecDepth 20000 in
theorem c_X0_fewestChangesFor {G : GxT} (hF : Full G) {h : HpT} {n : Nat} {lt : Nat → Nat} {g : Int32} (hS : SI n h) (hlt : ∀ i, i < n → lt i ≤ i ∧ h 6 i = nI (lt i)) : mc G yX0_fewestChangesFor cX0_fewestChangesFor 3 (some .int) 14 [.ref (gad G 11), .int g] h (fun r h2 => ∃ x, r = some (.int x) ∧ x = ov (fwN (h2 12) g 10) ∧ FaR h n lt h2) := by
  refine mc_of (by decide) (Nat.le_of_ble_eq_true rfl) (fun X hG F Rr hL => ?_)
  subst hG
  have F : FxT X cX0_fewestChangesFor RX0 14 := F
  show rn X 0 [(0, .ref (gad X.1 11)), (1, .int g)] [] h
  refine rn_aload_n (np := 1) F dX0_fewestChangesFor_0 rfl rfl <| rn_cV0p (np := 4) F dX0_fewestChangesFor_1 rfl cv_X0_findAll wM_X0_44 (fs hF rfl rfl) rfl (c_X0_findAll hF hS hlt) (Nat.le_of_ble_eq_true rfl) (Nat.le_of_ble_eq_true rfl) ?_
  intro h2 hf
  refine rn_iconst (np := 5) (v := 0) F dX0_fewestChangesFor_4 rfl rfl <| rn_istore_n (np := 6) F dX0_fewestChangesFor_5 rfl hL rfl <| ?_
  exact l_X0_fewestChangesFor (h := h2) hF F Rr hL ⟨_, rfl, rfl, hf⟩ 11 0 (by omega) (by omega) rfl
set_option maxRecDepth 20000 in
theorem c_X0_countAll {G : GxT} (hF : Full G) {h : HpT} {n : Nat} {lt : Nat → Nat} (hS : SI n h) (hlt : ∀ i, i < n → lt i ≤ i ∧ h 6 i = nI (lt i)) : mc G yX0_countAll cX0_countAll 1 (some .int) 14 [.ref (gad G 11)] h (fun r h2 => ∃ x, r = some (.int x) ∧ x = h2 11 11 ∧ FaR h n lt h2) := by
  refine mc_of (by decide) (Nat.le_of_ble_eq_true rfl) (fun X hG F Rr hL => ?_)
  subst hG
  have F : FxT X cX0_countAll RX0 14 := F
  show rn X 0 [(0, .ref (gad X.1 11))] [] h
  refine rn_aload_n (np := 1) F dX0_countAll_0 rfl rfl <| rn_cV0p (np := 4) F dX0_countAll_1 rfl cv_X0_findAll wM_X0_44 (fs hF rfl rfl) rfl (c_X0_findAll hF hS hlt) (Nat.le_of_ble_eq_true rfl) (Nat.le_of_ble_eq_true rfl) ?_
  intro h2 hf
  refine rn_aload_n (np := 5) F dX0_countAll_4 rfl rfl <| rn_getf (np := 8) F dX0_countAll_5 rfl fF_X0_47 (fs hF rfl rfl) rfl <| rn_iret F Rr dX0_countAll_8 ?_
  exact ⟨_, rfl, rfl, hf⟩
