set_option maxRecDepth 20000 in
theorem c_X1_compare {G : GxT} (hF : Full G) {h : HpT} {n : Nat} {x y z : Int32} (hS : SI n h) : mcv G yX1_compare cX1_compare 5 none 3 [.ref (gad G 20), .int x, .int y, .int z] h (va_up h 20 (cmpC (h 2) (h 3) (h 9) (h 1 11) n (h 20) (h 4) x y z)) := by
  refine mc_of (by decide) (Nat.le_of_ble_eq_true rfl) (fun X hG F Rr hL => ?_)
  subst hG
  have F : FxT X cX1_compare RX1 3 := F
  show rn X 0 [(0, .ref (gad X.1 20)), (1, .int x), (2, .int y), (3, .int z)] [] h
  refine rn_aload_n (np := 1) F dX1_compare_0 rfl rfl <| rn_getr (np := 4) F dX1_compare_1 rfl fF_X1_9 (fs hF rfl rfl) rfl <| rn_cV0i (np := 7) F dX1_compare_4 rfl cv_X2_isSafe wM_X1_73 (fs hF rfl rfl) rfl (c_X2_isSafe hF) (Nat.le_of_ble_eq_true rfl) (Nat.le_of_ble_eq_true rfl) <| rn_if_ne (tg := 11) (np := 10) F dX1_compare_7 rfl rfl (fun c7 => rn_aload_n (np := 12) F dX1_compare_11 rfl rfl <| rn_getr (np := 15) F dX1_compare_12 rfl fF_X1_9 (fs hF rfl rfl) rfl <| rn_cV0i (np := 18) F dX1_compare_15 rfl cv_X2_griefNow wM_X1_39 (fs hF rfl rfl) rfl (c_X2_griefNow hF) (Nat.le_of_ble_eq_true rfl) (Nat.le_of_ble_eq_true rfl) <| rn_istore (np := 20) F dX1_compare_18 rfl hL rfl <| rn_aload_n (np := 21) F dX1_compare_20 rfl rfl <| rn_getf (np := 24) F dX1_compare_21 rfl fF_X1_15 (fs hF rfl rfl) rfl <| rn_if_eq (tg := 36) (np := 27) F dX1_compare_24 rfl rfl (fun c24 => rn_aload_n (np := 37) F dX1_compare_36 rfl rfl <| rn_iconst (np := 38) (v := 1) F dX1_compare_37 rfl rfl <| rn_putf (np := 41) F dX1_compare_38 rfl fP_X1_15 (fs hF rfl rfl) rfl rfl rfl <| rn_aload_n (np := 42) F dX1_compare_41 rfl rfl <| rn_iload (np := 44) F dX1_compare_42 rfl rfl <| rn_putf (np := 47) F dX1_compare_44 rfl fP_X1_36 (fs hF rfl rfl) rfl rfl rfl <| rn_aload_n (np := 48) F dX1_compare_47 rfl rfl <| rn_iload_n (np := 49) F dX1_compare_48 rfl rfl <| rn_putf (np := 52) F dX1_compare_49 rfl fP_X1_43 (fs hF rfl rfl) rfl rfl rfl <| rn_aload_n (np := 53) F dX1_compare_52 rfl rfl <| rn_iload_n (np := 54) F dX1_compare_53 rfl rfl <| rn_putf (np := 57) F dX1_compare_54 rfl fP_X1_46 (fs hF rfl rfl) rfl rfl rfl <| rn_aload_n (np := 58) F dX1_compare_57 rfl rfl <| rn_iload_n (np := 59) F dX1_compare_58 rfl rfl <| rn_putf (np := 62) F dX1_compare_59 rfl fP_X1_49 (fs hF rfl rfl) rfl rfl rfl <| rn_vret F Rr dX1_compare_62 ?_) (fun c24 => rn_iload (np := 29) F dX1_compare_27 rfl rfl <| rn_aload_n (np := 30) F dX1_compare_29 rfl rfl <| rn_getf (np := 33) F dX1_compare_30 rfl fF_X1_36 (fs hF rfl rfl) rfl <| rn_icmp_ge (tg := 62) (np := 36) F dX1_compare_33 rfl rfl (fun c33 => rn_vret F Rr dX1_compare_62 ?_) (fun c33 => rn_aload_n (np := 37) F dX1_compare_36 rfl rfl <| rn_iconst (np := 38) (v := 1) F dX1_compare_37 rfl rfl <| rn_putf (np := 41) F dX1_compare_38 rfl fP_X1_15 (fs hF rfl rfl) rfl rfl rfl <| rn_aload_n (np := 42) F dX1_compare_41 rfl rfl <| rn_iload (np := 44) F dX1_compare_42 rfl rfl <| rn_putf (np := 47) F dX1_compare_44 rfl fP_X1_36 (fs hF rfl rfl) rfl rfl rfl <| rn_aload_n (np := 48) F dX1_compare_47 rfl rfl <| rn_iload_n (np := 49) F dX1_compare_48 rfl rfl <| rn_putf (np := 52) F dX1_compare_49 rfl fP_X1_43 (fs hF rfl rfl) rfl rfl rfl <| rn_aload_n (np := 53) F dX1_compare_52 rfl rfl <| rn_iload_n (np := 54) F dX1_compare_53 rfl rfl <| rn_putf (np := 57) F dX1_compare_54 rfl fP_X1_46 (fs hF rfl rfl) rfl rfl rfl <| rn_aload_n (np := 58) F dX1_compare_57 rfl rfl <| rn_iload_n (np := 59) F dX1_compare_58 rfl rfl <| rn_putf (np := 62) F dX1_compare_59 rfl fP_X1_49 (fs hF rfl rfl) rfl rfl rfl <| rn_vret F Rr dX1_compare_62 ?_))) (fun c7 => rn_vret F Rr dX1_compare_10 ?_)
  · have q1 := bP_1 c7
    rw [sfC_V hS.2.2.2.2] at q1
    refine ⟨rfl, ?_⟩
    rw [cmpC, if_pos ⟨bP_t q1, Or.inl c24⟩, ← grC_V hS.2.2.2.2, ← hs5]
  · have q1 := bP_1 c7
    rw [sfC_V hS.2.2.2.2] at q1
    refine ⟨rfl, ?_⟩
    rw [cmpC, if_neg (fun q => ?_), up_id]
    rcases q.2 with q | q
    · exact c24 q
    · rw [← grC_V hS.2.2.2.2] at q; exact Int32.not_lt.mpr c33 q
  · have q1 := bP_1 c7
    rw [sfC_V hS.2.2.2.2] at q1
    refine ⟨rfl, ?_⟩
    have q3 : grV (h 2) (h 3) (h 4) (h 9) n < h 20 1 := by rw [← grC_V hS.2.2.2.2]; exact Int32.not_le.mp c33
    rw [cmpC, if_pos ⟨bP_t q1, Or.inr q3⟩, ← grC_V hS.2.2.2.2, ← hs5]
  · have q1 := bP_0 c7
    rw [sfC_V hS.2.2.2.2] at q1
    refine ⟨rfl, ?_⟩
    rw [cmpC, if_neg (fun q => ?_), up_id]
    rw [bP_f q1] at q
    exact absurd q.1 (by decide)
set_option maxRecDepth 20000 in
theorem c_X1_isFree {G : GxT} (hF : Full G) {h : HpT} {n i : Nat} (hn : n ≤ 9) (hi : i < n) (eh : h 1 9 = nI n) : mci G yX1_isFree cX1_isFree 2 (some .boolean) 1 [.ref (gad G 20), .int (nI i)] h (bP (h 5 i = 0 ∧ ∀ j, j < n → ¬ (j ≠ i ∧ h 6 j = h 6 i))) (h) := by
  refine mc_of (by decide) (Nat.le_of_ble_eq_true rfl) (fun X hG F Rr hL => ?_)
  subst hG
  have F : FxT X cX1_isFree RX1 1 := F
  show rn X 0 [(0, .ref (gad X.1 20)), (1, .int (nI i))] [] h
  refine rn_aload_n (np := 1) F dX1_isFree_0 rfl rfl <| rn_getr (np := 4) F dX1_isFree_1 rfl fF_X1_9 (fs hF rfl rfl) rfl <| rn_getr (np := 7) F dX1_isFree_4 rfl fF_X1_59 (fs hF rfl rfl) rfl <| rn_iload_n (np := 8) F dX1_isFree_7 rfl rfl <| rn_ialdN (np := 9) F dX1_isFree_8 rfl (fs hF rfl rfl) rfl (by omega) <| rn_if_ne (tg := 27) (np := 12) F dX1_isFree_9 rfl rfl (fun c9 => rn_iconst (np := 28) (v := 0) F dX1_isFree_27 rfl rfl <| rn_zret F Rr dX1_isFree_28 rfl ?_) (fun c9 => rn_aload_n (np := 13) F dX1_isFree_12 rfl rfl <| rn_getr (np := 16) F dX1_isFree_13 rfl fF_X1_9 (fs hF rfl rfl) rfl <| rn_iload_n (np := 17) F dX1_isFree_16 rfl rfl <| rn_cV1i (np := 20) F dX1_isFree_17 rfl cv_X2_isTied wM_X1_63 (fs hF rfl rfl) rfl (c_X2_isTied hF hn hi eh) (Nat.le_of_ble_eq_true rfl) (Nat.le_of_ble_eq_true rfl) <| rn_if_ne (tg := 27) (np := 23) F dX1_isFree_20 rfl rfl (fun c20 => rn_iconst (np := 28) (v := 0) F dX1_isFree_27 rfl rfl <| rn_zret F Rr dX1_isFree_28 rfl ?_) (fun c20 => rn_iconst (np := 24) (v := 1) F dX1_isFree_23 rfl rfl <| rn_goto (np := 28) F dX1_isFree_24 rfl <| rn_zret F Rr dX1_isFree_28 rfl ?_))
  · refine ⟨by rw [bP_f (fun q => c9 q.1)], rfl⟩
  · refine ⟨by rw [bP_f (fun q => (bP_1 c20) q.2)], rfl⟩
  · refine ⟨by rw [bP_t ⟨c9, Classical.byContradiction (fun q => bP_0 c20 q)⟩], rfl⟩
set_option maxRecDepth 20000 in
theorem c_X1_lessens {G : GxT} (hF : Full G) {h : HpT}   : mci G yX1_lessens cX1_lessens 1 (some .boolean) 3 [.ref (gad G 20)] h (bI (h 20 0 ≠ 0 ∧ h 20 1 < grC h)) (h) := by
  refine mc_of (by decide) (Nat.le_of_ble_eq_true rfl) (fun X hG F Rr hL => ?_)
  subst hG
  have F : FxT X cX1_lessens RX1 3 := F
  show rn X 0 [(0, .ref (gad X.1 20))] [] h
  refine rn_aload_n (np := 1) F dX1_lessens_0 rfl rfl <| rn_getf (np := 4) F dX1_lessens_1 rfl fF_X1_15 (fs hF rfl rfl) rfl <| rn_if_eq (tg := 25) (np := 7) F dX1_lessens_4 rfl rfl (fun c4 => rn_iconst (np := 26) (v := 0) F dX1_lessens_25 rfl rfl <| rn_zret F Rr dX1_lessens_26 rfl ?_) (fun c4 => rn_aload_n (np := 8) F dX1_lessens_7 rfl rfl <| rn_getf (np := 11) F dX1_lessens_8 rfl fF_X1_36 (fs hF rfl rfl) rfl <| rn_aload_n (np := 12) F dX1_lessens_11 rfl rfl <| rn_getr (np := 15) F dX1_lessens_12 rfl fF_X1_9 (fs hF rfl rfl) rfl <| rn_cV0i (np := 18) F dX1_lessens_15 rfl cv_X2_griefNow wM_X1_39 (fs hF rfl rfl) rfl (c_X2_griefNow hF) (Nat.le_of_ble_eq_true rfl) (Nat.le_of_ble_eq_true rfl) <| rn_icmp_ge (tg := 25) (np := 21) F dX1_lessens_18 rfl rfl (fun c18 => rn_iconst (np := 26) (v := 0) F dX1_lessens_25 rfl rfl <| rn_zret F Rr dX1_lessens_26 rfl ?_) (fun c18 => rn_iconst (np := 22) (v := 1) F dX1_lessens_21 rfl rfl <| rn_goto (np := 26) F dX1_lessens_22 rfl <| rn_zret F Rr dX1_lessens_26 rfl ?_))
  all_goals (refine rI ?_ rfl; grind [bI])
set_option maxRecDepth 20000 in
theorem l_X1_tryChanges {X : XxT} {post : Option Value → HpT → Prop} (hF : Full X.1) (F : FxT X cX1_tryChanges RX1 4) (Rr : RxT X none post) (hL : X.2.2.2.2.2.2.2.2.2.2.2.2.2.1 = 4) {h : HpT} {n i : Nat} {g : Nat → Int32} (hS : SI n h) (hi : i < n) {p0 : Nat} (h0 : p0 < 3) (e0 : h 4 i = nI p0) (hp : post none (stt n h (tcF (cmpC (h 2) (h 3) (h 9) (h 1 11) n) (h 4) i (h 20) 3) (h 4))) : ∀ (k : Nat) (p c : Nat), 3 - p < k → p ≤ 3 → c < 3 → rn X 12 [(0, .ref (gad X.1 20)), (1, .int (nI i)), (2, .int (nI p0)), (3, .int (nI p))] [] (stt n h (tcF (cmpC (h 2) (h 3) (h 9) (h 1 11) n) (h 4) i (h 20) p) (upd (h 4) i (nI c))) := by
  intro k
  induction k with
  | zero => intro p c hk; exact absurd hk (Nat.not_lt_zero _)
  | succ k ih =>
    intro p c hk hpp hc
    have hn := hS.1
    refine rn_iload_n (np := 13) F dX1_tryChanges_12 rfl rfl <| rn_iconst (np := 14) (v := 3) F dX1_tryChanges_13 rfl rfl <| rn_Nge (tg := 44) (np := 17) (b := 3) F dX1_tryChanges_14 rfl rfl rfl rfl (by omega) (fun c14 => rn_aload_n (np := 45) F dX1_tryChanges_44 rfl rfl <| rn_getr (np := 48) F dX1_tryChanges_45 rfl fF_X1_9 (fs hF rfl rfl) rfl <| rn_iload_n (np := 49) F dX1_tryChanges_48 rfl rfl <| rn_iload_n (np := 50) F dX1_tryChanges_49 rfl rfl <| rn_cV2v (np := 53) F dX1_tryChanges_50 rfl cv_X2_setPhase wM_X1_52 (fs hF rfl rfl) rfl (c_X2_setPhase hF (SI_stt hS (upd_rg hc hS.2.2.2.1)) hi h0 rfl) (Nat.le_of_ble_eq_true rfl) (Nat.le_of_ble_eq_true rfl) <| rn_vret F Rr dX1_tryChanges_53 ?_) (fun c14 => rn_iload_n (np := 18) F dX1_tryChanges_17 rfl rfl <| rn_iload_n (np := 19) F dX1_tryChanges_18 rfl rfl <| rn_Neq (tg := 38) (np := 22) F dX1_tryChanges_19 rfl rfl rfl rfl (by omega) (fun c19 => rn_iincN (np := 41) F dX1_tryChanges_38 rfl rfl hL rfl <| rn_goto (np := 12) F dX1_tryChanges_41 rfl <| ?_) (fun c19 => rn_aload_n (np := 23) F dX1_tryChanges_22 rfl rfl <| rn_getr (np := 26) F dX1_tryChanges_23 rfl fF_X1_9 (fs hF rfl rfl) rfl <| rn_iload_n (np := 27) F dX1_tryChanges_26 rfl rfl <| rn_iload_n (np := 28) F dX1_tryChanges_27 rfl rfl <| rn_cV2v (np := 31) F dX1_tryChanges_28 rfl cv_X2_setPhase wM_X1_52 (fs hF rfl rfl) rfl (c_X2_setPhase hF (SI_stt hS (upd_rg hc hS.2.2.2.1)) hi (by omega) rfl) (Nat.le_of_ble_eq_true rfl) (Nat.le_of_ble_eq_true rfl) <| rn_aload_n (np := 32) F dX1_tryChanges_31 rfl rfl <| rn_iconst (np := 33) (v := 0) F dX1_tryChanges_32 rfl rfl <| rn_iload_n (np := 34) F dX1_tryChanges_33 rfl rfl <| rn_iload_n (np := 35) F dX1_tryChanges_34 rfl rfl <| rn_cV3v (np := 38) F dX1_tryChanges_35 rfl cv_X1_compare wM_X1_69 (fs hF rfl rfl) rfl (c_X1_compare (n := n) hF (by rw [stt_sp]; exact SI_stt hS (by rw [upd_upd]; exact upd_rg (by omega) hS.2.2.2.1))) (Nat.le_of_ble_eq_true rfl) (Nat.le_of_ble_eq_true rfl) <| rn_iincN (np := 41) F dX1_tryChanges_38 rfl rfl hL rfl <| rn_goto (np := 12) F dX1_tryChanges_41 rfl <| ?_))
    · rw [stt_sp, upd_upd, ← e0, upd_id, show p = 3 by omega]; exact hp
    · have e : tcF (cmpC (h 2) (h 3) (h 9) (h 1 11) n) (h 4) i (h 20) (p + 1) = tcF (cmpC (h 2) (h 3) (h 9) (h 1 11) n) (h 4) i (h 20) p := by rw [tcF, if_pos (by rw [e0, c19])]
      exact e ▸ ih (p + 1) c (by omega) (by omega) hc
    · have e : tcF (cmpC (h 2) (h 3) (h 9) (h 1 11) n) (h 4) i (h 20) (p + 1) = cmpC (h 2) (h 3) (h 9) (h 1 11) n (tcF (cmpC (h 2) (h 3) (h 9) (h 1 11) n) (h 4) i (h 20) p) (upd (h 4) i (nI p)) 0 (nI i) (nI p) := by rw [tcF, if_neg (by rw [e0, nI_eqs (by omega) (by omega)]; exact c19)]
      have z := ih (p + 1) p (by omega) (by omega) (by omega)
      rw [e] at z
      rw [stt_sp, upd_upd]
      show rn X 12 _ [] (va_up (stt n h (tcF (cmpC (h 2) (h 3) (h 9) (h 1 11) n) (h 4) i (h 20) p) (upd (h 4) i (nI p))) 20 (cmpC (h 2) (h 3) (h 9) (h 1 11) n (tcF (cmpC (h 2) (h 3) (h 9) (h 1 11) n) (h 4) i (h 20) p) (upd (h 4) i (nI p)) 0 (nI i) (nI p)))
      rw [stt_20]
      exact z
set_option maxRecDepth 20000 in
theorem c_X1_tryChanges {G : GxT} (hF : Full G) {h : HpT} {n i : Nat} (hS : SI n h) (hi : i < n) : mcv G yX1_tryChanges cX1_tryChanges 4 none 4 [.ref (gad G 20), .int (nI i)] h (stt n h (tcF (cmpC (h 2) (h 3) (h 9) (h 1 11) n) (h 4) i (h 20) 3) (h 4)) := by
  refine mc_of (by decide) (Nat.le_of_ble_eq_true rfl) (fun X hG F Rr hL => ?_)
  subst hG
  have F : FxT X cX1_tryChanges RX1 4 := F
  show rn X 0 [(0, .ref (gad X.1 20)), (1, .int (nI i))] [] h
  have hn := hS.1
  obtain ⟨p0, h0, e0⟩ := hS.2.2.2.1 i (by omega)
  refine rn_aload_n (np := 1) F dX1_tryChanges_0 rfl rfl <| rn_getr (np := 4) F dX1_tryChanges_1 rfl fF_X1_9 (fs hF rfl rfl) rfl <| rn_getr (np := 7) F dX1_tryChanges_4 rfl fF_X1_66 (fs hF rfl rfl) rfl <| rn_iload_n (np := 8) F dX1_tryChanges_7 rfl rfl <| rn_ialdE (np := 9) F dX1_tryChanges_8 rfl (fs hF rfl rfl) rfl (by omega) e0 <| rn_istore_n (np := 10) F dX1_tryChanges_9 rfl hL rfl <| rn_iconst (np := 11) (v := 0) F dX1_tryChanges_10 rfl rfl <| rn_istore_n (np := 12) F dX1_tryChanges_11 rfl hL rfl <| ?_
  have z := l_X1_tryChanges (h := h) (g := h 4) hF F Rr hL hS hi h0 e0 ⟨rfl, rfl⟩ 4 0 p0 (by omega) (by omega) h0
  rw [tcF, ← e0, upd_id, stt_self hS, e0] at z
  exact z
/-- whether a house is free to take part in a step -/
noncomputable def frC (h : HpT) (n : Nat) : Nat → Int32 := fun i => bP (h 5 i = 0 ∧ ∀ j, j < n → ¬ (j ≠ i ∧ h 6 j = h 6 i))
set_option maxRecDepth 20000 in
theorem l_X1_trySwaps {X : XxT} {post : Option Value → HpT → Prop} (hF : Full X.1) (F : FxT X cX1_trySwaps RX1 4) (Rr : RxT X none post) (hL : X.2.2.2.2.2.2.2.2.2.2.2.2.2.1 = 3) {h : HpT} {n i : Nat} (hS : SI n h) (hi : i < n) (hp : post none (stt n h (tsF (cmpC (h 2) (h 3) (h 9) (h 1 11) n) (frC h n) (h 4) i (h 20) (n - (i + 1))) (h 4))) : ∀ (k : Nat) (q : Nat), n - (i + 1 + q) < k → i + 1 + q ≤ n → rn X 4 [(0, .ref (gad X.1 20)), (1, .int (nI i)), (2, .int (nI (i + 1 + q)))] [] (stt n h (tsF (cmpC (h 2) (h 3) (h 9) (h 1 11) n) (frC h n) (h 4) i (h 20) q) (h 4)) := by
  intro k
  induction k with
  | zero => intro q hk; exact absurd hk (Nat.not_lt_zero _)
  | succ k ih =>
    intro q hk hq
    have hn := hS.1
    refine rn_iload_n (np := 5) F dX1_trySwaps_4 rfl rfl <| rn_aload_n (np := 6) F dX1_trySwaps_5 rfl rfl <| rn_getr (np := 9) F dX1_trySwaps_6 rfl fF_X1_9 (fs hF rfl rfl) rfl <| rn_getfE (np := 12) F dX1_trySwaps_9 rfl fF_X1_19 (fs hF rfl rfl) rfl hS.2.1 <| rn_Nge (tg := 75) (np := 15) F dX1_trySwaps_12 rfl rfl rfl rfl (by omega) (fun c12 => rn_vret F Rr dX1_trySwaps_75 ?_) (fun c12 => rn_aload_n (np := 16) F dX1_trySwaps_15 rfl rfl <| rn_iload_n (np := 17) F dX1_trySwaps_16 rfl rfl <| rn_cV1i (np := 20) F dX1_trySwaps_17 rfl cv_X1_isFree wM_X1_25 (fs hF rfl rfl) rfl (c_X1_isFree hF hn (by omega) hS.2.1) (Nat.le_of_ble_eq_true rfl) (Nat.le_of_ble_eq_true rfl) <| rn_if_eq (tg := 69) (np := 23) F dX1_trySwaps_20 rfl rfl (fun c20 => rn_iincN (np := 72) F dX1_trySwaps_69 rfl rfl hL rfl <| rn_goto (np := 4) F dX1_trySwaps_72 rfl <| ?_) (fun c20 => rn_aload_n (np := 24) F dX1_trySwaps_23 rfl rfl <| rn_getr (np := 27) F dX1_trySwaps_24 rfl fF_X1_9 (fs hF rfl rfl) rfl <| rn_getr (np := 30) F dX1_trySwaps_27 rfl fF_X1_66 (fs hF rfl rfl) rfl <| rn_iload_n (np := 31) F dX1_trySwaps_30 rfl rfl <| rn_ialdN (np := 32) F dX1_trySwaps_31 rfl (fs hF rfl rfl) rfl (by omega) <| rn_aload_n (np := 33) F dX1_trySwaps_32 rfl rfl <| rn_getr (np := 36) F dX1_trySwaps_33 rfl fF_X1_9 (fs hF rfl rfl) rfl <| rn_getr (np := 39) F dX1_trySwaps_36 rfl fF_X1_66 (fs hF rfl rfl) rfl <| rn_iload_n (np := 40) F dX1_trySwaps_39 rfl rfl <| rn_ialdN (np := 41) F dX1_trySwaps_40 rfl (fs hF rfl rfl) rfl (by omega) <| rn_icmp_eq (tg := 69) (np := 44) F dX1_trySwaps_41 rfl rfl (fun c41 => rn_iincN (np := 72) F dX1_trySwaps_69 rfl rfl hL rfl <| rn_goto (np := 4) F dX1_trySwaps_72 rfl <| ?_) (fun c41 => rn_aload_n (np := 45) F dX1_trySwaps_44 rfl rfl <| rn_getr (np := 48) F dX1_trySwaps_45 rfl fF_X1_9 (fs hF rfl rfl) rfl <| rn_iload_n (np := 49) F dX1_trySwaps_48 rfl rfl <| rn_iload_n (np := 50) F dX1_trySwaps_49 rfl rfl <| rn_cV2v (np := 53) F dX1_trySwaps_50 rfl cv_X2_swapPhases wM_X1_56 (fs hF rfl rfl) rfl (c_X2_swapPhases hF (SI_stt hS hS.2.2.2.1) hi (by omega)) (Nat.le_of_ble_eq_true rfl) (Nat.le_of_ble_eq_true rfl) <| rn_aload_n (np := 54) F dX1_trySwaps_53 rfl rfl <| rn_iconst (np := 55) (v := 1) F dX1_trySwaps_54 rfl rfl <| rn_iload_n (np := 56) F dX1_trySwaps_55 rfl rfl <| rn_iload_n (np := 57) F dX1_trySwaps_56 rfl rfl <| rn_cV3v (np := 60) F dX1_trySwaps_57 rfl cv_X1_compare wM_X1_69 (fs hF rfl rfl) rfl (c_X1_compare (n := n) hF (by rw [stt_ph]; exact SI_stt hS (swp_rg (by omega) (by omega) hS.2.2.2.1))) (Nat.le_of_ble_eq_true rfl) (Nat.le_of_ble_eq_true rfl) <| rn_aload_n (np := 61) F dX1_trySwaps_60 rfl rfl <| rn_getr (np := 64) F dX1_trySwaps_61 rfl fF_X1_9 (fs hF rfl rfl) rfl <| rn_iload_n (np := 65) F dX1_trySwaps_64 rfl rfl <| rn_iload_n (np := 66) F dX1_trySwaps_65 rfl rfl <| rn_cV2v (np := 69) F dX1_trySwaps_66 rfl cv_X2_swapPhases wM_X1_56 (fs hF rfl rfl) rfl (c_X2_swapPhases (n := n) hF (by rw [stt_ph, stt_20]; exact SI_stt hS (swp_rg (by omega) (by omega) hS.2.2.2.1)) hi (by omega)) (Nat.le_of_ble_eq_true rfl) (Nat.le_of_ble_eq_true rfl) <| rn_iincN (np := 72) F dX1_trySwaps_69 rfl rfl hL rfl <| rn_goto (np := 4) F dX1_trySwaps_72 rfl <| ?_)))
    · rw [show q = n - (i + 1) by omega]; exact hp
    · have e : tsF (cmpC (h 2) (h 3) (h 9) (h 1 11) n) (frC h n) (h 4) i (h 20) (q + 1) = tsF (cmpC (h 2) (h 3) (h 9) (h 1 11) n) (frC h n) (h 4) i (h 20) q := by rw [tsF]; exact if_pos (Or.inl c20)
      exact e ▸ ih (q + 1) (by omega) (by omega)
    · have e : tsF (cmpC (h 2) (h 3) (h 9) (h 1 11) n) (frC h n) (h 4) i (h 20) (q + 1) = tsF (cmpC (h 2) (h 3) (h 9) (h 1 11) n) (frC h n) (h 4) i (h 20) q := by rw [tsF]; exact if_pos (Or.inr c41)
      exact e ▸ ih (q + 1) (by omega) (by omega)
    · have e : tsF (cmpC (h 2) (h 3) (h 9) (h 1 11) n) (frC h n) (h 4) i (h 20) (q + 1) = cmpC (h 2) (h 3) (h 9) (h 1 11) n (tsF (cmpC (h 2) (h 3) (h 9) (h 1 11) n) (frC h n) (h 4) i (h 20) q) (swp (h 4) i (i + 1 + q)) 1 (nI i) (nI (i + 1 + q)) := by rw [tsF]; exact if_neg (fun z => z.elim c20 c41)
      have z := ih (q + 1) (by omega) (by omega)
      rw [e] at z
      rw [stt_ph]
      show rn X 4 _ [] (cano n (va_up (va_up (stt n h (tsF (cmpC (h 2) (h 3) (h 9) (h 1 11) n) (frC h n) (h 4) i (h 20) q) (swp (h 4) i (i + 1 + q))) 20 (cmpC (h 2) (h 3) (h 9) (h 1 11) n (tsF (cmpC (h 2) (h 3) (h 9) (h 1 11) n) (frC h n) (h 4) i (h 20) q) (swp (h 4) i (i + 1 + q)) 1 (nI i) (nI (i + 1 + q)))) 4 (swp (swp (h 4) i (i + 1 + q)) i (i + 1 + q))))
      rw [stt_20, stt_ph, swp_swp _ (by omega)]
      exact z
set_option maxRecDepth 20000 in
theorem c_X1_trySwaps {G : GxT} (hF : Full G) {h : HpT} {n i : Nat} (hS : SI n h) (hi : i < n) : mcv G yX1_trySwaps cX1_trySwaps 3 none 4 [.ref (gad G 20), .int (nI i)] h (stt n h (tsF (cmpC (h 2) (h 3) (h 9) (h 1 11) n) (frC h n) (h 4) i (h 20) (n - (i + 1))) (h 4)) := by
  refine mc_of (by decide) (Nat.le_of_ble_eq_true rfl) (fun X hG F Rr hL => ?_)
  subst hG
  have F : FxT X cX1_trySwaps RX1 4 := F
  show rn X 0 [(0, .ref (gad X.1 20)), (1, .int (nI i))] [] h
  refine rn_iload_n (np := 1) F dX1_trySwaps_0 rfl rfl <| rn_iconst (np := 2) (v := 1) F dX1_trySwaps_1 rfl rfl <| rn_iadd (np := 3) F dX1_trySwaps_2 rfl <| rn_topE (nI_1 i) <| rn_istore_n (np := 4) F dX1_trySwaps_3 rfl hL rfl <| ?_
  have z := l_X1_trySwaps (h := h) hF F Rr hL hS hi ⟨rfl, rfl⟩ (n + 1) 0 (by omega) (by omega)
  rw [tsF, stt_self hS] at z
  exact z
set_option maxRecDepth 20000 in
theorem l2_X1_find {X : XxT} {post : Option Value → HpT → Prop} (hF : Full X.1) (F : FxT X cX1_find RX1 5) (Rr : RxT X none post) (hL : X.2.2.2.2.2.2.2.2.2.2.2.2.2.1 = 2) {h : HpT} {n : Nat} {f : StF} (hS : SI n h) (hp : post none (stt n h (fsF (cmpC (h 2) (h 3) (h 9) (h 1 11) n) (frC h n) (h 4) n f n) (h 4))) : ∀ (k : Nat) (i : Nat), n - i < k → i ≤ n → rn X 39 [(0, .ref (gad X.1 20)), (1, .int (nI i))] [] (stt n h (fsF (cmpC (h 2) (h 3) (h 9) (h 1 11) n) (frC h n) (h 4) n f i) (h 4)) := by
  intro k
  induction k with
  | zero => intro i hk; exact absurd hk (Nat.not_lt_zero _)
  | succ k ih =>
    intro i hk hi
    have hn := hS.1
    refine rn_iload_n (np := 40) F dX1_find_39 rfl rfl <| rn_aload_n (np := 41) F dX1_find_40 rfl rfl <| rn_getr (np := 44) F dX1_find_41 rfl fF_X1_9 (fs hF rfl rfl) rfl <| rn_getfE (np := 47) F dX1_find_44 rfl fF_X1_19 (fs hF rfl rfl) rfl hS.2.1 <| rn_Nge (tg := 69) (np := 50) F dX1_find_47 rfl rfl rfl rfl (by omega) (fun c47 => rn_vret F Rr dX1_find_69 ?_) (fun c47 => rn_aload_n (np := 51) F dX1_find_50 rfl rfl <| rn_iload_n (np := 52) F dX1_find_51 rfl rfl <| rn_cV1i (np := 55) F dX1_find_52 rfl cv_X1_isFree wM_X1_25 (fs hF rfl rfl) rfl (c_X1_isFree hF hn (by omega) hS.2.1) (Nat.le_of_ble_eq_true rfl) (Nat.le_of_ble_eq_true rfl) <| rn_if_eq (tg := 63) (np := 58) F dX1_find_55 rfl rfl (fun c55 => rn_iincN (np := 66) F dX1_find_63 rfl rfl hL rfl <| rn_goto (np := 39) F dX1_find_66 rfl <| ?_) (fun c55 => rn_aload_n (np := 59) F dX1_find_58 rfl rfl <| rn_iload_n (np := 60) F dX1_find_59 rfl rfl <| rn_cV1v (np := 63) F dX1_find_60 rfl cv_X1_trySwaps wM_X1_33 (fs hF rfl rfl) rfl (c_X1_trySwaps (n := n) hF (SI_stt hS hS.2.2.2.1) (by omega)) (Nat.le_of_ble_eq_true rfl) (Nat.le_of_ble_eq_true rfl) <| rn_iincN (np := 66) F dX1_find_63 rfl rfl hL rfl <| rn_goto (np := 39) F dX1_find_66 rfl <| ?_))
    · rw [show i = n by omega]; exact hp
    · have e : fsF (cmpC (h 2) (h 3) (h 9) (h 1 11) n) (frC h n) (h 4) n f (i + 1) = fsF (cmpC (h 2) (h 3) (h 9) (h 1 11) n) (frC h n) (h 4) n f i := by rw [fsF]; exact if_pos c55
      exact e ▸ ih (i + 1) (by omega) (by omega)
    · have e : fsF (cmpC (h 2) (h 3) (h 9) (h 1 11) n) (frC h n) (h 4) n f (i + 1) = tsF (cmpC (h 2) (h 3) (h 9) (h 1 11) n) (frC h n) (h 4) i (fsF (cmpC (h 2) (h 3) (h 9) (h 1 11) n) (frC h n) (h 4) n f i) (n - (i + 1)) := by rw [fsF]; exact if_neg c55
      have z := ih (i + 1) (by omega) (by omega)
      rw [e] at z
      show rn X 39 _ [] (stt n (stt n h (fsF (cmpC (h 2) (h 3) (h 9) (h 1 11) n) (frC h n) (h 4) n f i) (h 4)) (tsF (cmpC (h 2) (h 3) (h 9) (h 1 11) n) (frC h n) (h 4) i (fsF (cmpC (h 2) (h 3) (h 9) (h 1 11) n) (frC h n) (h 4) n f i) (n - (i + 1))) (h 4))
      rw [stt_stt]
      exact z
set_option maxRecDepth 20000 in
theorem l1_X1_find {X : XxT} {post : Option Value → HpT → Prop} (hF : Full X.1) (F : FxT X cX1_find RX1 5) (Rr : RxT X none post) (hL : X.2.2.2.2.2.2.2.2.2.2.2.2.2.1 = 2) {h : HpT} {n : Nat} {f : StF} (hS : SI n h) (hp : post none (stt n h (fdF (cmpC (h 2) (h 3) (h 9) (h 1 11) n) (frC h n) (h 4) n f) (h 4))) : ∀ (k : Nat) (i : Nat), n - i < k → i ≤ n → rn X 7 [(0, .ref (gad X.1 20)), (1, .int (nI i))] [] (stt n h (fcF (cmpC (h 2) (h 3) (h 9) (h 1 11) n) (frC h n) (h 4) f i) (h 4)) := by
  intro k
  induction k with
  | zero => intro i hk; exact absurd hk (Nat.not_lt_zero _)
  | succ k ih =>
    intro i hk hi
    have hn := hS.1
    refine rn_iload_n (np := 8) F dX1_find_7 rfl rfl <| rn_aload_n (np := 9) F dX1_find_8 rfl rfl <| rn_getr (np := 12) F dX1_find_9 rfl fF_X1_9 (fs hF rfl rfl) rfl <| rn_getfE (np := 15) F dX1_find_12 rfl fF_X1_19 (fs hF rfl rfl) rfl hS.2.1 <| rn_Nge (tg := 37) (np := 18) F dX1_find_15 rfl rfl rfl rfl (by omega) (fun c15 => rn_iconst (np := 38) (v := 0) F dX1_find_37 rfl rfl <| rn_istore_n (np := 39) F dX1_find_38 rfl hL rfl <| ?_) (fun c15 => rn_aload_n (np := 19) F dX1_find_18 rfl rfl <| rn_iload_n (np := 20) F dX1_find_19 rfl rfl <| rn_cV1i (np := 23) F dX1_find_20 rfl cv_X1_isFree wM_X1_25 (fs hF rfl rfl) rfl (c_X1_isFree hF hn (by omega) hS.2.1) (Nat.le_of_ble_eq_true rfl) (Nat.le_of_ble_eq_true rfl) <| rn_if_eq (tg := 31) (np := 26) F dX1_find_23 rfl rfl (fun c23 => rn_iincN (np := 34) F dX1_find_31 rfl rfl hL rfl <| rn_goto (np := 7) F dX1_find_34 rfl <| ?_) (fun c23 => rn_aload_n (np := 27) F dX1_find_26 rfl rfl <| rn_iload_n (np := 28) F dX1_find_27 rfl rfl <| rn_cV1v (np := 31) F dX1_find_28 rfl cv_X1_tryChanges wM_X1_29 (fs hF rfl rfl) rfl (c_X1_tryChanges (n := n) hF (SI_stt hS hS.2.2.2.1) (by omega)) (Nat.le_of_ble_eq_true rfl) (Nat.le_of_ble_eq_true rfl) <| rn_iincN (np := 34) F dX1_find_31 rfl rfl hL rfl <| rn_goto (np := 7) F dX1_find_34 rfl <| ?_))
    · rw [show i = n by omega]
      have z := l2_X1_find (h := h) (f := fcF (cmpC (h 2) (h 3) (h 9) (h 1 11) n) (frC h n) (h 4) f n) hF F Rr hL hS hp (n + 1) 0 (by omega) (by omega)
      exact z
    · have e : fcF (cmpC (h 2) (h 3) (h 9) (h 1 11) n) (frC h n) (h 4) f (i + 1) = fcF (cmpC (h 2) (h 3) (h 9) (h 1 11) n) (frC h n) (h 4) f i := by rw [fcF]; exact if_pos c23
      exact e ▸ ih (i + 1) (by omega) (by omega)
    · have e : fcF (cmpC (h 2) (h 3) (h 9) (h 1 11) n) (frC h n) (h 4) f (i + 1) = tcF (cmpC (h 2) (h 3) (h 9) (h 1 11) n) (h 4) i (fcF (cmpC (h 2) (h 3) (h 9) (h 1 11) n) (frC h n) (h 4) f i) 3 := by rw [fcF]; exact if_neg c23
      have z := ih (i + 1) (by omega) (by omega)
      rw [e] at z
      show rn X 7 _ [] (stt n (stt n h (fcF (cmpC (h 2) (h 3) (h 9) (h 1 11) n) (frC h n) (h 4) f i) (h 4)) (tcF (cmpC (h 2) (h 3) (h 9) (h 1 11) n) (h 4) i (fcF (cmpC (h 2) (h 3) (h 9) (h 1 11) n) (frC h n) (h 4) f i) 3) (h 4))
      rw [stt_stt]
      exact z
set_option maxRecDepth 20000 in
theorem c_X1_find {G : GxT} (hF : Full G) {h : HpT} {n : Nat} (hS : SI n h) : mcv G yX1_find cX1_find 2 none 5 [.ref (gad G 20)] h (stt n h (fdF (cmpC (h 2) (h 3) (h 9) (h 1 11) n) (frC h n) (h 4) n (upd (h 20) 0 0)) (h 4)) := by
  refine mc_of (by decide) (Nat.le_of_ble_eq_true rfl) (fun X hG F Rr hL => ?_)
  subst hG
  have F : FxT X cX1_find RX1 5 := F
  show rn X 0 [(0, .ref (gad X.1 20))] [] h
  refine rn_aload_n (np := 1) F dX1_find_0 rfl rfl <| rn_iconst (np := 2) (v := 0) F dX1_find_1 rfl rfl <| rn_putf (np := 5) F dX1_find_2 rfl fP_X1_15 (fs hF rfl rfl) rfl rfl rfl <| rn_iconst (np := 6) (v := 0) F dX1_find_5 rfl rfl <| rn_istore_n (np := 7) F dX1_find_6 rfl hL rfl <| ?_
  have z := l1_X1_find (h := h) (f := upd (h 20) 0 0) hF F Rr hL hS ⟨rfl, rfl⟩ (n + 1) 0 (by omega) (by omega)
  rw [fcF] at z
  have e : stt n h (upd (h 20) 0 0) (h 4) = hs h 20 0 0 := by
    have := stt_20 (n := n) (h := h) (f := h 20) (f2 := upd (h 20) 0 0) (g := h 4)
    rw [stt_self hS] at this
    exact this.symm
  rw [e] at z
  exact z
set_option maxRecDepth 20000 in
theorem c_X1_take0 {G : GxT} (hF : Full G) {h : HpT} {n i p : Nat} (hS : SI n h) (hk : h 20 2 = 0) (hi : i < n) (hp : p < 3) (e3 : h 20 3 = nI i) (e4 : h 20 4 = nI p) : mcv G yX1_take cX1_take 1 none 4 [.ref (gad G 20)] h (cano n (hs h 4 i (nI p))) := by
  refine mc_of (by decide) (Nat.le_of_ble_eq_true rfl) (fun X hG F Rr hL => ?_)
  subst hG
  have F : FxT X cX1_take RX1 4 := F
  show rn X 0 [(0, .ref (gad X.1 20))] [] h
  refine rn_aload_n (np := 1) F dX1_take_0 rfl rfl <| rn_getf (np := 4) F dX1_take_1 rfl fF_X1_43 (fs hF rfl rfl) rfl <| rn_if_ne (tg := 25) (np := 7) F dX1_take_4 rfl rfl (fun q => absurd q ((fun z => z hk))) (fun _ => rn_aload_n (np := 8) F dX1_take_7 rfl rfl <| rn_getr (np := 11) F dX1_take_8 rfl fF_X1_9 (fs hF rfl rfl) rfl <| rn_aload_n (np := 12) F dX1_take_11 rfl rfl <| rn_getfE (np := 15) F dX1_take_12 rfl fF_X1_46 (fs hF rfl rfl) rfl e3 <| rn_aload_n (np := 16) F dX1_take_15 rfl rfl <| rn_getfE (np := 19) F dX1_take_16 rfl fF_X1_49 (fs hF rfl rfl) rfl e4 <| rn_cV2v (np := 22) F dX1_take_19 rfl cv_X2_setPhase wM_X1_52 (fs hF rfl rfl) rfl (c_X2_setPhase hF hS hi hp rfl) (Nat.le_of_ble_eq_true rfl) (Nat.le_of_ble_eq_true rfl) <| rn_goto (np := 40) F dX1_take_22 rfl <| rn_vret F Rr dX1_take_40 ?_)
  · exact ⟨rfl, rfl⟩
set_option maxRecDepth 20000 in
theorem c_X1_take1 {G : GxT} (hF : Full G) {h : HpT} {n i o : Nat} (hS : SI n h) (hk : ¬ h 20 2 = 0) (hi : i < n) (ho : o < n) (e3 : h 20 3 = nI i) (e4 : h 20 4 = nI o) : mcv G yX1_take cX1_take 1 none 4 [.ref (gad G 20)] h (cano n (va_up h 4 (swp (h 4) i o))) := by
  refine mc_of (by decide) (Nat.le_of_ble_eq_true rfl) (fun X hG F Rr hL => ?_)
  subst hG
  have F : FxT X cX1_take RX1 4 := F
  show rn X 0 [(0, .ref (gad X.1 20))] [] h
  refine rn_aload_n (np := 1) F dX1_take_0 rfl rfl <| rn_getf (np := 4) F dX1_take_1 rfl fF_X1_43 (fs hF rfl rfl) rfl <| rn_if_ne (tg := 25) (np := 7) F dX1_take_4 rfl rfl (fun _ => rn_aload_n (np := 26) F dX1_take_25 rfl rfl <| rn_getr (np := 29) F dX1_take_26 rfl fF_X1_9 (fs hF rfl rfl) rfl <| rn_aload_n (np := 30) F dX1_take_29 rfl rfl <| rn_getfE (np := 33) F dX1_take_30 rfl fF_X1_46 (fs hF rfl rfl) rfl e3 <| rn_aload_n (np := 34) F dX1_take_33 rfl rfl <| rn_getfE (np := 37) F dX1_take_34 rfl fF_X1_49 (fs hF rfl rfl) rfl e4 <| rn_cV2v (np := 40) F dX1_take_37 rfl cv_X2_swapPhases wM_X1_56 (fs hF rfl rfl) rfl (c_X2_swapPhases hF hS hi ho) (Nat.le_of_ble_eq_true rfl) (Nat.le_of_ble_eq_true rfl) <| rn_vret F Rr dX1_take_40 ?_) (fun q => absurd q (hk))
  · exact ⟨rfl, rfl⟩
