set_option maxRecDepth 20000 in
theorem c_X1_compare {G : GxT} (hF : Full G) {h : HpT} {n : Nat} {x y z : Int32} (hS : SI n h) : mcv G yX1_compare cX1_compare 5 none 3 [.ref (gad G 20), .int x, .int y, .int z] h (va_up h 20 (cmpC (h 2) (h 3) (h 9) (h 1 11) n (h 20) (h 4) x y z)) := by
  refine mc_of (by decide) (Nat.le_of_ble_eq_true rfl) (fun X hG F Rr hL => ?_)
  subst hG
  have F : FxT X cX1_compare RX1 3 := F
  show rn X 0 [(0, .ref (gad X.1 20)), (1, .int x), (2, .int y), (3, .int z)] [] h
  refine rn_aload_n (np := 1) F dX1_compare_0 rfl rfl <| rn_getr (np := 4) F dX1_compare_1 rfl fF_X1_9 (fs hF rfl rfl) rfl <| rn_cV0i (np := 7) F dX1_compare_4 rfl cv_X2_isSafe wM_X1_73 (fs hF rfl rfl) rfl (c_X2_isSafe hF) (Nat.le_of_ble_eq_true rfl) (Nat.le_of_ble_eq_true rfl) <| rn_if_ne (tg := 11) (np := 10) F dX1_compare_7 rfl rfl (fun c7 => rn_aload_n (np := 12) F dX1_compare_11 rfl rfl <| rn_getr (np := 15) F dX1_compare_12 rfl fF_X1_9 (fs hF rfl rfl) rfl <| rn_cV0i (np := 18) F dX1_compare_15 rfl cv_X2_griefNow wM_X1_39 (fs hF rfl rfl) rfl (c_X2_griefNow hF) (Nat.le_of_ble_eq_true rfl) (Nat.le_of_ble_eq_true rfl) <| rn_istore (np := 20) F dX1_compare_18 rfl hL rfl <| rn_aload_n (np := 21) F dX1_compare_20 rfl rfl <| rn_getf (np := 24) F dX1_compare_21 rfl fF_X1_15 (fs hF rfl rfl) rfl <| rn_if_eq (tg := 36) (np := 27) F dX1_compare_24 rfl rfl (fun c24 => rn_aload_n (np := 37) F dX1_compare_36 rfl rfl <| rn_iconst (np := 38) (v := 1) F dX1_compare_37 rfl rfl <| rn_putf (np := 41) F dX1_compare_38 rfl fP_X1_15 (fs hF rfl rfl) rfl rfl rfl <| rn_aload_n (np := 42) F dX1_compare_41 rfl rfl <| rn_iload (np := 44) F dX1_compare_42 rfl rfl <| rn_putf (np := 47) F dX1_compare_44 rfl fP_X1_36 (fs hF rfl rfl) rfl rfl rfl <| rn_aload_n (np := 48) F dX1_compare_47 rfl rfl <| rn_iload_n (np := 49) F dX1_compare_48 rfl rfl <| rn_putf (np := 52) F dX1_compare_49 rfl fP_X1_43 (fs hF rfl rfl) rfl rfl rfl <| rn_aload_n (np := 53) F dX1_compare_52 rfl rfl <| rn_iload_n (np := 54) F dX1_compare_53 rfl rfl <| rn_putf (np := 57) F dX1_compare_54 rfl fP_X1_46 (fs hF rfl rfl) rfl rfl rfl <| rn_aload_n (np := 58) F dX1_compare_57 rfl rfl <| rn_iload_n (np := 59) F dX1_compare_58 rfl rfl <| rn_putf (np := 62) F dX1_compare_59 rfl fP_X1_49 (fs hF rfl rfl) rfl rfl rfl <| rn_vret F Rr dX1_compare_62 ?_) (fun c24 => rn_iload (np := 29) F dX1_compare_27 rfl rfl <| rn_aload_n (np := 30) F dX1_compare_29 rfl rfl <| rn_getf (np := 33) F dX1_compare_30 rfl fF_X1_36 (fs hF rfl rfl) rfl <| rn_icmp_ge (tg := 62) (np := 36) F dX1_compare_33 rfl rfl (fun c33 => rn_vret F Rr dX1_compare_62 ?_) (fun c33 => rn_aload_n (np := 37) F dX1_compare_36 rfl rfl <| rn_iconst (np := 38) (v := 1) F dX1_compare_37 rfl rfl <| rn_putf (np := 41) F dX1_compare_38 rfl fP_X1_15 (fs hF rfl rfl) rfl rfl rfl <| rn_aload_n (np := 42) F dX1_compare_41 rfl rfl <| rn_iload (np := 44) F dX1_compare_42 rfl rfl <| rn_putf (np := 47) F dX1_compare_44 rfl fP_X1_36 (fs hF rfl rfl) rfl rfl rfl <| rn_aload_n (np := 48) F dX1_compare_47 rfl rfl <| rn_iload_n (np := 49) F dX1_compare_48 rfl rfl <| rn_putf (np := 52) F dX1_compare_49 rfl fP_X1_43 (fs hF rfl rfl) rfl rfl rfl <| rn_aload_n (np := 53) F dX1_compare_52 rfl rfl <| rn_iload_n (np := 54) F dX1_compare_53 rfl rfl <| rn_putf (np := 57) F dX1_compare_54 rfl fP_X1_46 (fs hF rfl rfl) rfl rfl rfl <| rn_aload_n (np := 58) F dX1_compare_57 rfl rfl <| rn_iload_n (np := 59) F dX1_compare_58 rfl rfl <| rn_putf (np := 62) F dX1_compare_59 rfl fP_X1_49 (fs hF rfl rfl) rfl rfl rfl <| rn_vret F Rr dX1_compare_62 ?_))) (fun c7 => rn_vret F Rr dX1_compare_10 ?_)
  · have q1 := bP_1 c7
    rw [sfC_V hS.2.2.2.2] at q1
    refine ⟨rfl, ?_⟩
    rw [cmpC, if_pos ⟨bP_t q1, Or.inl c24⟩, ← grC_V hS.2.2.2.2, ← hs5]
  · have q1 := bP_1 c7
    rw [sfC_V hS.2.2.2.2] at q1
    refine ⟨rfl, ?_⟩
    rw [cmpC, if_neg (fun q => ?_), up_id]
    rcases q.2 with q | q
    · exact c24 q
    · rw [← grC_V hS.2.2.2.2] at q; exact Int32.not_lt.mpr c33 q
  · have q1 := bP_1 c7
    rw [sfC_V hS.2.2.2.2] at q1
    refine ⟨rfl, ?_⟩
    rw [cmpC, if_pos ⟨bP_t q1, Or.inr ?_⟩, ← grC_V hS.2.2.2.2, ← hs5]
    rw [← grC_V hS.2.2.2.2]; exact Int32.not_le.mp c33
  · have q1 := bP_0 c7
    rw [sfC_V hS.2.2.2.2] at q1
    refine ⟨rfl, ?_⟩
    rw [cmpC, if_neg (fun q => ?_), up_id]
    rw [bP_f q1] at q
    exact absurd q.1 (by decide)
set_option maxRecDepth 20000 in
theorem c_X1_isFree {G : GxT} (hF : Full G) {h : HpT} {n i : Nat} (hn : n ≤ 9) (hi : i < n) (eh : h 1 9 = nI n) : mci G yX1_isFree cX1_isFree 2 (some .boolean) 1 [.ref (gad G 20), .int (nI i)] h (bP (h 5 i = 0 ∧ ∀ j, j < n → ¬ (j ≠ i ∧ h 6 j = h 6 i))) (h) := by
  refine mc_of (by decide) (Nat.le_of_ble_eq_true rfl) (fun X hG F Rr hL => ?_)
  subst hG
  have F : FxT X cX1_isFree RX1 1 := F
  show rn X 0 [(0, .ref (gad X.1 20)), (1, .int (nI i))] [] h
  refine rn_aload_n (np := 1) F dX1_isFree_0 rfl rfl <| rn_getr (np := 4) F dX1_isFree_1 rfl fF_X1_9 (fs hF rfl rfl) rfl <| rn_getr (np := 7) F dX1_isFree_4 rfl fF_X1_59 (fs hF rfl rfl) rfl <| rn_iload_n (np := 8) F dX1_isFree_7 rfl rfl <| rn_ialdN (np := 9) F dX1_isFree_8 rfl (fs hF rfl rfl) rfl (by omega) <| rn_if_ne (tg := 27) (np := 12) F dX1_isFree_9 rfl rfl (fun c9 => rn_iconst (np := 28) (v := 0) F dX1_isFree_27 rfl rfl <| rn_zret F Rr dX1_isFree_28 rfl ?_) (fun c9 => rn_aload_n (np := 13) F dX1_isFree_12 rfl rfl <| rn_getr (np := 16) F dX1_isFree_13 rfl fF_X1_9 (fs hF rfl rfl) rfl <| rn_iload_n (np := 17) F dX1_isFree_16 rfl rfl <| rn_cV1i (np := 20) F dX1_isFree_17 rfl cv_X2_isTied wM_X1_63 (fs hF rfl rfl) rfl (c_X2_isTied hF hn hi eh) (Nat.le_of_ble_eq_true rfl) (Nat.le_of_ble_eq_true rfl) <| rn_if_ne (tg := 27) (np := 23) F dX1_isFree_20 rfl rfl (fun c20 => rn_iconst (np := 28) (v := 0) F dX1_isFree_27 rfl rfl <| rn_zret F Rr dX1_isFree_28 rfl ?_) (fun c20 => rn_iconst (np := 24) (v := 1) F dX1_isFree_23 rfl rfl <| rn_goto (np := 28) F dX1_isFree_24 rfl <| rn_zret F Rr dX1_isFree_28 rfl ?_))
  · refine ⟨by rw [bP_f (fun q => c9 q.1)], rfl⟩
  · refine ⟨by rw [bP_f (fun q => (bP_1 c20) q.2)], rfl⟩
  · refine ⟨by rw [bP_t ⟨c9, Classical.byContradiction (fun q => bP_0 c20 q)⟩], rfl⟩
set_option maxRecDepth 20000 in
theorem c_X1_lessens {G : GxT} (hF : Full G) {h : HpT}   : mci G yX1_lessens cX1_lessens 1 (some .boolean) 3 [.ref (gad G 20)] h (bI (h 20 0 ≠ 0 ∧ h 20 1 < grC h)) (h) := by
  refine mc_of (by decide) (Nat.le_of_ble_eq_true rfl) (fun X hG F Rr hL => ?_)
  subst hG
  have F : FxT X cX1_lessens RX1 3 := F
  show rn X 0 [(0, .ref (gad X.1 20))] [] h
  refine rn_aload_n (np := 1) F dX1_lessens_0 rfl rfl <| rn_getf (np := 4) F dX1_lessens_1 rfl fF_X1_15 (fs hF rfl rfl) rfl <| rn_if_eq (tg := 25) (np := 7) F dX1_lessens_4 rfl rfl (fun c4 => rn_iconst (np := 26) (v := 0) F dX1_lessens_25 rfl rfl <| rn_zret F Rr dX1_lessens_26 rfl ?_) (fun c4 => rn_aload_n (np := 8) F dX1_lessens_7 rfl rfl <| rn_getf (np := 11) F dX1_lessens_8 rfl fF_X1_36 (fs hF rfl rfl) rfl <| rn_aload_n (np := 12) F dX1_lessens_11 rfl rfl <| rn_getr (np := 15) F dX1_lessens_12 rfl fF_X1_9 (fs hF rfl rfl) rfl <| rn_cV0i (np := 18) F dX1_lessens_15 rfl cv_X2_griefNow wM_X1_39 (fs hF rfl rfl) rfl (c_X2_griefNow hF) (Nat.le_of_ble_eq_true rfl) (Nat.le_of_ble_eq_true rfl) <| rn_icmp_ge (tg := 25) (np := 21) F dX1_lessens_18 rfl rfl (fun c18 => rn_iconst (np := 26) (v := 0) F dX1_lessens_25 rfl rfl <| rn_zret F Rr dX1_lessens_26 rfl ?_) (fun c18 => rn_iconst (np := 22) (v := 1) F dX1_lessens_21 rfl rfl <| rn_goto (np := 26) F dX1_lessens_22 rfl <| rn_zret F Rr dX1_lessens_26 rfl ?_))
  all_goals (refine rI ?_ rfl; grind [bI])
set_option maxRecDepth 20000 in
theorem l_X1_tryChanges {X : XxT} {post : Option Value → HpT → Prop} (hF : Full X.1) (F : FxT X cX1_tryChanges RX1 4) (Rr : RxT X none post) (hL : X.2.2.2.2.2.2.2.2.2.2.2.2.2.1 = 4) {h : HpT} {n i : Nat} {g : Nat → Int32} (hS : SI n h) (hi : i < n) {p0 : Nat} (h0 : p0 < 3) (e0 : h 4 i = nI p0) (hp : post none (stt n h (tcF (cmpC (h 2) (h 3) (h 9) (h 1 11) n) (h 4) i (h 20) 3) (h 4))) : ∀ (k : Nat) (p c : Nat), 3 - p < k → p ≤ 3 → c < 3 → rn X 12 [(0, .ref (gad X.1 20)), (1, .int (nI i)), (2, .int (nI p0)), (3, .int (nI p))] [] (stt n h (tcF (cmpC (h 2) (h 3) (h 9) (h 1 11) n) (h 4) i (h 20) p) (upd (h 4) i (nI c))) := by
  intro k
  induction k with
  | zero => intro p c hk; exact absurd hk (Nat.not_lt_zero _)
  | succ k ih =>
    intro p c hk hpp hc
    have hn := hS.1
    refine rn_iload_n (np := 13) F dX1_tryChanges_12 rfl rfl <| rn_iconst (np := 14) (v := 3) F dX1_tryChanges_13 rfl rfl <| rn_Nge (tg := 44) (np := 17) (b := 3) F dX1_tryChanges_14 rfl rfl rfl rfl (by omega) (fun c14 => rn_aload_n (np := 45) F dX1_tryChanges_44 rfl rfl <| rn_getr (np := 48) F dX1_tryChanges_45 rfl fF_X1_9 (fs hF rfl rfl) rfl <| rn_iload_n (np := 49) F dX1_tryChanges_48 rfl rfl <| rn_iload_n (np := 50) F dX1_tryChanges_49 rfl rfl <| rn_cV2v (np := 53) F dX1_tryChanges_50 rfl cv_X2_setPhase wM_X1_52 (fs hF rfl rfl) rfl (c_X2_setPhase hF (SI_stt hS (upd_rg hc hS.2.2.2.1)) hi h0 rfl) (Nat.le_of_ble_eq_true rfl) (Nat.le_of_ble_eq_true rfl) <| rn_vret F Rr dX1_tryChanges_53 ?_) (fun c14 => rn_iload_n (np := 18) F dX1_tryChanges_17 rfl rfl <| rn_iload_n (np := 19) F dX1_tryChanges_18 rfl rfl <| rn_Neq (tg := 38) (np := 22) F dX1_tryChanges_19 rfl rfl rfl rfl (by omega) (fun c19 => rn_iincN (np := 41) F dX1_tryChanges_38 rfl rfl hL rfl <| rn_goto (np := 12) F dX1_tryChanges_41 rfl <| ?_) (fun c19 => rn_aload_n (np := 23) F dX1_tryChanges_22 rfl rfl <| rn_getr (np := 26) F dX1_tryChanges_23 rfl fF_X1_9 (fs hF rfl rfl) rfl <| rn_iload_n (np := 27) F dX1_tryChanges_26 rfl rfl <| rn_iload_n (np := 28) F dX1_tryChanges_27 rfl rfl <| rn_cV2v (np := 31) F dX1_tryChanges_28 rfl cv_X2_setPhase wM_X1_52 (fs hF rfl rfl) rfl (c_X2_setPhase hF (SI_stt hS (upd_rg hc hS.2.2.2.1)) hi (by omega) rfl) (Nat.le_of_ble_eq_true rfl) (Nat.le_of_ble_eq_true rfl) <| rn_aload_n (np := 32) F dX1_tryChanges_31 rfl rfl <| rn_iconst (np := 33) (v := 0) F dX1_tryChanges_32 rfl rfl <| rn_iload_n (np := 34) F dX1_tryChanges_33 rfl rfl <| rn_iload_n (np := 35) F dX1_tryChanges_34 rfl rfl <| rn_cV3v (np := 38) F dX1_tryChanges_35 rfl cv_X1_compare wM_X1_69 (fs hF rfl rfl) rfl (c_X1_compare (n := n) hF (by rw [stt_sp]; exact SI_stt hS (by rw [upd_upd]; exact upd_rg (by omega) hS.2.2.2.1))) (Nat.le_of_ble_eq_true rfl) (Nat.le_of_ble_eq_true rfl) <| rn_iincN (np := 41) F dX1_tryChanges_38 rfl rfl hL rfl <| rn_goto (np := 12) F dX1_tryChanges_41 rfl <| ?_))
    · rw [stt_sp, upd_upd, ← e0, upd_id, show p = 3 by omega]; exact hp
    · have e : tcF (cmpC (h 2) (h 3) (h 9) (h 1 11) n) (h 4) i (h 20) (p + 1) = tcF (cmpC (h 2) (h 3) (h 9) (h 1 11) n) (h 4) i (h 20) p := by rw [tcF, if_pos (by rw [e0, c19])]
      exact e ▸ ih (p + 1) c (by omega) (by omega) hc
    · have e : tcF (cmpC (h 2) (h 3) (h 9) (h 1 11) n) (h 4) i (h 20) (p + 1) = cmpC (h 2) (h 3) (h 9) (h 1 11) n (tcF (cmpC (h 2) (h 3) (h 9) (h 1 11) n) (h 4) i (h 20) p) (upd (h 4) i (nI p)) 0 (nI i) (nI p) := by rw [tcF, if_neg (by rw [e0, nI_eqs (by omega) (by omega)]; exact c19)]
      have z := ih (p + 1) p (by omega) (by omega) (by omega)
      rw [e] at z
      rw [stt_sp, upd_upd]
      exact stt_20 ▸ z
set_option maxRecDepth 20000 in
theorem c_X1_tryChanges {G : GxT} (hF : Full G) {h : HpT} {n i : Nat} (hS : SI n h) (hi : i < n) : mcv G yX1_tryChanges cX1_tryChanges 4 none 4 [.ref (gad G 20), .int (nI i)] h (stt n h (tcF (cmpC (h 2) (h 3) (h 9) (h 1 11) n) (h 4) i (h 20) 3) (h 4)) := by
  refine mc_of (by decide) (Nat.le_of_ble_eq_true rfl) (fun X hG F Rr hL => ?_)
  subst hG
  have F : FxT X cX1_tryChanges RX1 4 := F
  show rn X 0 [(0, .ref (gad X.1 20)), (1, .int (nI i))] [] h
  have hn := hS.1
  obtain ⟨p0, h0, e0⟩ := hS.2.2.2.1 i (by omega)
  refine rn_aload_n (np := 1) F dX1_tryChanges_0 rfl rfl <| rn_getr (np := 4) F dX1_tryChanges_1 rfl fF_X1_9 (fs hF rfl rfl) rfl <| rn_getr (np := 7) F dX1_tryChanges_4 rfl fF_X1_66 (fs hF rfl rfl) rfl <| rn_iload_n (np := 8) F dX1_tryChanges_7 rfl rfl <| rn_ialdE (np := 9) F dX1_tryChanges_8 rfl (fs hF rfl rfl) rfl (by omega) e0 <| rn_istore_n (np := 10) F dX1_tryChanges_9 rfl hL rfl <| rn_iconst (np := 11) (v := 0) F dX1_tryChanges_10 rfl rfl <| rn_istore_n (np := 12) F dX1_tryChanges_11 rfl hL rfl <| ?_
  have z := l_X1_tryChanges (h := h) (g := h 4) hF F Rr hL hS hi h0 e0 ⟨rfl, rfl⟩ 4 0 p0 (by omega) (by omega) h0
  rw [tcF, ← e0, upd_id, stt_self hS, e0] at z
  exact z
