set_option maxRecDepth 20000 in
theorem c_X2_resetLimits {G : GxT} (hF : Full G) {h : HpT}   : mcv G yX2_resetLimits cX2_resetLimits 1 none 1 [.ref (gad G 1)] h (hs (va_up h 9 (fillF (h 9) 6 1)) 1 11 400) := by
  refine mc_of (by decide) (Nat.le_of_ble_eq_true rfl) (fun X hG F Rr hL => ?_)
  subst hG
  have F : FxT X cX2_resetLimits RX2 1 := F
  show rn X 0 [(0, .ref (gad X.1 1))] [] h
  refine rn_aload_n (np := 1) F dX2_resetLimits_0 rfl rfl <| rn_getr (np := 4) F dX2_resetLimits_1 rfl fF_X2_33 (fs hF rfl rfl) rfl <| rn_iconst (np := 5) (v := 1) F dX2_resetLimits_4 rfl rfl <| rn_cS2v (np := 8) F dX2_resetLimits_5 rfl cs_J7_fill_53178 wM_X2_42 (c_J7_fill_53178 hF (fs hF rfl rfl) (by decide)) (Nat.le_of_ble_eq_true rfl) (Nat.le_of_ble_eq_true rfl) <| rn_aload_n (np := 9) F dX2_resetLimits_8 rfl rfl <| rn_sipush (np := 12) (v := 400) F dX2_resetLimits_9 rfl rfl <| rn_putf (np := 15) F dX2_resetLimits_12 rfl fP_X2_48 (fs hF rfl rfl) rfl rfl rfl <| rn_vret F Rr dX2_resetLimits_15 ?_
  · exact ⟨rfl, rfl⟩
set_option maxRecDepth 20000 in
theorem l_X2_dropPairs {X : XxT} {post : Option Value → HpT → Prop} (hF : Full X.1) (F : FxT X cX2_dropPairs RX2 0) (Rr : RxT X none post) (hL : X.2.2.2.2.2.2.2.2.2.2.2.2.2.1 = 2) {h : HpT} {n : Nat} (hn : n ≤ 9) (eh : h 1 9 = nI n) (hp : post none (va_up h 6 (idF (h 6) n))) : ∀ (k : Nat) (i : Nat), n - i < k → i ≤ n → rn X 7 [(0, .ref (gad X.1 1)), (1, .int (nI i))] [] (va_up h 6 (idF (h 6) i)) := by
  intro k
  induction k with
  | zero => intro i hk; exact absurd hk (Nat.not_lt_zero _)
  | succ k ih =>
    intro i hk hi
    refine rn_iload_n (np := 8) F dX2_dropPairs_7 rfl rfl <| rn_aload_n (np := 9) F dX2_dropPairs_8 rfl rfl <| rn_getfE (np := 12) F dX2_dropPairs_9 rfl fF_X2_52 (fs hF rfl rfl) rfl eh <| rn_Nge (tg := 28) (np := 15) F dX2_dropPairs_12 rfl rfl rfl rfl (by omega) (fun c12 => rn_vret F Rr dX2_dropPairs_28 ?_) (fun c12 => rn_aload_n (np := 16) F dX2_dropPairs_15 rfl rfl <| rn_getr (np := 19) F dX2_dropPairs_16 rfl fF_X2_24 (fs hF rfl rfl) rfl <| rn_iload_n (np := 20) F dX2_dropPairs_19 rfl rfl <| rn_iload_n (np := 21) F dX2_dropPairs_20 rfl rfl <| rn_iastN (np := 22) F dX2_dropPairs_21 rfl (fs hF rfl rfl) rfl (by omega) <| rn_iincN (np := 25) F dX2_dropPairs_22 rfl rfl hL rfl <| rn_goto (np := 7) F dX2_dropPairs_25 rfl <| ?_)
    · rw [show i = n by omega]; exact hp
    · exact (id_step h i (h 6)) ▸ ih (i + 1) (by omega) (by omega)
set_option maxRecDepth 20000 in
theorem c_X2_dropPairs {G : GxT} (hF : Full G) {h : HpT} {n : Nat} (hn : n ≤ 9) (eh : h 1 9 = nI n) : mcv G yX2_dropPairs cX2_dropPairs 2 none 0 [.ref (gad G 1)] h (va_up (hs h 1 10 0) 6 (idF (h 6) n)) := by
  refine mc_of (by decide) (Nat.le_of_ble_eq_true rfl) (fun X hG F Rr hL => ?_)
  subst hG
  have F : FxT X cX2_dropPairs RX2 0 := F
  show rn X 0 [(0, .ref (gad X.1 1))] [] h
  refine rn_aload_n (np := 1) F dX2_dropPairs_0 rfl rfl <| rn_iconst (np := 2) (v := 0) F dX2_dropPairs_1 rfl rfl <| rn_putf (np := 5) F dX2_dropPairs_2 rfl fP_X2_69 (fs hF rfl rfl) rfl rfl rfl <| rn_iconst (np := 6) (v := 0) F dX2_dropPairs_5 rfl rfl <| rn_istore_n (np := 7) F dX2_dropPairs_6 rfl hL rfl <| ?_
  have e : va_up (hs h 1 10 0) 6 (idF (h 6) 0) = hs h 1 10 0 := by
    have : idF (h 6) 0 = h 6 := by funext j; simp [idF]
    rw [this]
    exact up_id (hs h 1 10 0) 6
  have := l_X2_dropPairs (h := hs h 1 10 0) (n := n) hF F Rr hL hn eh ⟨rfl, rfl⟩ (n + 1) 0 (by omega) (by omega)
  exact e ▸ this
set_option maxRecDepth 20000 in
theorem c_X2_dropHouses {G : GxT} (hF : Full G) {h : HpT} {n : Nat} (hn : n ≤ 9) (eh : h 1 9 = nI n) : mcv G yX2_dropHouses cX2_dropHouses 1 none 1 [.ref (gad G 1)] h (va_up (hs (va_up (hs h 1 10 0) 6 (idF (h 6) n)) 1 9 0) 10 (fillF (h 10) 18 0)) := by
  refine mc_of (by decide) (Nat.le_of_ble_eq_true rfl) (fun X hG F Rr hL => ?_)
  subst hG
  have F : FxT X cX2_dropHouses RX2 1 := F
  show rn X 0 [(0, .ref (gad X.1 1))] [] h
  refine rn_aload_n (np := 1) F dX2_dropHouses_0 rfl rfl <| rn_cV0v (np := 4) F dX2_dropHouses_1 rfl cv_X2_dropPairs wM_X2_59 (fs hF rfl rfl) rfl (c_X2_dropPairs hF hn eh) (Nat.le_of_ble_eq_true rfl) (Nat.le_of_ble_eq_true rfl) <| rn_aload_n (np := 5) F dX2_dropHouses_4 rfl rfl <| rn_iconst (np := 6) (v := 0) F dX2_dropHouses_5 rfl rfl <| rn_putf (np := 9) F dX2_dropHouses_6 rfl fP_X2_52 (fs hF rfl rfl) rfl rfl rfl <| rn_aload_n (np := 10) F dX2_dropHouses_9 rfl rfl <| rn_getr (np := 13) F dX2_dropHouses_10 rfl fF_X2_36 (fs hF rfl rfl) rfl <| rn_iconst (np := 14) (v := 0) F dX2_dropHouses_13 rfl rfl <| rn_cS2v (np := 17) F dX2_dropHouses_14 rfl cs_J7_fill_53178 wM_X2_42 (c_J7_fill_53178 hF (fs hF rfl rfl) (by decide)) (Nat.le_of_ble_eq_true rfl) (Nat.le_of_ble_eq_true rfl) <| rn_vret F Rr dX2_dropHouses_17 ?_
  · exact ⟨rfl, rfl⟩
set_option maxRecDepth 20000 in
theorem l_X2_fixedBits {X : XxT} {post : Option Value → HpT → Prop} (hF : Full X.1) (F : FxT X cX2_fixedBits RX2 0) (Rr : RxT X (some .int) post) (hL : X.2.2.2.2.2.2.2.2.2.2.2.2.2.1 = 3) {h : HpT} {n : Nat} (hn : n ≤ 9) (eh : h 1 9 = nI n) (hp : post (some (.int (fbF (h 5) n))) h) : ∀ (k : Nat) (i : Nat), n - i < k → i ≤ n → rn X 4 [(0, .ref (gad X.1 1)), (1, .int (fbF (h 5) i)), (2, .int (nI i))] [] h := by
  intro k
  induction k with
  | zero => intro i hk; exact absurd hk (Nat.not_lt_zero _)
  | succ k ih =>
    intro i hk hi
    refine rn_iload_n (np := 5) F dX2_fixedBits_4 rfl rfl <| rn_aload_n (np := 6) F dX2_fixedBits_5 rfl rfl <| rn_getfE (np := 9) F dX2_fixedBits_6 rfl fF_X2_52 (fs hF rfl rfl) rfl eh <| rn_Nge (tg := 29) (np := 12) F dX2_fixedBits_9 rfl rfl rfl rfl (by omega) (fun c9 => rn_iload_n (np := 30) F dX2_fixedBits_29 rfl rfl <| rn_iret F Rr dX2_fixedBits_30 ?_) (fun c9 => rn_iload_n (np := 13) F dX2_fixedBits_12 rfl rfl <| rn_aload_n (np := 14) F dX2_fixedBits_13 rfl rfl <| rn_getr (np := 17) F dX2_fixedBits_14 rfl fF_X2_21 (fs hF rfl rfl) rfl <| rn_iload_n (np := 18) F dX2_fixedBits_17 rfl rfl <| rn_ialdN (np := 19) F dX2_fixedBits_18 rfl (fs hF rfl rfl) rfl (by omega) <| rn_iload_n (np := 20) F dX2_fixedBits_19 rfl rfl <| rn_ishl (np := 21) F dX2_fixedBits_20 rfl <| rn_ior (np := 22) F dX2_fixedBits_21 rfl <| rn_istore_n (np := 23) F dX2_fixedBits_22 rfl hL rfl <| rn_iincN (np := 26) F dX2_fixedBits_23 rfl rfl hL rfl <| rn_goto (np := 4) F dX2_fixedBits_26 rfl <| ?_)
    · rw [show i = n by omega]; exact hp
    · exact ih (i + 1) (by omega) (by omega)
set_option maxRecDepth 20000 in
theorem c_X2_fixedBits {G : GxT} (hF : Full G) {h : HpT} {n : Nat} (hn : n ≤ 9) (eh : h 1 9 = nI n) : mci G yX2_fixedBits cX2_fixedBits 3 (some .int) 0 [.ref (gad G 1)] h (fbF (h 5) n) (h) := by
  refine mc_of (by decide) (Nat.le_of_ble_eq_true rfl) (fun X hG F Rr hL => ?_)
  subst hG
  have F : FxT X cX2_fixedBits RX2 0 := F
  show rn X 0 [(0, .ref (gad X.1 1))] [] h
  refine rn_iconst (np := 1) (v := 0) F dX2_fixedBits_0 rfl rfl <| rn_istore_n (np := 2) F dX2_fixedBits_1 rfl hL rfl <| rn_iconst (np := 3) (v := 0) F dX2_fixedBits_2 rfl rfl <| rn_istore_n (np := 4) F dX2_fixedBits_3 rfl hL rfl <| ?_
  exact l_X2_fixedBits hF F Rr hL hn eh ⟨rfl, rfl⟩ (n + 1) 0 (by omega) (by omega)
set_option maxRecDepth 20000 in
theorem c_X2_packedPhases {G : GxT} (hF : Full G) {h : HpT} {n : Nat} (hn : n ≤ 9) (eh : h 1 9 = nI n) : mci G yX2_packedPhases cX2_packedPhases 1 (some .int) 1 [.ref (gad G 1)] h (packF (h 4) n) (h) := by
  refine mc_of (by decide) (Nat.le_of_ble_eq_true rfl) (fun X hG F Rr hL => ?_)
  subst hG
  have F : FxT X cX2_packedPhases RX2 1 := F
  show rn X 0 [(0, .ref (gad X.1 1))] [] h
  refine rn_aload_n (np := 1) F dX2_packedPhases_0 rfl rfl <| rn_getr (np := 4) F dX2_packedPhases_1 rfl fF_X2_18 (fs hF rfl rfl) rfl <| rn_aload_n (np := 5) F dX2_packedPhases_4 rfl rfl <| rn_getfE (np := 8) F dX2_packedPhases_5 rfl fF_X2_52 (fs hF rfl rfl) rfl eh <| rn_cN2i (np := 11) F dX2_packedPhases_8 rfl cs_X4_pack (rn_nw80 F) (c_X4_pack hF (fs hF rfl rfl) (by omega)) (Nat.le_of_ble_eq_true rfl) (Nat.le_of_ble_eq_true rfl) <| rn_iret F Rr dX2_packedPhases_11 ?_
  · exact ⟨rfl, rfl⟩
set_option maxRecDepth 20000 in
theorem l_X2_isSafe {X : XxT} {post : Option Value → HpT → Prop} (hF : Full X.1) (F : FxT X cX2_isSafe RX2 1) (Rr : RxT X (some .boolean) post) (hL : X.2.2.2.2.2.2.2.2.2.2.2.2.2.1 = 2) {h : HpT} (h1 : (∀ j, j < 18 → absI (h 10 j) ≤ h 1 11) → post (some (.int 1)) h) (h0 : ¬ (∀ j, j < 18 → absI (h 10 j) ≤ h 1 11) → post (some (.int 0)) h) : ∀ (k : Nat) (i : Nat), 18 - i < k → i ≤ 18 → (∀ j, j < i → absI (h 10 j) ≤ h 1 11) → rn X 2 [(0, .ref (gad X.1 1)), (1, .int (nI i))] [] h := by
  intro k
  induction k with
  | zero => intro i hk; exact absurd hk (Nat.not_lt_zero _)
  | succ k ih =>
    intro i hk hi hj
    refine rn_iload_n (np := 3) F dX2_isSafe_2 rfl rfl <| rn_aload_n (np := 4) F dX2_isSafe_3 rfl rfl <| rn_getr (np := 7) F dX2_isSafe_4 rfl fF_X2_36 (fs hF rfl rfl) rfl <| rn_alen (np := 8) (v := 18) F dX2_isSafe_7 rfl (fs hF rfl rfl) rfl <| rn_Nge (tg := 35) (np := 11) (b := 18) F dX2_isSafe_8 rfl rfl rfl rfl (by omega) (fun c8 => rn_iconst (np := 36) (v := 1) F dX2_isSafe_35 rfl rfl <| rn_zret F Rr dX2_isSafe_36 rfl ?_) (fun c8 => rn_aload_n (np := 12) F dX2_isSafe_11 rfl rfl <| rn_getr (np := 15) F dX2_isSafe_12 rfl fF_X2_36 (fs hF rfl rfl) rfl <| rn_iload_n (np := 16) F dX2_isSafe_15 rfl rfl <| rn_ialdN (np := 17) F dX2_isSafe_16 rfl (fs hF rfl rfl) rfl (by omega) <| rn_mabs (np := 20) F dX2_isSafe_17 rfl wM_X2_97 wT_yJ9_abs_0f7a4 wN_J9 wC_yJ9_abs_0f7a4 (Nat.le_of_ble_eq_true rfl) (Nat.le_of_ble_eq_true rfl) <| rn_aload_n (np := 21) F dX2_isSafe_20 rfl rfl <| rn_getf (np := 24) F dX2_isSafe_21 rfl fF_X2_48 (fs hF rfl rfl) rfl <| rn_icmp_le (tg := 29) (np := 27) F dX2_isSafe_24 rfl rfl (fun c24 => rn_iincN (np := 32) F dX2_isSafe_29 rfl rfl hL rfl <| rn_goto (np := 2) F dX2_isSafe_32 rfl <| ?_) (fun c24 => rn_iconst (np := 28) (v := 0) F dX2_isSafe_27 rfl rfl <| rn_zret F Rr dX2_isSafe_28 rfl ?_))
    · rw [show i = 18 by omega] at hj; exact h1 hj
    · exact ih (i + 1) (by omega) (by omega) (lt_s hj c24)
    · exact h0 (fun q => c24 (q i (by omega)))
set_option maxRecDepth 20000 in
theorem c_X2_isSafe {G : GxT} (hF : Full G) {h : HpT}   : mci G yX2_isSafe cX2_isSafe 2 (some .boolean) 1 [.ref (gad G 1)] h (bP (∀ j, j < 18 → absI (h 10 j) ≤ h 1 11)) (h) := by
  refine mc_of (by decide) (Nat.le_of_ble_eq_true rfl) (fun X hG F Rr hL => ?_)
  subst hG
  have F : FxT X cX2_isSafe RX2 1 := F
  show rn X 0 [(0, .ref (gad X.1 1))] [] h
  refine rn_iconst (np := 1) (v := 0) F dX2_isSafe_0 rfl rfl <| rn_istore_n (np := 2) F dX2_isSafe_1 rfl hL rfl <| ?_
  exact l_X2_isSafe hF F Rr hL (fun q => ⟨by rw [bP_t q], rfl⟩) (fun q => ⟨by rw [bP_f q], rfl⟩) 19 0 (by omega) (by omega) lt_0
set_option maxRecDepth 20000 in
theorem l_X2_keepsTies {X : XxT} {post : Option Value → HpT → Prop} (hF : Full X.1) (F : FxT X cX2_keepsTies RX2 0) (Rr : RxT X (some .boolean) post) (hL : X.2.2.2.2.2.2.2.2.2.2.2.2.2.1 = 2) {h : HpT} {n : Nat} {lt : Nat → Nat} (hn : n ≤ 9) (eh : h 1 9 = nI n) (hlt : ∀ i, i < n → lt i ≤ i ∧ h 6 i = nI (lt i)) (h1 : (∀ j, j < n → h 4 j = h 4 (lt j)) → post (some (.int 1)) h) (h0 : ¬ (∀ j, j < n → h 4 j = h 4 (lt j)) → post (some (.int 0)) h) : ∀ (k : Nat) (i : Nat), n - i < k → i ≤ n → (∀ j, j < i → h 4 j = h 4 (lt j)) → rn X 2 [(0, .ref (gad X.1 1)), (1, .int (nI i))] [] h := by
  intro k
  induction k with
  | zero => intro i hk; exact absurd hk (Nat.not_lt_zero _)
  | succ k ih =>
    intro i hk hi hj
    refine rn_iload_n (np := 3) F dX2_keepsTies_2 rfl rfl <| rn_aload_n (np := 4) F dX2_keepsTies_3 rfl rfl <| rn_getfE (np := 7) F dX2_keepsTies_4 rfl fF_X2_52 (fs hF rfl rfl) rfl eh <| rn_Nge (tg := 38) (np := 10) F dX2_keepsTies_7 rfl rfl rfl rfl (by omega) (fun c7 => rn_iconst (np := 39) (v := 1) F dX2_keepsTies_38 rfl rfl <| rn_zret F Rr dX2_keepsTies_39 rfl ?_) (fun c7 => rn_aload_n (np := 11) F dX2_keepsTies_10 rfl rfl <| rn_getr (np := 14) F dX2_keepsTies_11 rfl fF_X2_18 (fs hF rfl rfl) rfl <| rn_iload_n (np := 15) F dX2_keepsTies_14 rfl rfl <| rn_ialdN (np := 16) F dX2_keepsTies_15 rfl (fs hF rfl rfl) rfl (by omega) <| rn_aload_n (np := 17) F dX2_keepsTies_16 rfl rfl <| rn_getr (np := 20) F dX2_keepsTies_17 rfl fF_X2_18 (fs hF rfl rfl) rfl <| rn_aload_n (np := 21) F dX2_keepsTies_20 rfl rfl <| rn_getr (np := 24) F dX2_keepsTies_21 rfl fF_X2_24 (fs hF rfl rfl) rfl <| rn_iload_n (np := 25) F dX2_keepsTies_24 rfl rfl <| rn_ialdE (np := 26) F dX2_keepsTies_25 rfl (fs hF rfl rfl) rfl (by omega) (hlt i (by omega)).2 <| rn_ialdN (np := 27) F dX2_keepsTies_26 rfl (fs hF rfl rfl) rfl (by have := (hlt i (by omega)).1; omega) <| rn_icmp_eq (tg := 32) (np := 30) F dX2_keepsTies_27 rfl rfl (fun c27 => rn_iincN (np := 35) F dX2_keepsTies_32 rfl rfl hL rfl <| rn_goto (np := 2) F dX2_keepsTies_35 rfl <| ?_) (fun c27 => rn_iconst (np := 31) (v := 0) F dX2_keepsTies_30 rfl rfl <| rn_zret F Rr dX2_keepsTies_31 rfl ?_))
    · rw [show i = n by omega] at hj; exact h1 hj
    · exact ih (i + 1) (by omega) (by omega) (lt_s hj c27)
    · exact h0 (fun q => c27 (q i (by omega)))
set_option maxRecDepth 20000 in
theorem c_X2_keepsTies {G : GxT} (hF : Full G) {h : HpT} {n : Nat} {lt : Nat → Nat} (hn : n ≤ 9) (eh : h 1 9 = nI n) (hlt : ∀ i, i < n → lt i ≤ i ∧ h 6 i = nI (lt i)) : mci G yX2_keepsTies cX2_keepsTies 2 (some .boolean) 0 [.ref (gad G 1)] h (bP (∀ j, j < n → h 4 j = h 4 (lt j))) (h) := by
  refine mc_of (by decide) (Nat.le_of_ble_eq_true rfl) (fun X hG F Rr hL => ?_)
  subst hG
  have F : FxT X cX2_keepsTies RX2 0 := F
  show rn X 0 [(0, .ref (gad X.1 1))] [] h
  refine rn_iconst (np := 1) (v := 0) F dX2_keepsTies_0 rfl rfl <| rn_istore_n (np := 2) F dX2_keepsTies_1 rfl hL rfl <| ?_
  exact l_X2_keepsTies hF F Rr hL hn eh hlt (fun q => ⟨by rw [bP_t q], rfl⟩) (fun q => ⟨by rw [bP_f q], rfl⟩) (n + 1) 0 (by omega) (by omega) lt_0
set_option maxRecDepth 20000 in
theorem l_X2_isTied {X : XxT} {post : Option Value → HpT → Prop} (hF : Full X.1) (F : FxT X cX2_isTied RX2 0) (Rr : RxT X (some .boolean) post) (hL : X.2.2.2.2.2.2.2.2.2.2.2.2.2.1 = 3) {h : HpT} {n i : Nat} (hn : n ≤ 9) (hi : i < n) (eh : h 1 9 = nI n) (h1 : (¬ ∀ j, j < n → ¬ (j ≠ i ∧ h 6 j = h 6 i)) → post (some (.int 1)) h) (h0 : (∀ j, j < n → ¬ (j ≠ i ∧ h 6 j = h 6 i)) → post (some (.int 0)) h) : ∀ (k : Nat) (o : Nat), n - o < k → o ≤ n → (∀ j, j < o → ¬ (j ≠ i ∧ h 6 j = h 6 i)) → rn X 2 [(0, .ref (gad X.1 1)), (1, .int (nI i)), (2, .int (nI o))] [] h := by
  intro k
  induction k with
  | zero => intro o hk; exact absurd hk (Nat.not_lt_zero _)
  | succ k ih =>
    intro o hk ho hj
    refine rn_iload_n (np := 3) F dX2_isTied_2 rfl rfl <| rn_aload_n (np := 4) F dX2_isTied_3 rfl rfl <| rn_getfE (np := 7) F dX2_isTied_4 rfl fF_X2_52 (fs hF rfl rfl) rfl eh <| rn_Nge (tg := 38) (np := 10) F dX2_isTied_7 rfl rfl rfl rfl (by omega) (fun c7 => rn_iconst (np := 39) (v := 0) F dX2_isTied_38 rfl rfl <| rn_zret F Rr dX2_isTied_39 rfl ?_) (fun c7 => rn_iload_n (np := 11) F dX2_isTied_10 rfl rfl <| rn_iload_n (np := 12) F dX2_isTied_11 rfl rfl <| rn_Neq (tg := 32) (np := 15) F dX2_isTied_12 rfl rfl rfl rfl (by omega) (fun c12 => rn_iincN (np := 35) F dX2_isTied_32 rfl rfl hL rfl <| rn_goto (np := 2) F dX2_isTied_35 rfl <| ?_) (fun c12 => rn_aload_n (np := 16) F dX2_isTied_15 rfl rfl <| rn_getr (np := 19) F dX2_isTied_16 rfl fF_X2_24 (fs hF rfl rfl) rfl <| rn_iload_n (np := 20) F dX2_isTied_19 rfl rfl <| rn_ialdN (np := 21) F dX2_isTied_20 rfl (fs hF rfl rfl) rfl (by omega) <| rn_aload_n (np := 22) F dX2_isTied_21 rfl rfl <| rn_getr (np := 25) F dX2_isTied_22 rfl fF_X2_24 (fs hF rfl rfl) rfl <| rn_iload_n (np := 26) F dX2_isTied_25 rfl rfl <| rn_ialdN (np := 27) F dX2_isTied_26 rfl (fs hF rfl rfl) rfl (by omega) <| rn_icmp_ne (tg := 32) (np := 30) F dX2_isTied_27 rfl rfl (fun c27 => rn_iincN (np := 35) F dX2_isTied_32 rfl rfl hL rfl <| rn_goto (np := 2) F dX2_isTied_35 rfl <| ?_) (fun c27 => rn_iconst (np := 31) (v := 1) F dX2_isTied_30 rfl rfl <| rn_zret F Rr dX2_isTied_31 rfl ?_)))
    · rw [show o = n by omega] at hj; exact h0 hj
    · exact ih (o + 1) (by omega) (by omega) (lt_s hj (fun q => q.1 c12))
    · exact ih (o + 1) (by omega) (by omega) (lt_s hj (fun q => c27 q.2))
    · exact h1 (fun q => q o (by omega) ⟨c12, c27⟩)
set_option maxRecDepth 20000 in
theorem c_X2_isTied {G : GxT} (hF : Full G) {h : HpT} {n i : Nat} (hn : n ≤ 9) (hi : i < n) (eh : h 1 9 = nI n) : mci G yX2_isTied cX2_isTied 3 (some .boolean) 0 [.ref (gad G 1), .int (nI i)] h (bP (¬ ∀ j, j < n → ¬ (j ≠ i ∧ h 6 j = h 6 i))) (h) := by
  refine mc_of (by decide) (Nat.le_of_ble_eq_true rfl) (fun X hG F Rr hL => ?_)
  subst hG
  have F : FxT X cX2_isTied RX2 0 := F
  show rn X 0 [(0, .ref (gad X.1 1)), (1, .int (nI i))] [] h
  refine rn_iconst (np := 1) (v := 0) F dX2_isTied_0 rfl rfl <| rn_istore_n (np := 2) F dX2_isTied_1 rfl hL rfl <| ?_
  exact l_X2_isTied hF F Rr hL hn hi eh (fun q => ⟨by rw [bP_t q], rfl⟩) (fun q => ⟨by rw [bP_f (fun z => z q)], rfl⟩) (n + 1) 0 (by omega) (by omega) lt_0
set_option maxRecDepth 20000 in
theorem l_X2_hourOfGreatestNeutral {X : XxT} {post : Option Value → HpT → Prop} (hF : Full X.1) (F : FxT X cX2_hourOfGreatestNeutral RX2 2) (Rr : RxT X (some .int) post) (hL : X.2.2.2.2.2.2.2.2.2.2.2.2.2.1 = 3) {h : HpT} (hp : post (some (.int (nI (hgF (ntC h) 5)))) h) : ∀ (k : Nat) (t : Nat), 5 - t < k → t ≤ 5 → rn X 4 [(0, .ref (gad X.1 1)), (1, .int (nI (hgF (ntC h) t))), (2, .int (nI (t + 1)))] [] h := by
  intro k
  induction k with
  | zero => intro t hk; exact absurd hk (Nat.not_lt_zero _)
  | succ k ih =>
    intro t hk ht
    refine rn_iload_n (np := 5) F dX2_hourOfGreatestNeutral_4 rfl rfl <| rn_bipush (np := 7) (v := 6) F dX2_hourOfGreatestNeutral_5 rfl rfl <| rn_Nge (tg := 31) (np := 10) (b := 6) F dX2_hourOfGreatestNeutral_7 rfl rfl rfl rfl (by omega) (fun c7 => rn_iload_n (np := 32) F dX2_hourOfGreatestNeutral_31 rfl rfl <| rn_iret F Rr dX2_hourOfGreatestNeutral_32 ?_) (fun c7 => rn_aload_n (np := 11) F dX2_hourOfGreatestNeutral_10 rfl rfl <| rn_iload_n (np := 12) F dX2_hourOfGreatestNeutral_11 rfl rfl <| rn_cV1i (np := 15) F dX2_hourOfGreatestNeutral_12 rfl cv_X2_neutralOf wM_X2_93 (fs hF rfl rfl) rfl (c_X2_neutralOf hF (by omega)) (Nat.le_of_ble_eq_true rfl) (Nat.le_of_ble_eq_true rfl) <| rn_aload_n (np := 16) F dX2_hourOfGreatestNeutral_15 rfl rfl <| rn_iload_n (np := 17) F dX2_hourOfGreatestNeutral_16 rfl rfl <| rn_cV1i (np := 20) F dX2_hourOfGreatestNeutral_17 rfl cv_X2_neutralOf wM_X2_93 (fs hF rfl rfl) rfl (c_X2_neutralOf hF (by have := hgF_le (ntC h) t; omega)) (Nat.le_of_ble_eq_true rfl) (Nat.le_of_ble_eq_true rfl) <| rn_icmp_le (tg := 25) (np := 23) F dX2_hourOfGreatestNeutral_20 rfl rfl (fun c20 => rn_iincN (np := 28) F dX2_hourOfGreatestNeutral_25 rfl rfl hL rfl <| rn_goto (np := 4) F dX2_hourOfGreatestNeutral_28 rfl <| ?_) (fun c20 => rn_iload_n (np := 24) F dX2_hourOfGreatestNeutral_23 rfl rfl <| rn_istore_n (np := 25) F dX2_hourOfGreatestNeutral_24 rfl hL rfl <| rn_iincN (np := 28) F dX2_hourOfGreatestNeutral_25 rfl rfl hL rfl <| rn_goto (np := 4) F dX2_hourOfGreatestNeutral_28 rfl <| ?_))
    · rw [show t = 5 by omega]; exact hp
    · have e : hgF (ntC h) (t + 1) = hgF (ntC h) t := by rw [hgF, if_neg (fun q => Int32.not_lt.mpr c20 q)]
      exact e ▸ ih (t + 1) (by omega) (by omega)
    · have e : hgF (ntC h) (t + 1) = t + 1 := by rw [hgF, if_pos (Int32.not_le.mp c20)]
      have z := ih (t + 1) (by omega) (by omega)
      rw [e] at z
      exact z
set_option maxRecDepth 20000 in
theorem c_X2_hourOfGreatestNeutral {G : GxT} (hF : Full G) {h : HpT}   : mci G yX2_hourOfGreatestNeutral cX2_hourOfGreatestNeutral 3 (some .int) 2 [.ref (gad G 1)] h (nI (hgF (ntC h) 5)) (h) := by
  refine mc_of (by decide) (Nat.le_of_ble_eq_true rfl) (fun X hG F Rr hL => ?_)
  subst hG
  have F : FxT X cX2_hourOfGreatestNeutral RX2 2 := F
  show rn X 0 [(0, .ref (gad X.1 1))] [] h
  refine rn_iconst (np := 1) (v := 0) F dX2_hourOfGreatestNeutral_0 rfl rfl <| rn_istore_n (np := 2) F dX2_hourOfGreatestNeutral_1 rfl hL rfl <| rn_iconst (np := 3) (v := 1) F dX2_hourOfGreatestNeutral_2 rfl rfl <| rn_istore_n (np := 4) F dX2_hourOfGreatestNeutral_3 rfl hL rfl <| ?_
  exact l_X2_hourOfGreatestNeutral hF F Rr hL ⟨rfl, rfl⟩ 6 0 (by omega) (by omega)
