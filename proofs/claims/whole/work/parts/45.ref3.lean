set_option maxRecDepth 20000 in
theorem l_X5_isSafe {X : XxT} {post : Option Value → HpT → Prop} (hF : Full X.1) (F : FxT X cX5_isSafe RX5 1) (Rr : RxT X (some .boolean) post) (hL : X.2.2.2.2.2.2.2.2.2.2.2.2.2.1 = 3) {h : HpT} (hp : post (some (.int (bP (sfR h)))) h) : ∀ (k : Nat) (i : Nat), 18 - i < k → i ≤ 18 → rn X 4 [(0, .ref (gad X.1 23)), (1, .int (bP (∀ j, j < i → -(h 23 6) ≤ h 33 j ∧ h 33 j ≤ h 23 6))), (2, .int (nI i))] [] h := by
  intro k
  induction k with
  | zero => intro i hk; exact absurd hk (Nat.not_lt_zero _)
  | succ k ih =>
    intro i hk hi
    refine rn_iload_n (np := 5) F dX5_isSafe_4 rfl rfl <| rn_bipush (np := 7) (v := 18) F dX5_isSafe_5 rfl rfl <| rn_Nge (tg := 47) (np := 10) (b := 18) F dX5_isSafe_7 rfl rfl rfl rfl (by omega) (fun c7 => rn_iload_n (np := 48) F dX5_isSafe_47 rfl rfl <| rn_zret F Rr dX5_isSafe_48 ?_ ?_) (fun c7 => rn_iload_n (np := 11) F dX5_isSafe_10 rfl rfl <| rn_if_eq (tg := 39) (np := 14) F dX5_isSafe_11 rfl rfl (fun c11 => rn_iconst (np := 40) (v := 0) F dX5_isSafe_39 rfl rfl <| rn_istore_n (np := 41) F dX5_isSafe_40 rfl hL rfl <| rn_iincN (np := 44) F dX5_isSafe_41 rfl rfl hL rfl <| rn_goto (np := 4) F dX5_isSafe_44 rfl <| ?_) (fun c11 => rn_aload_n (np := 15) F dX5_isSafe_14 rfl rfl <| rn_getr (np := 18) F dX5_isSafe_15 rfl fF_X5_41 (fs hF rfl rfl) rfl <| rn_iload_n (np := 19) F dX5_isSafe_18 rfl rfl <| rn_ialdN (np := 20) F dX5_isSafe_19 rfl (fs hF rfl rfl) rfl (by omega) <| rn_aload_n (np := 21) F dX5_isSafe_20 rfl rfl <| rn_getf (np := 24) F dX5_isSafe_21 rfl fF_X5_25 (fs hF rfl rfl) rfl <| rn_ineg (np := 25) F dX5_isSafe_24 rfl <| rn_aload_n (np := 26) F dX5_isSafe_25 rfl rfl <| rn_getf (np := 29) F dX5_isSafe_26 rfl fF_X5_25 (fs hF rfl rfl) rfl <| rn_cS3i (np := 32) F dX5_isSafe_29 rfl cs_X5_in wM_X5_59 (c_X5_in) (Nat.le_of_ble_eq_true rfl) (Nat.le_of_ble_eq_true rfl) <| rn_if_eq (tg := 39) (np := 35) F dX5_isSafe_32 rfl rfl (fun c32 => rn_iconst (np := 40) (v := 0) F dX5_isSafe_39 rfl rfl <| rn_istore_n (np := 41) F dX5_isSafe_40 rfl hL rfl <| rn_iincN (np := 44) F dX5_isSafe_41 rfl rfl hL rfl <| rn_goto (np := 4) F dX5_isSafe_44 rfl <| ?_) (fun c32 => rn_iconst (np := 36) (v := 1) F dX5_isSafe_35 rfl rfl <| rn_goto (np := 40) F dX5_isSafe_36 rfl <| rn_istore_n (np := 41) F dX5_isSafe_40 rfl hL rfl <| rn_iincN (np := 44) F dX5_isSafe_41 rfl rfl hL rfl <| rn_goto (np := 4) F dX5_isSafe_44 rfl <| ?_)))
    · exact bP_nar
    · rw [show i = 18 by omega]; exact hp
    · have z := ih (i + 1) (by omega) (by omega)
      rw [bP_iff allS, bP_f (fun q => bP_0 c11 q.1)] at z
      exact z
    · have z := ih (i + 1) (by omega) (by omega)
      rw [bP_iff allS, bP_f (fun q => bI_0 c32 q.2)] at z
      exact z
    · have z := ih (i + 1) (by omega) (by omega)
      rw [bP_iff allS, bP_t ⟨bP_1 c11, bI_1 c32⟩] at z
      exact z
set_option maxRecDepth 20000 in
theorem c_X5_isSafe {G : GxT} (hF : Full G) {h : HpT}   : mci G yX5_isSafe cX5_isSafe 3 (some .boolean) 1 [.ref (gad G 23)] h (bP (sfR h)) (h) := by
  refine mc_of (by decide) (Nat.le_of_ble_eq_true rfl) (fun X hG F Rr hL => ?_)
  subst hG
  have F : FxT X cX5_isSafe RX5 1 := F
  show rn X 0 [(0, .ref (gad X.1 23))] [] h
  refine rn_iconst (np := 1) (v := 1) F dX5_isSafe_0 rfl rfl <| rn_istore_n (np := 2) F dX5_isSafe_1 rfl hL rfl <| rn_iconst (np := 3) (v := 0) F dX5_isSafe_2 rfl rfl <| rn_istore_n (np := 4) F dX5_isSafe_3 rfl hL rfl <| ?_
  have z := l_X5_isSafe hF F Rr hL ⟨rfl, rfl⟩ 19 0 (by omega) (by omega)
  rw [bP_t lt_0] at z
  exact z
set_option maxRecDepth 20000 in
theorem l_X5_isKept {X : XxT} {post : Option Value → HpT → Prop} (hF : Full X.1) (F : FxT X cX5_isKept RX5 0) (Rr : RxT X (some .boolean) post) (hL : X.2.2.2.2.2.2.2.2.2.2.2.2.2.1 = 3) {h : HpT} {q : Nat} {tx ty : Nat → Nat} (hT : TI2 q tx ty h) (hp : post (some (.int (bP (kpR h q tx ty)))) h) : ∀ (k : Nat) (i : Nat), q - i < k → i ≤ q → rn X 4 [(0, .ref (gad X.1 23)), (1, .int (bP (kpR h i tx ty))), (2, .int (nI i))] [] h := by
  intro k
  induction k with
  | zero => intro i hk; exact absurd hk (Nat.not_lt_zero _)
  | succ k ih =>
    intro i hk hi
    have hq := hT.1
    refine rn_iload_n (np := 5) F dX5_isKept_4 rfl rfl <| rn_aload_n (np := 6) F dX5_isKept_5 rfl rfl <| rn_getfE (np := 9) F dX5_isKept_6 rfl fF_X5_77 (fs hF rfl rfl) rfl hT.2.1 <| rn_Nge (tg := 59) (np := 12) F dX5_isKept_9 rfl rfl rfl rfl (by omega) (fun c9 => rn_iload_n (np := 60) F dX5_isKept_59 rfl rfl <| rn_zret F Rr dX5_isKept_60 ?_ ?_) (fun c9 => rn_iload_n (np := 13) F dX5_isKept_12 rfl rfl <| rn_if_eq (tg := 51) (np := 16) F dX5_isKept_13 rfl rfl (fun c13 => rn_iconst (np := 52) (v := 0) F dX5_isKept_51 rfl rfl <| rn_istore_n (np := 53) F dX5_isKept_52 rfl hL rfl <| rn_iincN (np := 56) F dX5_isKept_53 rfl rfl hL rfl <| rn_goto (np := 4) F dX5_isKept_56 rfl <| ?_) (fun c13 => ?_))
    · exact bP_nar
    · rw [show i = q by omega]; exact hp
    · have z := ih (i + 1) (by omega) (by omega)
      unfold kpR at z
      rw [bP_iff allS, bP_f (fun q => bP_0 c13 q.1)] at z
      exact z
    · obtain ⟨h1, h2, h3, h4⟩ := hT.2.2 i (by omega)
      refine rn_aload_n (np := 17) F dX5_isKept_16 rfl rfl <| rn_getr (np := 20) F dX5_isKept_17 rfl fF_X5_44 (fs hF rfl rfl) rfl <| rn_aload_n (np := 21) F dX5_isKept_20 rfl rfl <| rn_getr (np := 24) F dX5_isKept_21 rfl fF_X5_29 (fs hF rfl rfl) rfl <| rn_iconst (np := 25) (v := 2) F dX5_isKept_24 rfl rfl <| rn_iload_n (np := 26) F dX5_isKept_25 rfl rfl <| rn_imul (np := 27) F dX5_isKept_26 rfl <| rn_ialdE (np := 28) F dX5_isKept_27 rfl (fs hF rfl rfl) (ix2 i) (by omega) h3 <| rn_ialdN (np := 29) F dX5_isKept_28 rfl (fs hF rfl rfl) rfl (by omega) <| rn_aload_n (np := 30) F dX5_isKept_29 rfl rfl <| rn_getr (np := 33) F dX5_isKept_30 rfl fF_X5_44 (fs hF rfl rfl) rfl <| rn_aload_n (np := 34) F dX5_isKept_33 rfl rfl <| rn_getr (np := 37) F dX5_isKept_34 rfl fF_X5_29 (fs hF rfl rfl) rfl <| rn_iconst (np := 38) (v := 2) F dX5_isKept_37 rfl rfl <| rn_iload_n (np := 39) F dX5_isKept_38 rfl rfl <| rn_imul (np := 40) F dX5_isKept_39 rfl <| rn_iconst (np := 41) (v := 1) F dX5_isKept_40 rfl rfl <| rn_iadd (np := 42) F dX5_isKept_41 rfl <| rn_ialdE (np := 43) F dX5_isKept_42 rfl (fs hF rfl rfl) (ix21 i) (by omega) h4 <| rn_ialdN (np := 44) F dX5_isKept_43 rfl (fs hF rfl rfl) rfl (by omega) <| rn_icmp_ne (tg := 51) (np := 47) F dX5_isKept_44 rfl rfl (fun c44 => rn_iconst (np := 52) (v := 0) F dX5_isKept_51 rfl rfl <| rn_istore_n (np := 53) F dX5_isKept_52 rfl hL rfl <| rn_iincN (np := 56) F dX5_isKept_53 rfl rfl hL rfl <| rn_goto (np := 4) F dX5_isKept_56 rfl <| ?_) (fun c44 => rn_iconst (np := 48) (v := 1) F dX5_isKept_47 rfl rfl <| rn_goto (np := 52) F dX5_isKept_48 rfl <| rn_istore_n (np := 53) F dX5_isKept_52 rfl hL rfl <| rn_iincN (np := 56) F dX5_isKept_53 rfl rfl hL rfl <| rn_goto (np := 4) F dX5_isKept_56 rfl <| ?_)
      · have z := ih (i + 1) (by omega) (by omega)
        unfold kpR at z
        rw [bP_iff allS, bP_f (fun q => c44 q.2)] at z
        exact z
      · have z := ih (i + 1) (by omega) (by omega)
        unfold kpR at z
        rw [bP_iff allS, bP_t ⟨bP_1 c13, c44⟩] at z
        exact z
set_option maxRecDepth 20000 in
theorem c_X5_isKept {G : GxT} (hF : Full G) {h : HpT} {q : Nat} {tx ty : Nat → Nat} (hT : TI2 q tx ty h) : mci G yX5_isKept cX5_isKept 3 (some .boolean) 0 [.ref (gad G 23)] h (bP (kpR h q tx ty)) (h) := by
  refine mc_of (by decide) (Nat.le_of_ble_eq_true rfl) (fun X hG F Rr hL => ?_)
  subst hG
  have F : FxT X cX5_isKept RX5 0 := F
  show rn X 0 [(0, .ref (gad X.1 23))] [] h
  refine rn_iconst (np := 1) (v := 1) F dX5_isKept_0 rfl rfl <| rn_istore_n (np := 2) F dX5_isKept_1 rfl hL rfl <| rn_iconst (np := 3) (v := 0) F dX5_isKept_2 rfl rfl <| rn_istore_n (np := 4) F dX5_isKept_3 rfl hL rfl <| ?_
  have z := l_X5_isKept hF F Rr hL hT ⟨rfl, rfl⟩ (q + 1) 0 (by omega) (by omega)
  rw [bP_t (show kpR h 0 tx ty from fun k hk => absurd hk (Nat.not_lt_zero k))] at z
  exact z
set_option maxRecDepth 20000 in
theorem l_X5_isTied {X : XxT} {post : Option Value → HpT → Prop} (hF : Full X.1) (F : FxT X cX5_isTied RX5 0) (Rr : RxT X (some .boolean) post) (hL : X.2.2.2.2.2.2.2.2.2.2.2.2.2.1 = 4) {h : HpT} {q i : Nat} (hq : q ≤ 6) (eq : h 23 8 = nI q) (hp : post (some (.int (bP (tdR h q i)))) h) : ∀ (k : Nat) (j : Nat), 2 * q - j < k → j ≤ 2 * q → rn X 4 [(0, .ref (gad X.1 23)), (1, .int (nI i)), (2, .int (bP (∃ k, k < j ∧ h 29 k = nI i))), (3, .int (nI j))] [] h := by
  intro k
  induction k with
  | zero => intro j hk; exact absurd hk (Nat.not_lt_zero _)
  | succ k ih =>
    intro j hk hj
    refine rn_iload_n (np := 5) F dX5_isTied_4 rfl rfl <| rn_iconst (np := 6) (v := 2) F dX5_isTied_5 rfl rfl <| rn_aload_n (np := 7) F dX5_isTied_6 rfl rfl <| rn_getfE (np := 10) F dX5_isTied_7 rfl fF_X5_77 (fs hF rfl rfl) rfl eq <| rn_imul (np := 11) F dX5_isTied_10 rfl <| rn_topE (ix2 q) <| rn_Nge (tg := 40) (np := 14) F dX5_isTied_11 rfl rfl rfl rfl (by omega) (fun c11 => rn_iload_n (np := 41) F dX5_isTied_40 rfl rfl <| rn_zret F Rr dX5_isTied_41 ?_ ?_) (fun c11 => rn_iload_n (np := 15) F dX5_isTied_14 rfl rfl <| rn_if_ne (tg := 28) (np := 18) F dX5_isTied_15 rfl rfl (fun c15 => rn_iconst (np := 29) (v := 1) F dX5_isTied_28 rfl rfl <| rn_goto (np := 33) F dX5_isTied_29 rfl <| rn_istore_n (np := 34) F dX5_isTied_33 rfl hL rfl <| rn_iincN (np := 37) F dX5_isTied_34 rfl rfl hL rfl <| rn_goto (np := 4) F dX5_isTied_37 rfl <| ?_) (fun c15 => rn_aload_n (np := 19) F dX5_isTied_18 rfl rfl <| rn_getr (np := 22) F dX5_isTied_19 rfl fF_X5_29 (fs hF rfl rfl) rfl <| rn_iload_n (np := 23) F dX5_isTied_22 rfl rfl <| rn_ialdN (np := 24) F dX5_isTied_23 rfl (fs hF rfl rfl) rfl (by omega) <| rn_iload_n (np := 25) F dX5_isTied_24 rfl rfl <| rn_icmp_ne (tg := 32) (np := 28) F dX5_isTied_25 rfl rfl (fun c25 => rn_iconst (np := 33) (v := 0) F dX5_isTied_32 rfl rfl <| rn_istore_n (np := 34) F dX5_isTied_33 rfl hL rfl <| rn_iincN (np := 37) F dX5_isTied_34 rfl rfl hL rfl <| rn_goto (np := 4) F dX5_isTied_37 rfl <| ?_) (fun c25 => rn_iconst (np := 29) (v := 1) F dX5_isTied_28 rfl rfl <| rn_goto (np := 33) F dX5_isTied_29 rfl <| rn_istore_n (np := 34) F dX5_isTied_33 rfl hL rfl <| rn_iincN (np := 37) F dX5_isTied_34 rfl rfl hL rfl <| rn_goto (np := 4) F dX5_isTied_37 rfl <| ?_)))
    · exact bP_nar
    · rw [show j = 2 * q by omega]; exact hp
    · have z := ih (j + 1) (by omega) (by omega)
      rw [bP_iff exS, bP_t (Or.inl (bP_1 c15))] at z
      exact z
    · have z := ih (j + 1) (by omega) (by omega)
      rw [bP_iff exS, bP_f (fun q => q.elim (bP_0 c15) c25)] at z
      exact z
    · have z := ih (j + 1) (by omega) (by omega)
      rw [bP_iff exS, bP_t (Or.inr c25)] at z
      exact z
set_option maxRecDepth 20000 in
theorem c_X5_isTied {G : GxT} (hF : Full G) {h : HpT} {q i : Nat} (hq : q ≤ 6) (eq : h 23 8 = nI q) : mci G yX5_isTied cX5_isTied 4 (some .boolean) 0 [.ref (gad G 23), .int (nI i)] h (bP (tdR h q i)) (h) := by
  refine mc_of (by decide) (Nat.le_of_ble_eq_true rfl) (fun X hG F Rr hL => ?_)
  subst hG
  have F : FxT X cX5_isTied RX5 0 := F
  show rn X 0 [(0, .ref (gad X.1 23)), (1, .int (nI i))] [] h
  refine rn_iconst (np := 1) (v := 0) F dX5_isTied_0 rfl rfl <| rn_istore_n (np := 2) F dX5_isTied_1 rfl hL rfl <| rn_iconst (np := 3) (v := 0) F dX5_isTied_2 rfl rfl <| rn_istore_n (np := 4) F dX5_isTied_3 rfl hL rfl <| ?_
  have z := l_X5_isTied (i := i) hF F Rr hL hq eq ⟨rfl, rfl⟩ (2 * q + 1) 0 (by omega) (by omega)
  rw [bP_f (fun ⟨k, hk, _⟩ => Nat.not_lt_zero k hk)] at z
  exact z
set_option maxRecDepth 20000 in
theorem c_X5_isFree {G : GxT} (hF : Full G) {h : HpT} {q i : Nat} (hq : q ≤ 6) (eq : h 23 8 = nI q) (hi : i < 9) : mci G yX5_isFree cX5_isFree 2 (some .boolean) 1 [.ref (gad G 23), .int (nI i)] h (bP (h 27 i = 0 ∧ ¬ tdR h q i)) (h) := by
  refine mc_of (by decide) (Nat.le_of_ble_eq_true rfl) (fun X hG F Rr hL => ?_)
  subst hG
  have F : FxT X cX5_isFree RX5 1 := F
  show rn X 0 [(0, .ref (gad X.1 23)), (1, .int (nI i))] [] h
  refine rn_aload_n (np := 1) F dX5_isFree_0 rfl rfl <| rn_getr (np := 4) F dX5_isFree_1 rfl fF_X5_19 (fs hF rfl rfl) rfl <| rn_iload_n (np := 5) F dX5_isFree_4 rfl rfl <| rn_ialdN (np := 6) F dX5_isFree_5 rfl (fs hF rfl rfl) rfl (by omega) <| rn_if_ne (tg := 21) (np := 9) F dX5_isFree_6 rfl rfl (fun c6 => rn_iconst (np := 22) (v := 0) F dX5_isFree_21 rfl rfl <| rn_zret F Rr dX5_isFree_22 rfl ?_) (fun c6 => rn_aload_n (np := 10) F dX5_isFree_9 rfl rfl <| rn_iload_n (np := 11) F dX5_isFree_10 rfl rfl <| rn_cV1i (np := 14) F dX5_isFree_11 rfl cv_X5_isTied wM_X5_142 (fs hF rfl rfl) rfl (c_X5_isTied (q := q) hF hq eq) (Nat.le_of_ble_eq_true rfl) (Nat.le_of_ble_eq_true rfl) <| rn_if_ne (tg := 21) (np := 17) F dX5_isFree_14 rfl rfl (fun c14 => rn_iconst (np := 22) (v := 0) F dX5_isFree_21 rfl rfl <| rn_zret F Rr dX5_isFree_22 rfl ?_) (fun c14 => rn_iconst (np := 18) (v := 1) F dX5_isFree_17 rfl rfl <| rn_goto (np := 22) F dX5_isFree_18 rfl <| rn_zret F Rr dX5_isFree_22 rfl ?_))
  · exact ⟨by rw [bP_f (fun z => c6 z.1)], rfl⟩
  · exact ⟨by rw [bP_f (fun z => z.2 (bP_1 c14))], rfl⟩
  · exact ⟨by rw [bP_t ⟨c6, bP_0 c14⟩], rfl⟩
set_option maxRecDepth 20000 in
theorem b_X5_load {G : GxT} (hF : Full G) {h : HpT} {n : Nat} {v t : Int32} (hS : RI n h) (hv : ¬ ((0 ≤ v ∧ v ≤ 2) ∧ 0 ≤ t ∧ t ≤ 5)) : mci G yX5_load cX5_load 3 (some .int) 3 [.ref (gad G 23), .int v, .int t] h (-2) (hs (asH h n) 31 0 (h 31 0 + 1)) := by
  refine mc_of (by decide) (Nat.le_of_ble_eq_true rfl) (fun X hG F Rr hL => ?_)
  subst hG
  have F : FxT X cX5_load RX5 3 := F
  show rn X 0 [(0, .ref (gad X.1 23)), (1, .int v), (2, .int t)] [] h
  refine rn_aload_n (np := 1) F dX5_load_0 rfl rfl <| rn_cV0v (np := 4) F dX5_load_1 rfl cv_X5_asIs wM_X5_115 (fs hF rfl rfl) rfl (c_X5_asIs (n := n) hF hS) (Nat.le_of_ble_eq_true rfl) (Nat.le_of_ble_eq_true rfl) <| rn_iload_n (np := 5) F dX5_load_4 rfl rfl <| rn_iconst (np := 6) (v := 0) F dX5_load_5 rfl rfl <| rn_iconst (np := 7) (v := 2) F dX5_load_6 rfl rfl <| rn_cS3i (np := 10) F dX5_load_7 rfl cs_X5_in wM_X5_59 (c_X5_in) (Nat.le_of_ble_eq_true rfl) (Nat.le_of_ble_eq_true rfl) <| rn_if_eq (tg := 33) (np := 13) F dX5_load_10 rfl rfl (fun c10 => rn_aload_n (np := 34) F dX5_load_33 rfl rfl <| rn_bipush (np := 36) (v := (-2)) F dX5_load_34 rfl rfl <| rn_cV1i (np := 39) F dX5_load_36 rfl cv_X5_refuses wM_X5_63 (fs hF rfl rfl) rfl (c_X5_refuses (k := 0) hF rfl (by decide)) (Nat.le_of_ble_eq_true rfl) (Nat.le_of_ble_eq_true rfl) <| rn_iret F Rr dX5_load_39 ?_) (fun c10 => rn_iload_n (np := 14) F dX5_load_13 rfl rfl <| rn_cS1i (np := 17) F dX5_load_14 rfl cs_X5_isHour wM_X5_74 (c_X5_isHour) (Nat.le_of_ble_eq_true rfl) (Nat.le_of_ble_eq_true rfl) <| rn_if_eq (tg := 33) (np := 20) F dX5_load_17 rfl rfl (fun c17 => rn_aload_n (np := 34) F dX5_load_33 rfl rfl <| rn_bipush (np := 36) (v := (-2)) F dX5_load_34 rfl rfl <| rn_cV1i (np := 39) F dX5_load_36 rfl cv_X5_refuses wM_X5_63 (fs hF rfl rfl) rfl (c_X5_refuses (k := 0) hF rfl (by decide)) (Nat.le_of_ble_eq_true rfl) (Nat.le_of_ble_eq_true rfl) <| rn_iret F Rr dX5_load_39 ?_) (fun c17 => ?_))
  all_goals first | exact ⟨rfl, rfl⟩ | exact absurd ⟨bI_1 c10, bI_1 c17⟩ hv
set_option maxRecDepth 20000 in
theorem o_X5_load {G : GxT} (hF : Full G) {h : HpT} {n p t : Nat} (hS : RI n h) (hp : p < 3) (ht : t < 6) : mci G yX5_load cX5_load 3 (some .int) 3 [.ref (gad G 23), .int (nI p), .int (nI t)] h (asH h n 33 (3 * t + p)) (asH h n) := by
  refine mc_of (by decide) (Nat.le_of_ble_eq_true rfl) (fun X hG F Rr hL => ?_)
  subst hG
  have F : FxT X cX5_load RX5 3 := F
  show rn X 0 [(0, .ref (gad X.1 23)), (1, .int (nI p)), (2, .int (nI t))] [] h
  refine rn_aload_n (np := 1) F dX5_load_0 rfl rfl <| rn_cV0v (np := 4) F dX5_load_1 rfl cv_X5_asIs wM_X5_115 (fs hF rfl rfl) rfl (c_X5_asIs (n := n) hF hS) (Nat.le_of_ble_eq_true rfl) (Nat.le_of_ble_eq_true rfl) <| rn_iload_n (np := 5) F dX5_load_4 rfl rfl <| rn_iconst (np := 6) (v := 0) F dX5_load_5 rfl rfl <| rn_iconst (np := 7) (v := 2) F dX5_load_6 rfl rfl <| rn_cS3i (np := 10) F dX5_load_7 rfl cs_X5_in wM_X5_59 (c_X5_in) (Nat.le_of_ble_eq_true rfl) (Nat.le_of_ble_eq_true rfl) <| rn_if_eq (tg := 33) (np := 13) F dX5_load_10 rfl rfl (fun q => absurd q ((fun q => bI_0 q (rgI (m := 2) (by omega) (by decide))))) (fun _ => rn_iload_n (np := 14) F dX5_load_13 rfl rfl <| rn_cS1i (np := 17) F dX5_load_14 rfl cs_X5_isHour wM_X5_74 (c_X5_isHour) (Nat.le_of_ble_eq_true rfl) (Nat.le_of_ble_eq_true rfl) <| rn_if_eq (tg := 33) (np := 20) F dX5_load_17 rfl rfl (fun q => absurd q ((fun q => bI_0 q (rgI (m := 5) (by omega) (by decide))))) (fun _ => rn_aload_n (np := 21) F dX5_load_20 rfl rfl <| rn_getr (np := 24) F dX5_load_21 rfl fF_X5_41 (fs hF rfl rfl) rfl <| rn_iconst (np := 25) (v := 3) F dX5_load_24 rfl rfl <| rn_iload_n (np := 26) F dX5_load_25 rfl rfl <| rn_imul (np := 27) F dX5_load_26 rfl <| rn_iload_n (np := 28) F dX5_load_27 rfl rfl <| rn_iadd (np := 29) F dX5_load_28 rfl <| rn_ialdN (np := 30) F dX5_load_29 rfl (fs hF rfl rfl) (ix3r p t) (by omega) <| rn_goto (np := 39) F dX5_load_30 rfl <| rn_iret F Rr dX5_load_39 ?_))
  all_goals exact ⟨rfl, rfl⟩
set_option maxRecDepth 20000 in
theorem b_X5_neutral {G : GxT} (hF : Full G) {h : HpT} {n : Nat} {t : Int32} (hS : RI n h) (hv : ¬ (0 ≤ t ∧ t ≤ 5)) : mci G yX5_neutral cX5_neutral 2 (some .int) 3 [.ref (gad G 23), .int t] h (-2) (hs (asH h n) 31 0 (h 31 0 + 1)) := by
  refine mc_of (by decide) (Nat.le_of_ble_eq_true rfl) (fun X hG F Rr hL => ?_)
  subst hG
  have F : FxT X cX5_neutral RX5 3 := F
  show rn X 0 [(0, .ref (gad X.1 23)), (1, .int t)] [] h
  refine rn_aload_n (np := 1) F dX5_neutral_0 rfl rfl <| rn_cV0v (np := 4) F dX5_neutral_1 rfl cv_X5_asIs wM_X5_115 (fs hF rfl rfl) rfl (c_X5_asIs (n := n) hF hS) (Nat.le_of_ble_eq_true rfl) (Nat.le_of_ble_eq_true rfl) <| rn_iload_n (np := 5) F dX5_neutral_4 rfl rfl <| rn_cS1i (np := 8) F dX5_neutral_5 rfl cs_X5_isHour wM_X5_74 (c_X5_isHour) (Nat.le_of_ble_eq_true rfl) (Nat.le_of_ble_eq_true rfl) <| rn_if_eq (tg := 19) (np := 11) F dX5_neutral_8 rfl rfl (fun c8 => rn_aload_n (np := 20) F dX5_neutral_19 rfl rfl <| rn_bipush (np := 22) (v := (-2)) F dX5_neutral_20 rfl rfl <| rn_cV1i (np := 25) F dX5_neutral_22 rfl cv_X5_refuses wM_X5_63 (fs hF rfl rfl) rfl (c_X5_refuses (k := 0) hF rfl (by decide)) (Nat.le_of_ble_eq_true rfl) (Nat.le_of_ble_eq_true rfl) <| rn_iret F Rr dX5_neutral_25 ?_) (fun c8 => ?_)
  all_goals first | exact ⟨rfl, rfl⟩ | exact absurd (bI_1 c8) hv
set_option maxRecDepth 20000 in
theorem o_X5_neutral {G : GxT} (hF : Full G) {h : HpT} {n t : Nat} (hS : RI n h) (ht : t < 6) : mci G yX5_neutral cX5_neutral 2 (some .int) 3 [.ref (gad G 23), .int (nI t)] h (ntR (asH h n) t) (asH h n) := by
  refine mc_of (by decide) (Nat.le_of_ble_eq_true rfl) (fun X hG F Rr hL => ?_)
  subst hG
  have F : FxT X cX5_neutral RX5 3 := F
  show rn X 0 [(0, .ref (gad X.1 23)), (1, .int (nI t))] [] h
  refine rn_aload_n (np := 1) F dX5_neutral_0 rfl rfl <| rn_cV0v (np := 4) F dX5_neutral_1 rfl cv_X5_asIs wM_X5_115 (fs hF rfl rfl) rfl (c_X5_asIs (n := n) hF hS) (Nat.le_of_ble_eq_true rfl) (Nat.le_of_ble_eq_true rfl) <| rn_iload_n (np := 5) F dX5_neutral_4 rfl rfl <| rn_cS1i (np := 8) F dX5_neutral_5 rfl cs_X5_isHour wM_X5_74 (c_X5_isHour) (Nat.le_of_ble_eq_true rfl) (Nat.le_of_ble_eq_true rfl) <| rn_if_eq (tg := 19) (np := 11) F dX5_neutral_8 rfl rfl (fun q => absurd q ((fun q => bI_0 q (rgI (m := 5) (by omega) (by decide))))) (fun _ => rn_aload_n (np := 12) F dX5_neutral_11 rfl rfl <| rn_iload_n (np := 13) F dX5_neutral_12 rfl rfl <| rn_cV1i (np := 16) F dX5_neutral_13 rfl cv_X5_neutralNow wM_X5_112 (fs hF rfl rfl) rfl (c_X5_neutralNow hF (by omega)) (Nat.le_of_ble_eq_true rfl) (Nat.le_of_ble_eq_true rfl) <| rn_goto (np := 25) F dX5_neutral_16 rfl <| rn_iret F Rr dX5_neutral_25 ?_)
  all_goals exact ⟨rfl, rfl⟩
set_option maxRecDepth 20000 in
theorem c_X5_griefOf {G : GxT} (hF : Full G) {h : HpT} {n : Nat} (hS : RI n h) : mci G yX5_griefOf cX5_griefOf 1 (some .int) 3 [.ref (gad G 23)] h (grR (asH h n)) (asH h n) := by
  refine mc_of (by decide) (Nat.le_of_ble_eq_true rfl) (fun X hG F Rr hL => ?_)
  subst hG
  have F : FxT X cX5_griefOf RX5 3 := F
  show rn X 0 [(0, .ref (gad X.1 23))] [] h
  refine rn_aload_n (np := 1) F dX5_griefOf_0 rfl rfl <| rn_cV0v (np := 4) F dX5_griefOf_1 rfl cv_X5_asIs wM_X5_115 (fs hF rfl rfl) rfl (c_X5_asIs (n := n) hF hS) (Nat.le_of_ble_eq_true rfl) (Nat.le_of_ble_eq_true rfl) <| rn_aload_n (np := 5) F dX5_griefOf_4 rfl rfl <| rn_cV0i (np := 8) F dX5_griefOf_5 rfl cv_X5_griefNow wM_X5_118 (fs hF rfl rfl) rfl (c_X5_griefNow hF) (Nat.le_of_ble_eq_true rfl) (Nat.le_of_ble_eq_true rfl) <| rn_iret F Rr dX5_griefOf_8 ?_
  all_goals exact ⟨rfl, rfl⟩
set_option maxRecDepth 20000 in
theorem c_X5_grief {G : GxT} (hF : Full G) {h : HpT} {n : Nat} (hS : RI n h) : mci G yX5_grief cX5_grief 1 (some .int) 4 [.ref (gad G 23)] h (grR (asH h n)) (asH h n) := by
  refine mc_of (by decide) (Nat.le_of_ble_eq_true rfl) (fun X hG F Rr hL => ?_)
  subst hG
  have F : FxT X cX5_grief RX5 4 := F
  show rn X 0 [(0, .ref (gad X.1 23))] [] h
  refine rn_aload_n (np := 1) F dX5_grief_0 rfl rfl <| rn_cV0i (np := 4) F dX5_grief_1 rfl cv_X5_griefOf wM_X5_122 (fs hF rfl rfl) rfl (c_X5_griefOf (n := n) hF hS) (Nat.le_of_ble_eq_true rfl) (Nat.le_of_ble_eq_true rfl) <| rn_iret F Rr dX5_grief_4 ?_
  all_goals exact ⟨rfl, rfl⟩
set_option maxRecDepth 20000 in
theorem o0_X5_good {G : GxT} (hF : Full G) {h : HpT} {n : Nat} (hS : RI n h) : mci G yX5_good cX5_good 2 (some .int) 3 [.ref (gad G 23), .int 0] h (bP (sfR (asH h n))) (asH h n) := by
  refine mc_of (by decide) (Nat.le_of_ble_eq_true rfl) (fun X hG F Rr hL => ?_)
  subst hG
  have F : FxT X cX5_good RX5 3 := F
  show rn X 0 [(0, .ref (gad X.1 23)), (1, .int 0)] [] h
  refine rn_aload_n (np := 1) F dX5_good_0 rfl rfl <| rn_cV0v (np := 4) F dX5_good_1 rfl cv_X5_asIs wM_X5_115 (fs hF rfl rfl) rfl (c_X5_asIs (n := n) hF hS) (Nat.le_of_ble_eq_true rfl) (Nat.le_of_ble_eq_true rfl) <| rn_iload_n (np := 5) F dX5_good_4 rfl rfl <| rn_iconst (np := 6) (v := 0) F dX5_good_5 rfl rfl <| rn_iconst (np := 7) (v := 1) F dX5_good_6 rfl rfl <| rn_cS3i (np := 10) F dX5_good_7 rfl cs_X5_in wM_X5_59 (c_X5_in) (Nat.le_of_ble_eq_true rfl) (Nat.le_of_ble_eq_true rfl) <| rn_if_eq (tg := 42) (np := 13) F dX5_good_10 rfl rfl (fun q => absurd q ((fun q => bI_0 q (by decide)))) (fun _ => rn_iload_n (np := 14) F dX5_good_13 rfl rfl <| rn_if_ne (tg := 27) (np := 17) F dX5_good_14 rfl rfl (fun q => absurd q ((by decide))) (fun _ => rn_aload_n (np := 18) F dX5_good_17 rfl rfl <| rn_cV0i (np := 21) F dX5_good_18 rfl cv_X5_isSafe wM_X5_125 (fs hF rfl rfl) rfl (c_X5_isSafe hF) (Nat.le_of_ble_eq_true rfl) (Nat.le_of_ble_eq_true rfl) <| rn_if_eq (tg := 38) (np := 24) F dX5_good_21 rfl rfl (fun c21 => rn_iconst (np := 39) (v := 0) F dX5_good_38 rfl rfl <| rn_goto (np := 48) F dX5_good_39 rfl <| rn_iret F Rr dX5_good_48 ?_) (fun c21 => rn_goto (np := 34) F dX5_good_24 rfl <| rn_iconst (np := 35) (v := 1) F dX5_good_34 rfl rfl <| rn_goto (np := 48) F dX5_good_35 rfl <| rn_iret F Rr dX5_good_48 ?_)))
  · exact ⟨by rw [c21], rfl⟩
  · exact ⟨by rw [bP_t (bP_1 c21)], rfl⟩
set_option maxRecDepth 20000 in
theorem o1_X5_good {G : GxT} (hF : Full G) {h : HpT} {n q : Nat} {tx ty : Nat → Nat} (hS : RI n h) (hT : TI2 q tx ty h) : mci G yX5_good cX5_good 2 (some .int) 3 [.ref (gad G 23), .int 1] h (bP (kpR (asH h n) q tx ty)) (asH h n) := by
  refine mc_of (by decide) (Nat.le_of_ble_eq_true rfl) (fun X hG F Rr hL => ?_)
  subst hG
  have F : FxT X cX5_good RX5 3 := F
  show rn X 0 [(0, .ref (gad X.1 23)), (1, .int 1)] [] h
  refine rn_aload_n (np := 1) F dX5_good_0 rfl rfl <| rn_cV0v (np := 4) F dX5_good_1 rfl cv_X5_asIs wM_X5_115 (fs hF rfl rfl) rfl (c_X5_asIs (n := n) hF hS) (Nat.le_of_ble_eq_true rfl) (Nat.le_of_ble_eq_true rfl) <| rn_iload_n (np := 5) F dX5_good_4 rfl rfl <| rn_iconst (np := 6) (v := 0) F dX5_good_5 rfl rfl <| rn_iconst (np := 7) (v := 1) F dX5_good_6 rfl rfl <| rn_cS3i (np := 10) F dX5_good_7 rfl cs_X5_in wM_X5_59 (c_X5_in) (Nat.le_of_ble_eq_true rfl) (Nat.le_of_ble_eq_true rfl) <| rn_if_eq (tg := 42) (np := 13) F dX5_good_10 rfl rfl (fun q => absurd q ((fun q => bI_0 q (by decide)))) (fun _ => rn_iload_n (np := 14) F dX5_good_13 rfl rfl <| rn_if_ne (tg := 27) (np := 17) F dX5_good_14 rfl rfl (fun _ => rn_aload_n (np := 28) F dX5_good_27 rfl rfl <| rn_cV0i (np := 31) F dX5_good_28 rfl cv_X5_isKept wM_X5_129 (fs hF rfl rfl) rfl (c_X5_isKept (q := q) (tx := tx) (ty := ty) hF hT) (Nat.le_of_ble_eq_true rfl) (Nat.le_of_ble_eq_true rfl) <| rn_if_eq (tg := 38) (np := 34) F dX5_good_31 rfl rfl (fun c31 => rn_iconst (np := 39) (v := 0) F dX5_good_38 rfl rfl <| rn_goto (np := 48) F dX5_good_39 rfl <| rn_iret F Rr dX5_good_48 ?_) (fun c31 => rn_iconst (np := 35) (v := 1) F dX5_good_34 rfl rfl <| rn_goto (np := 48) F dX5_good_35 rfl <| rn_iret F Rr dX5_good_48 ?_)) (fun q => absurd q ((by decide))))
  · exact ⟨by rw [c31], rfl⟩
  · exact ⟨by rw [bP_t (bP_1 c31)], rfl⟩
set_option maxRecDepth 20000 in
theorem b_X5_good {G : GxT} (hF : Full G) {h : HpT} {n : Nat} {u : Int32} (hS : RI n h) (hu : ¬ (0 ≤ u ∧ u ≤ 1)) : mci G yX5_good cX5_good 2 (some .int) 3 [.ref (gad G 23), .int u] h (-2) (hs (asH h n) 31 0 (h 31 0 + 1)) := by
  refine mc_of (by decide) (Nat.le_of_ble_eq_true rfl) (fun X hG F Rr hL => ?_)
  subst hG
  have F : FxT X cX5_good RX5 3 := F
  show rn X 0 [(0, .ref (gad X.1 23)), (1, .int u)] [] h
  refine rn_aload_n (np := 1) F dX5_good_0 rfl rfl <| rn_cV0v (np := 4) F dX5_good_1 rfl cv_X5_asIs wM_X5_115 (fs hF rfl rfl) rfl (c_X5_asIs (n := n) hF hS) (Nat.le_of_ble_eq_true rfl) (Nat.le_of_ble_eq_true rfl) <| rn_iload_n (np := 5) F dX5_good_4 rfl rfl <| rn_iconst (np := 6) (v := 0) F dX5_good_5 rfl rfl <| rn_iconst (np := 7) (v := 1) F dX5_good_6 rfl rfl <| rn_cS3i (np := 10) F dX5_good_7 rfl cs_X5_in wM_X5_59 (c_X5_in) (Nat.le_of_ble_eq_true rfl) (Nat.le_of_ble_eq_true rfl) <| rn_if_eq (tg := 42) (np := 13) F dX5_good_10 rfl rfl (fun c10 => rn_aload_n (np := 43) F dX5_good_42 rfl rfl <| rn_bipush (np := 45) (v := (-2)) F dX5_good_43 rfl rfl <| rn_cV1i (np := 48) F dX5_good_45 rfl cv_X5_refuses wM_X5_63 (fs hF rfl rfl) rfl (c_X5_refuses (k := 0) hF rfl (by decide)) (Nat.le_of_ble_eq_true rfl) (Nat.le_of_ble_eq_true rfl) <| rn_iret F Rr dX5_good_48 ?_) (fun c10 => ?_)
  all_goals first | exact ⟨rfl, rfl⟩ | exact absurd (bI_1 c10) hu
set_option maxRecDepth 20000 in
theorem c_X5_size {G : GxT} {h : HpT} {v : Int32}  : mci G yX5_size cX5_size 1 (some .int) 0 [.int v] h (absI v) (h) := by
  refine mc_of (by decide) (Nat.le_of_ble_eq_true rfl) (fun X hG F Rr hL => ?_)
  subst hG
  have F : FxT X cX5_size RX5 0 := F
  show rn X 0 [(0, .int v)] [] h
  refine rn_iload_n (np := 1) F dX5_size_0 rfl rfl <| rn_if_ge (tg := 9) (np := 4) F dX5_size_1 rfl rfl (fun c1 => rn_iload_n (np := 10) F dX5_size_9 rfl rfl <| rn_iret F Rr dX5_size_10 ?_) (fun c1 => rn_iload_n (np := 5) F dX5_size_4 rfl rfl <| rn_ineg (np := 6) F dX5_size_5 rfl <| rn_goto (np := 10) F dX5_size_6 rfl <| rn_iret F Rr dX5_size_10 ?_)
  · exact rI (by rw [absI, if_pos c1]) rfl
  · exact rI (by rw [← ab_neg, if_neg c1]) rfl
set_option maxRecDepth 20000 in
theorem b_X5_worst {G : GxT} (hF : Full G) {h : HpT} {u : Int32} (hu : ¬ (0 ≤ u ∧ u ≤ 1)) : mci G yX5_worst cX5_worst 5 (some .int) 3 [.ref (gad G 23), .int u] h (-2) (hs h 31 0 (h 31 0 + 1)) := by
  refine mc_of (by decide) (Nat.le_of_ble_eq_true rfl) (fun X hG F Rr hL => ?_)
  subst hG
  have F : FxT X cX5_worst RX5 3 := F
  show rn X 0 [(0, .ref (gad X.1 23)), (1, .int u)] [] h
  refine rn_iload_n (np := 1) F dX5_worst_0 rfl rfl <| rn_iconst (np := 2) (v := 0) F dX5_worst_1 rfl rfl <| rn_iconst (np := 3) (v := 1) F dX5_worst_2 rfl rfl <| rn_cS3i (np := 6) F dX5_worst_3 rfl cs_X5_in wM_X5_59 (c_X5_in) (Nat.le_of_ble_eq_true rfl) (Nat.le_of_ble_eq_true rfl) <| rn_if_ne (tg := 16) (np := 9) F dX5_worst_6 rfl rfl (fun c6 => ?_) (fun c6 => rn_aload_n (np := 10) F dX5_worst_9 rfl rfl <| rn_bipush (np := 12) (v := (-2)) F dX5_worst_10 rfl rfl <| rn_cV1i (np := 15) F dX5_worst_12 rfl cv_X5_refuses wM_X5_63 (fs hF rfl rfl) rfl (c_X5_refuses (k := 0) hF rfl (by decide)) (Nat.le_of_ble_eq_true rfl) (Nat.le_of_ble_eq_true rfl) <| rn_iret F Rr dX5_worst_15 ?_)
  all_goals first | exact ⟨rfl, rfl⟩ | exact absurd (bI_1 c6) hu
set_option maxRecDepth 20000 in
theorem l20_X5_worst {X : XxT} {post : Option Value → HpT → Prop} (hF : Full X.1) (F : FxT X cX5_worst RX5 3) (Rr : RxT X (some .int) post) (hL : X.2.2.2.2.2.2.2.2.2.2.2.2.2.1 = 5) {h : HpT} (hp : post (some (.int (nI (hgF (ntR h) 5)))) h) : ∀ (k : Nat) (t : Nat), 17 - t < k → t ≤ 17 → rn X 64 [(0, .ref (gad X.1 23)), (1, .int 0), (2, .int (nI (hgF (ntR h) 5))), (3, .int (nI (plN (h 33) t))), (4, .int (nI (t + 1)))] [] h := by
  intro k
  induction k with
  | zero => intro t hk; exact absurd hk (Nat.not_lt_zero _)
  | succ k ih =>
    intro t hk ht
    have hle := plN_le (h 33) t
    refine rn_iload (np := 66) F dX5_worst_64 rfl rfl <| rn_bipush (np := 68) (v := 18) F dX5_worst_66 rfl rfl <| rn_Nge (tg := 106) (np := 71) (b := 18) F dX5_worst_68 rfl rfl rfl rfl (by omega) (fun c68 => rn_iload_n (np := 107) F dX5_worst_106 rfl rfl <| rn_if_ne (tg := 114) (np := 110) F dX5_worst_107 rfl rfl (fun q => absurd q ((by decide))) (fun _ => rn_iload_n (np := 111) F dX5_worst_110 rfl rfl <| rn_goto (np := 120) F dX5_worst_111 rfl <| rn_iret F Rr dX5_worst_120 ?_)) (fun c68 => rn_aload_n (np := 72) F dX5_worst_71 rfl rfl <| rn_getr (np := 75) F dX5_worst_72 rfl fF_X5_41 (fs hF rfl rfl) rfl <| rn_iload (np := 77) F dX5_worst_75 rfl rfl <| rn_ialdN (np := 78) F dX5_worst_77 rfl (fs hF rfl rfl) rfl (by omega) <| rn_cS1i (np := 81) F dX5_worst_78 rfl cs_X5_size wM_X5_132 (c_X5_size) (Nat.le_of_ble_eq_true rfl) (Nat.le_of_ble_eq_true rfl) <| rn_aload_n (np := 82) F dX5_worst_81 rfl rfl <| rn_getr (np := 85) F dX5_worst_82 rfl fF_X5_41 (fs hF rfl rfl) rfl <| rn_iload_n (np := 86) F dX5_worst_85 rfl rfl <| rn_ialdN (np := 87) F dX5_worst_86 rfl (fs hF rfl rfl) rfl (by omega) <| rn_cS1i (np := 90) F dX5_worst_87 rfl cs_X5_size wM_X5_132 (c_X5_size) (Nat.le_of_ble_eq_true rfl) (Nat.le_of_ble_eq_true rfl) <| rn_icmp_le (tg := 98) (np := 93) F dX5_worst_90 rfl rfl (fun c90 => rn_iload_n (np := 99) F dX5_worst_98 rfl rfl <| rn_istore_n (np := 100) F dX5_worst_99 rfl hL rfl <| rn_iincN (np := 103) F dX5_worst_100 rfl rfl hL rfl <| rn_goto (np := 64) F dX5_worst_103 rfl <| ?_) (fun c90 => rn_iload (np := 95) F dX5_worst_93 rfl rfl <| rn_goto (np := 99) F dX5_worst_95 rfl <| rn_istore_n (np := 100) F dX5_worst_99 rfl hL rfl <| rn_iincN (np := 103) F dX5_worst_100 rfl rfl hL rfl <| rn_goto (np := 64) F dX5_worst_103 rfl <| ?_))
    · have e : t = 17 := by omega
      subst e; exact hp
    · have e : plN (h 33) (t + 1) = plN (h 33) t := by rw [plN, if_neg (Int32.not_lt.mpr c90)]
      exact e ▸ ih (t + 1) (by omega) (by omega)
    · have e : plN (h 33) (t + 1) = t + 1 := by rw [plN, if_pos (Int32.not_le.mp c90)]
      have z := ih (t + 1) (by omega) (by omega)
      rw [e] at z
      exact z
set_option maxRecDepth 20000 in
theorem l10_X5_worst {X : XxT} {post : Option Value → HpT → Prop} (hF : Full X.1) (F : FxT X cX5_worst RX5 3) (Rr : RxT X (some .int) post) (hL : X.2.2.2.2.2.2.2.2.2.2.2.2.2.1 = 5) {h : HpT} (hp : post (some (.int (nI (hgF (ntR h) 5)))) h) : ∀ (k : Nat) (t : Nat), 5 - t < k → t ≤ 5 → rn X 27 [(0, .ref (gad X.1 23)), (1, .int 0), (2, .int (nI (hgF (ntR h) t))), (3, .int 0), (4, .int (nI (t + 1)))] [] h := by
  intro k
  induction k with
  | zero => intro t hk; exact absurd hk (Nat.not_lt_zero _)
  | succ k ih =>
    intro t hk ht
    have hle := hgF_le (ntR h) t
    refine rn_iload (np := 29) F dX5_worst_27 rfl rfl <| rn_bipush (np := 31) (v := 6) F dX5_worst_29 rfl rfl <| rn_Nge (tg := 61) (np := 34) (b := 6) F dX5_worst_31 rfl rfl rfl rfl (by omega) (fun c31 => rn_iconst (np := 62) (v := 1) F dX5_worst_61 rfl rfl <| rn_istore (np := 64) F dX5_worst_62 rfl hL rfl <| ?_) (fun c31 => rn_aload_n (np := 35) F dX5_worst_34 rfl rfl <| rn_iload (np := 37) F dX5_worst_35 rfl rfl <| rn_cV1i (np := 40) F dX5_worst_37 rfl cv_X5_neutralNow wM_X5_112 (fs hF rfl rfl) rfl (c_X5_neutralNow hF (by omega)) (Nat.le_of_ble_eq_true rfl) (Nat.le_of_ble_eq_true rfl) <| rn_aload_n (np := 41) F dX5_worst_40 rfl rfl <| rn_iload_n (np := 42) F dX5_worst_41 rfl rfl <| rn_cV1i (np := 45) F dX5_worst_42 rfl cv_X5_neutralNow wM_X5_112 (fs hF rfl rfl) rfl (c_X5_neutralNow hF (by omega)) (Nat.le_of_ble_eq_true rfl) (Nat.le_of_ble_eq_true rfl) <| rn_icmp_le (tg := 53) (np := 48) F dX5_worst_45 rfl rfl (fun c45 => rn_iload_n (np := 54) F dX5_worst_53 rfl rfl <| rn_istore_n (np := 55) F dX5_worst_54 rfl hL rfl <| rn_iincN (np := 58) F dX5_worst_55 rfl rfl hL rfl <| rn_goto (np := 27) F dX5_worst_58 rfl <| ?_) (fun c45 => rn_iload (np := 50) F dX5_worst_48 rfl rfl <| rn_goto (np := 54) F dX5_worst_50 rfl <| rn_istore_n (np := 55) F dX5_worst_54 rfl hL rfl <| rn_iincN (np := 58) F dX5_worst_55 rfl rfl hL rfl <| rn_goto (np := 27) F dX5_worst_58 rfl <| ?_))
    · have e : t = 5 := by omega
      subst e
      exact l20_X5_worst (h := h) hF F Rr hL hp 18 0 (by omega) (by omega)
    · have e : hgF (ntR h) (t + 1) = hgF (ntR h) t := by rw [hgF, if_neg (Int32.not_lt.mpr c45)]
      exact e ▸ ih (t + 1) (by omega) (by omega)
    · have e : hgF (ntR h) (t + 1) = t + 1 := by rw [hgF, if_pos (Int32.not_le.mp c45)]
      have z := ih (t + 1) (by omega) (by omega)
      rw [e] at z
      exact z
set_option maxRecDepth 20000 in
theorem o0_X5_worst {G : GxT} (hF : Full G) {h : HpT} {n : Nat} (hS : RI n h) : mci G yX5_worst cX5_worst 5 (some .int) 3 [.ref (gad G 23), .int 0] h (nI (hgF (ntR (asH h n)) 5)) (asH h n) := by
  refine mc_of (by decide) (Nat.le_of_ble_eq_true rfl) (fun X hG F Rr hL => ?_)
  subst hG
  have F : FxT X cX5_worst RX5 3 := F
  show rn X 0 [(0, .ref (gad X.1 23)), (1, .int 0)] [] h
  refine rn_iload_n (np := 1) F dX5_worst_0 rfl rfl <| rn_iconst (np := 2) (v := 0) F dX5_worst_1 rfl rfl <| rn_iconst (np := 3) (v := 1) F dX5_worst_2 rfl rfl <| rn_cS3i (np := 6) F dX5_worst_3 rfl cs_X5_in wM_X5_59 (c_X5_in) (Nat.le_of_ble_eq_true rfl) (Nat.le_of_ble_eq_true rfl) <| rn_if_ne (tg := 16) (np := 9) F dX5_worst_6 rfl rfl (fun _ => rn_aload_n (np := 17) F dX5_worst_16 rfl rfl <| rn_cV0v (np := 20) F dX5_worst_17 rfl cv_X5_asIs wM_X5_115 (fs hF rfl rfl) rfl (c_X5_asIs (n := n) hF hS) (Nat.le_of_ble_eq_true rfl) (Nat.le_of_ble_eq_true rfl) <| rn_iconst (np := 21) (v := 0) F dX5_worst_20 rfl rfl <| rn_istore_n (np := 22) F dX5_worst_21 rfl hL rfl <| rn_iconst (np := 23) (v := 0) F dX5_worst_22 rfl rfl <| rn_istore_n (np := 24) F dX5_worst_23 rfl hL rfl <| rn_iconst (np := 25) (v := 1) F dX5_worst_24 rfl rfl <| rn_istore (np := 27) F dX5_worst_25 rfl hL rfl <| ?_) (fun q => absurd q ((fun q => bI_0 q (by decide))))
  exact l10_X5_worst (h := asH h n) hF F Rr hL ⟨rfl, rfl⟩ 6 0 (by omega) (by omega)
set_option maxRecDepth 20000 in
theorem l21_X5_worst {X : XxT} {post : Option Value → HpT → Prop} (hF : Full X.1) (F : FxT X cX5_worst RX5 3) (Rr : RxT X (some .int) post) (hL : X.2.2.2.2.2.2.2.2.2.2.2.2.2.1 = 5) {h : HpT} (hp : post (some (.int (h 33 (plN (h 33) 17)))) h) : ∀ (k : Nat) (t : Nat), 17 - t < k → t ≤ 17 → rn X 64 [(0, .ref (gad X.1 23)), (1, .int 1), (2, .int (nI (hgF (ntR h) 5))), (3, .int (nI (plN (h 33) t))), (4, .int (nI (t + 1)))] [] h := by
  intro k
  induction k with
  | zero => intro t hk; exact absurd hk (Nat.not_lt_zero _)
  | succ k ih =>
    intro t hk ht
    have hle := plN_le (h 33) t
    refine rn_iload (np := 66) F dX5_worst_64 rfl rfl <| rn_bipush (np := 68) (v := 18) F dX5_worst_66 rfl rfl <| rn_Nge (tg := 106) (np := 71) (b := 18) F dX5_worst_68 rfl rfl rfl rfl (by omega) (fun c68 => rn_iload_n (np := 107) F dX5_worst_106 rfl rfl <| rn_if_ne (tg := 114) (np := 110) F dX5_worst_107 rfl rfl (fun _ => rn_aload_n (np := 115) F dX5_worst_114 rfl rfl <| rn_getr (np := 118) F dX5_worst_115 rfl fF_X5_41 (fs hF rfl rfl) rfl <| rn_iload_n (np := 119) F dX5_worst_118 rfl rfl <| rn_ialdN (np := 120) F dX5_worst_119 rfl (fs hF rfl rfl) rfl (by omega) <| rn_iret F Rr dX5_worst_120 ?_) (fun q => absurd q ((by decide)))) (fun c68 => rn_aload_n (np := 72) F dX5_worst_71 rfl rfl <| rn_getr (np := 75) F dX5_worst_72 rfl fF_X5_41 (fs hF rfl rfl) rfl <| rn_iload (np := 77) F dX5_worst_75 rfl rfl <| rn_ialdN (np := 78) F dX5_worst_77 rfl (fs hF rfl rfl) rfl (by omega) <| rn_cS1i (np := 81) F dX5_worst_78 rfl cs_X5_size wM_X5_132 (c_X5_size) (Nat.le_of_ble_eq_true rfl) (Nat.le_of_ble_eq_true rfl) <| rn_aload_n (np := 82) F dX5_worst_81 rfl rfl <| rn_getr (np := 85) F dX5_worst_82 rfl fF_X5_41 (fs hF rfl rfl) rfl <| rn_iload_n (np := 86) F dX5_worst_85 rfl rfl <| rn_ialdN (np := 87) F dX5_worst_86 rfl (fs hF rfl rfl) rfl (by omega) <| rn_cS1i (np := 90) F dX5_worst_87 rfl cs_X5_size wM_X5_132 (c_X5_size) (Nat.le_of_ble_eq_true rfl) (Nat.le_of_ble_eq_true rfl) <| rn_icmp_le (tg := 98) (np := 93) F dX5_worst_90 rfl rfl (fun c90 => rn_iload_n (np := 99) F dX5_worst_98 rfl rfl <| rn_istore_n (np := 100) F dX5_worst_99 rfl hL rfl <| rn_iincN (np := 103) F dX5_worst_100 rfl rfl hL rfl <| rn_goto (np := 64) F dX5_worst_103 rfl <| ?_) (fun c90 => rn_iload (np := 95) F dX5_worst_93 rfl rfl <| rn_goto (np := 99) F dX5_worst_95 rfl <| rn_istore_n (np := 100) F dX5_worst_99 rfl hL rfl <| rn_iincN (np := 103) F dX5_worst_100 rfl rfl hL rfl <| rn_goto (np := 64) F dX5_worst_103 rfl <| ?_))
    · have e : t = 17 := by omega
      subst e; exact hp
    · have e : plN (h 33) (t + 1) = plN (h 33) t := by rw [plN, if_neg (Int32.not_lt.mpr c90)]
      exact e ▸ ih (t + 1) (by omega) (by omega)
    · have e : plN (h 33) (t + 1) = t + 1 := by rw [plN, if_pos (Int32.not_le.mp c90)]
      have z := ih (t + 1) (by omega) (by omega)
      rw [e] at z
      exact z
set_option maxRecDepth 20000 in
theorem l11_X5_worst {X : XxT} {post : Option Value → HpT → Prop} (hF : Full X.1) (F : FxT X cX5_worst RX5 3) (Rr : RxT X (some .int) post) (hL : X.2.2.2.2.2.2.2.2.2.2.2.2.2.1 = 5) {h : HpT} (hp : post (some (.int (h 33 (plN (h 33) 17)))) h) : ∀ (k : Nat) (t : Nat), 5 - t < k → t ≤ 5 → rn X 27 [(0, .ref (gad X.1 23)), (1, .int 1), (2, .int (nI (hgF (ntR h) t))), (3, .int 0), (4, .int (nI (t + 1)))] [] h := by
  intro k
  induction k with
  | zero => intro t hk; exact absurd hk (Nat.not_lt_zero _)
  | succ k ih =>
    intro t hk ht
    have hle := hgF_le (ntR h) t
    refine rn_iload (np := 29) F dX5_worst_27 rfl rfl <| rn_bipush (np := 31) (v := 6) F dX5_worst_29 rfl rfl <| rn_Nge (tg := 61) (np := 34) (b := 6) F dX5_worst_31 rfl rfl rfl rfl (by omega) (fun c31 => rn_iconst (np := 62) (v := 1) F dX5_worst_61 rfl rfl <| rn_istore (np := 64) F dX5_worst_62 rfl hL rfl <| ?_) (fun c31 => rn_aload_n (np := 35) F dX5_worst_34 rfl rfl <| rn_iload (np := 37) F dX5_worst_35 rfl rfl <| rn_cV1i (np := 40) F dX5_worst_37 rfl cv_X5_neutralNow wM_X5_112 (fs hF rfl rfl) rfl (c_X5_neutralNow hF (by omega)) (Nat.le_of_ble_eq_true rfl) (Nat.le_of_ble_eq_true rfl) <| rn_aload_n (np := 41) F dX5_worst_40 rfl rfl <| rn_iload_n (np := 42) F dX5_worst_41 rfl rfl <| rn_cV1i (np := 45) F dX5_worst_42 rfl cv_X5_neutralNow wM_X5_112 (fs hF rfl rfl) rfl (c_X5_neutralNow hF (by omega)) (Nat.le_of_ble_eq_true rfl) (Nat.le_of_ble_eq_true rfl) <| rn_icmp_le (tg := 53) (np := 48) F dX5_worst_45 rfl rfl (fun c45 => rn_iload_n (np := 54) F dX5_worst_53 rfl rfl <| rn_istore_n (np := 55) F dX5_worst_54 rfl hL rfl <| rn_iincN (np := 58) F dX5_worst_55 rfl rfl hL rfl <| rn_goto (np := 27) F dX5_worst_58 rfl <| ?_) (fun c45 => rn_iload (np := 50) F dX5_worst_48 rfl rfl <| rn_goto (np := 54) F dX5_worst_50 rfl <| rn_istore_n (np := 55) F dX5_worst_54 rfl hL rfl <| rn_iincN (np := 58) F dX5_worst_55 rfl rfl hL rfl <| rn_goto (np := 27) F dX5_worst_58 rfl <| ?_))
    · have e : t = 5 := by omega
      subst e
      exact l21_X5_worst (h := h) hF F Rr hL hp 18 0 (by omega) (by omega)
    · have e : hgF (ntR h) (t + 1) = hgF (ntR h) t := by rw [hgF, if_neg (Int32.not_lt.mpr c45)]
      exact e ▸ ih (t + 1) (by omega) (by omega)
    · have e : hgF (ntR h) (t + 1) = t + 1 := by rw [hgF, if_pos (Int32.not_le.mp c45)]
      have z := ih (t + 1) (by omega) (by omega)
      rw [e] at z
      exact z
set_option maxRecDepth 20000 in
theorem o1_X5_worst {G : GxT} (hF : Full G) {h : HpT} {n : Nat} (hS : RI n h) : mci G yX5_worst cX5_worst 5 (some .int) 3 [.ref (gad G 23), .int 1] h (asH h n 33 (plN (asH h n 33) 17)) (asH h n) := by
  refine mc_of (by decide) (Nat.le_of_ble_eq_true rfl) (fun X hG F Rr hL => ?_)
  subst hG
  have F : FxT X cX5_worst RX5 3 := F
  show rn X 0 [(0, .ref (gad X.1 23)), (1, .int 1)] [] h
  refine rn_iload_n (np := 1) F dX5_worst_0 rfl rfl <| rn_iconst (np := 2) (v := 0) F dX5_worst_1 rfl rfl <| rn_iconst (np := 3) (v := 1) F dX5_worst_2 rfl rfl <| rn_cS3i (np := 6) F dX5_worst_3 rfl cs_X5_in wM_X5_59 (c_X5_in) (Nat.le_of_ble_eq_true rfl) (Nat.le_of_ble_eq_true rfl) <| rn_if_ne (tg := 16) (np := 9) F dX5_worst_6 rfl rfl (fun _ => rn_aload_n (np := 17) F dX5_worst_16 rfl rfl <| rn_cV0v (np := 20) F dX5_worst_17 rfl cv_X5_asIs wM_X5_115 (fs hF rfl rfl) rfl (c_X5_asIs (n := n) hF hS) (Nat.le_of_ble_eq_true rfl) (Nat.le_of_ble_eq_true rfl) <| rn_iconst (np := 21) (v := 0) F dX5_worst_20 rfl rfl <| rn_istore_n (np := 22) F dX5_worst_21 rfl hL rfl <| rn_iconst (np := 23) (v := 0) F dX5_worst_22 rfl rfl <| rn_istore_n (np := 24) F dX5_worst_23 rfl hL rfl <| rn_iconst (np := 25) (v := 1) F dX5_worst_24 rfl rfl <| rn_istore (np := 27) F dX5_worst_25 rfl hL rfl <| ?_) (fun q => absurd q ((fun q => bI_0 q (by decide))))
  exact l11_X5_worst (h := asH h n) hF F Rr hL ⟨rfl, rfl⟩ 6 0 (by omega) (by omega)
set_option maxRecDepth 20000 in
theorem l2_X5_keeps {X : XxT} {post : Option Value → HpT → Prop} (hF : Full X.1) (F : FxT X cX5_keeps RX5 0) (Rr : RxT X none post) (hL : X.2.2.2.2.2.2.2.2.2.2.2.2.2.1 = 2) {h : HpT} {u : Nat} {f0 : Nat → Int32} (hu : u < 8) (eu : h 23 10 = nI u) (hp : post none (hs (va_up h 30 (pcF f0 u (h 26) 9)) 23 10 (nI (u + 1)))) : ∀ (k : Nat) (i : Nat), 9 - i < k → i ≤ 9 → rn X 50 [(0, .ref (gad X.1 23)), (1, .int (nI i))] [] (va_up h 30 (pcF f0 u (h 26) i)) := by
  intro k
  induction k with
  | zero => intro i hk; exact absurd hk (Nat.not_lt_zero _)
  | succ k ih =>
    intro i hk hi
    refine rn_iload_n (np := 51) F dX5_keeps_50 rfl rfl <| rn_bipush (np := 53) (v := 9) F dX5_keeps_51 rfl rfl <| rn_Nge (tg := 82) (np := 56) (b := 9) F dX5_keeps_53 rfl rfl rfl rfl (by omega) (fun c53 => rn_aload_n (np := 83) F dX5_keeps_82 rfl rfl <| rn_dup (np := 84) F dX5_keeps_83 rfl rfl <| rn_getfE (np := 87) F dX5_keeps_84 rfl fF_X5_67 (fs hF rfl rfl) rfl eu <| rn_iconst (np := 88) (v := 1) F dX5_keeps_87 rfl rfl <| rn_iadd (np := 89) F dX5_keeps_88 rfl <| rn_topE (nI_1 u) <| rn_putf (np := 92) F dX5_keeps_89 rfl fP_X5_67 (fs hF rfl rfl) rfl rfl rfl <| rn_vret F Rr dX5_keeps_92 ?_) (fun c53 => rn_aload_n (np := 57) F dX5_keeps_56 rfl rfl <| rn_getr (np := 60) F dX5_keeps_57 rfl fF_X5_32 (fs hF rfl rfl) rfl <| rn_bipush (np := 62) (v := 9) F dX5_keeps_60 rfl rfl <| rn_aload_n (np := 63) F dX5_keeps_62 rfl rfl <| rn_getfE (np := 66) F dX5_keeps_63 rfl fF_X5_67 (fs hF rfl rfl) rfl eu <| rn_imul (np := 67) F dX5_keeps_66 rfl <| rn_iload_n (np := 68) F dX5_keeps_67 rfl rfl <| rn_iadd (np := 69) F dX5_keeps_68 rfl <| rn_aload_n (np := 70) F dX5_keeps_69 rfl rfl <| rn_getr (np := 73) F dX5_keeps_70 rfl fF_X5_16 (fs hF rfl rfl) rfl <| rn_iload_n (np := 74) F dX5_keeps_73 rfl rfl <| rn_ialdN (np := 75) F dX5_keeps_74 rfl (fs hF rfl rfl) rfl (by omega) <| rn_iastN (np := 76) F dX5_keeps_75 rfl (fs hF rfl rfl) (ix9r u i) (by omega) <| rn_iincN (np := 79) F dX5_keeps_76 rfl rfl hL rfl <| rn_goto (np := 50) F dX5_keeps_79 rfl <| ?_)
    · rw [show i = 9 by omega]; exact hp
    · exact (pc_step h f0 (h 26) u i) ▸ ih (i + 1) (by omega) (by omega)
set_option maxRecDepth 20000 in
theorem l1_X5_keeps {X : XxT} {post : Option Value → HpT → Prop} (hF : Full X.1) (F : FxT X cX5_keeps RX5 0) (Rr : RxT X none post) (hL : X.2.2.2.2.2.2.2.2.2.2.2.2.2.1 = 2) {h : HpT} (e8 : h 23 10 = nI 8) (hp : post none (hs (va_up (hs (va_up h 30 (shF (h 30) 63)) 23 10 7) 30 (pcF (shF (h 30) 63) 7 (h 26) 9)) 23 10 8)) : ∀ (k : Nat) (i : Nat), 63 - i < k → i ≤ 63 → rn X 11 [(0, .ref (gad X.1 23)), (1, .int (nI i))] [] (va_up h 30 (shF (h 30) i)) := by
  intro k
  induction k with
  | zero => intro i hk; exact absurd hk (Nat.not_lt_zero _)
  | succ k ih =>
    intro i hk hi
    refine rn_iload_n (np := 12) F dX5_keeps_11 rfl rfl <| rn_bipush (np := 14) (v := 63) F dX5_keeps_12 rfl rfl <| rn_Nge (tg := 38) (np := 17) (b := 63) F dX5_keeps_14 rfl rfl rfl rfl (by omega) (fun c14 => rn_aload_n (np := 39) F dX5_keeps_38 rfl rfl <| rn_dup (np := 40) F dX5_keeps_39 rfl rfl <| rn_getfE (np := 43) F dX5_keeps_40 rfl fF_X5_67 (fs hF rfl rfl) rfl e8 <| rn_iconst (np := 44) (v := 1) F dX5_keeps_43 rfl rfl <| rn_isub (np := 45) F dX5_keeps_44 rfl <| rn_topE (nI_pred 7) <| rn_putf (np := 48) F dX5_keeps_45 rfl fP_X5_67 (fs hF rfl rfl) rfl rfl rfl <| rn_iconst (np := 49) (v := 0) F dX5_keeps_48 rfl rfl <| rn_istore_n (np := 50) F dX5_keeps_49 rfl hL rfl <| ?_) (fun c14 => rn_aload_n (np := 18) F dX5_keeps_17 rfl rfl <| rn_getr (np := 21) F dX5_keeps_18 rfl fF_X5_32 (fs hF rfl rfl) rfl <| rn_iload_n (np := 22) F dX5_keeps_21 rfl rfl <| rn_aload_n (np := 23) F dX5_keeps_22 rfl rfl <| rn_getr (np := 26) F dX5_keeps_23 rfl fF_X5_32 (fs hF rfl rfl) rfl <| rn_iload_n (np := 27) F dX5_keeps_26 rfl rfl <| rn_bipush (np := 29) (v := 9) F dX5_keeps_27 rfl rfl <| rn_iadd (np := 30) F dX5_keeps_29 rfl <| rn_ialdN (np := 31) F dX5_keeps_30 rfl (fs hF rfl rfl) (show nI i + 9 = nI (i + 9) from nI_add i 9) (by omega) <| rn_iastN (np := 32) F dX5_keeps_31 rfl (fs hF rfl rfl) rfl (by omega) <| rn_iincN (np := 35) F dX5_keeps_32 rfl rfl hL rfl <| rn_goto (np := 11) F dX5_keeps_35 rfl <| ?_)
    · rw [show i = 63 by omega]
      have z := l2_X5_keeps (h := hs (va_up h 30 (shF (h 30) 63)) 23 10 7) (u := 7) (f0 := shF (h 30) 63) hF F Rr hL (by omega) (by rw [hs_at]; simp; rfl) hp 10 0 (by omega) (by omega)
      rw [pc_0] at z
      have e : va_up (hs (va_up h 30 (shF (h 30) 63)) 23 10 7) 30 (shF (h 30) 63) = hs (va_up h 30 (shF (h 30) 63)) 23 10 7 := up_id (hs (va_up h 30 (shF (h 30) 63)) 23 10 7) 30
      rw [e] at z
      exact z
    · exact (sh_step h (h 30) i) ▸ ih (i + 1) (by omega) (by omega)
set_option maxRecDepth 20000 in
theorem c_X5_keeps {G : GxT} (hF : Full G) {h : HpT} {u : Nat} (hu : u ≤ 8) (eu : h 23 10 = nI u) : mcv G yX5_keeps cX5_keeps 2 none 0 [.ref (gad G 23)] h (keepR h u) := by
  refine mc_of (by decide) (Nat.le_of_ble_eq_true rfl) (fun X hG F Rr hL => ?_)
  subst hG
  have F : FxT X cX5_keeps RX5 0 := F
  show rn X 0 [(0, .ref (gad X.1 23))] [] h
  refine rn_aload_n (np := 1) F dX5_keeps_0 rfl rfl <| rn_getfE (np := 4) F dX5_keeps_1 rfl fF_X5_67 (fs hF rfl rfl) rfl eu <| rn_bipush (np := 6) (v := 8) F dX5_keeps_4 rfl rfl <| rn_Nne (tg := 48) (np := 9) (b := 8) F dX5_keeps_6 rfl rfl rfl rfl (by omega) (fun c6 => rn_iconst (np := 49) (v := 0) F dX5_keeps_48 rfl rfl <| rn_istore_n (np := 50) F dX5_keeps_49 rfl hL rfl <| ?_) (fun c6 => rn_iconst (np := 10) (v := 0) F dX5_keeps_9 rfl rfl <| rn_istore_n (np := 11) F dX5_keeps_10 rfl hL rfl <| ?_)
  · have z := l2_X5_keeps (h := h) (f0 := h 30) hF F Rr hL (show u < 8 by omega) eu ⟨rfl, by rw [keepR, if_pos (by omega)]⟩ 10 0 (by omega) (by omega)
    rw [pc_0, up_id] at z
    exact z
  · subst c6
    have z := l1_X5_keeps (h := h) hF F Rr hL eu ⟨rfl, by rw [keepR, if_neg (by omega)]⟩ 64 0 (by omega) (by omega)
    rw [sh_0, up_id] at z
    exact z
