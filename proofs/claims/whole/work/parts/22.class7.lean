set_option maxRecDepth 20000 in
theorem l_X0_readTakings {X : XxT} {post : Option Value → HpT → Prop} (hF : Full X.1) (F : FxT X cX0_readTakings RX0 1) (Rr : RxT X none post) (hL : X.2.2.2.2.2.2.2.2.2.2.2.2.2.1 = 3) {h : HpT} {n : Nat} (hS : SI n h) (hp : post none (va_up h 15 (rtF h (n * 6)))) : ∀ (k : Nat) (i t : Nat), 7 * n - (7 * i + t) < k → i < n → t ≤ 6 → rn X 15 [(0, .ref (gad X.1 11)), (1, .int (nI i)), (2, .int (nI t))] [] (va_up h 15 (rtF h (i * 6 + t))) := by
  intro k
  induction k with
  | zero => intro i t hk; exact absurd hk (Nat.not_lt_zero _)
  | succ k ih =>
    intro i t hk hi ht
    have hn := hS.1
    obtain ⟨a, ha, ea⟩ := hS.2.2.1 i (by omega)
    refine rn_iload_n (np := 16) F dX0_readTakings_15 rfl rfl <| rn_bipush (np := 18) (v := 6) F dX0_readTakings_16 rfl rfl <| rn_Nge (tg := 47) (np := 21) (b := 6) F dX0_readTakings_18 rfl rfl rfl rfl (by omega) (fun c18 => rn_iincN (np := 50) F dX0_readTakings_47 rfl rfl hL rfl <| rn_goto (np := 2) F dX0_readTakings_50 rfl <| rn_iload_n (np := 3) F dX0_readTakings_2 rfl rfl <| rn_aload_n (np := 4) F dX0_readTakings_3 rfl rfl <| rn_getr (np := 7) F dX0_readTakings_4 rfl fF_X0_36 (fs hF rfl rfl) rfl <| rn_getfE (np := 10) F dX0_readTakings_7 rfl fF_X0_80 (fs hF rfl rfl) rfl hS.2.1 <| rn_Nge (tg := 53) (np := 13) F dX0_readTakings_10 rfl rfl rfl rfl (by omega) (fun c10 => rn_vret F Rr dX0_readTakings_53 ?_) (fun c10 => rn_iconst (np := 14) (v := 0) F dX0_readTakings_13 rfl rfl <| rn_istore_n (np := 15) F dX0_readTakings_14 rfl hL rfl <| ?_)) (fun c18 => rn_aload_n (np := 22) F dX0_readTakings_21 rfl rfl <| rn_getr (np := 25) F dX0_readTakings_22 rfl fF_X0_21 (fs hF rfl rfl) rfl <| rn_iload_n (np := 26) F dX0_readTakings_25 rfl rfl <| rn_bipush (np := 28) (v := 6) F dX0_readTakings_26 rfl rfl <| rn_imul (np := 29) F dX0_readTakings_28 rfl <| rn_iload_n (np := 30) F dX0_readTakings_29 rfl rfl <| rn_iadd (np := 31) F dX0_readTakings_30 rfl <| rn_aload_n (np := 32) F dX0_readTakings_31 rfl rfl <| rn_getr (np := 35) F dX0_readTakings_32 rfl fF_X0_36 (fs hF rfl rfl) rfl <| rn_iload_n (np := 36) F dX0_readTakings_35 rfl rfl <| rn_iload_n (np := 37) F dX0_readTakings_36 rfl rfl <| rn_cV2i (np := 40) F dX0_readTakings_37 rfl cv_X2_takenBy wM_X0_85 (fs hF rfl rfl) rfl (c_X2_takenBy hF (by omega) (by omega) ha ea) (Nat.le_of_ble_eq_true rfl) (Nat.le_of_ble_eq_true rfl) <| rn_iastN (np := 41) F dX0_readTakings_40 rfl (fs hF rfl rfl) (ix6 i t) (by omega) <| rn_iincN (np := 44) F dX0_readTakings_41 rfl rfl hL rfl <| rn_goto (np := 15) F dX0_readTakings_44 rfl <| ?_)
    · rw [show i * 6 + t = n * 6 by omega]; exact hp
    · have z := ih (i + 1) 0 (by omega) (by omega) (by omega)
      rw [show (i + 1) * 6 + 0 = i * 6 + t by omega] at z
      exact z
    · rw [show tkV (va_up h 15 (rtF h (i * 6 + t)) 2 i) (va_up h 15 (rtF h (i * 6 + t)) 3 i) t = tkV (h 2 i) (h 3 i) t from rfl, rt_step h i t (by omega)]
      exact ih i (t + 1) (by omega) (by omega) (by omega)
set_option maxRecDepth 20000 in
theorem c_X0_readTakings {G : GxT} (hF : Full G) {h : HpT} {n : Nat} (hS : SI n h) : mcv G yX0_readTakings cX0_readTakings 3 none 1 [.ref (gad G 11)] h (va_up h 15 (rtF h (n * 6))) := by
  refine mc_of (by decide) (Nat.le_of_ble_eq_true rfl) (fun X hG F Rr hL => ?_)
  subst hG
  have F : FxT X cX0_readTakings RX0 1 := F
  show rn X 0 [(0, .ref (gad X.1 11))] [] h
  have hn := hS.1
  have e : va_up h 15 (rtF h 0) = h := by rw [rt_0, up_id]
  refine rn_iconst (np := 1) (v := 0) F dX0_readTakings_0 rfl rfl <| rn_istore_n (np := 2) F dX0_readTakings_1 rfl hL rfl <| rn_iload_n (np := 3) F dX0_readTakings_2 rfl rfl <| rn_aload_n (np := 4) F dX0_readTakings_3 rfl rfl <| rn_getr (np := 7) F dX0_readTakings_4 rfl fF_X0_36 (fs hF rfl rfl) rfl <| rn_getfE (np := 10) F dX0_readTakings_7 rfl fF_X0_80 (fs hF rfl rfl) rfl hS.2.1 <| rn_Nge (tg := 53) (np := 13) F dX0_readTakings_10 rfl rfl (show (0 : Int32) = nI 0 from rfl) rfl (by omega) (fun c10 => rn_vret F Rr dX0_readTakings_53 ?_) (fun c10 => rn_iconst (np := 14) (v := 0) F dX0_readTakings_13 rfl rfl <| rn_istore_n (np := 15) F dX0_readTakings_14 rfl hL rfl <| ?_)
  · exact ⟨rfl, by rw [show n * 6 = 0 by omega, e]⟩
  · have z := l_X0_readTakings (h := h) hF F Rr hL hS ⟨rfl, rfl⟩ (7 * n + 1) 0 0 (by omega) (by omega) (by omega)
    rw [show 0 * 6 + 0 = 0 from rfl, e] at z
    exact z
set_option maxRecDepth 20000 in
theorem l_X0_product {X : XxT} {post : Option Value → HpT → Prop} (hF : Full X.1) (F : FxT X cX0_product RX0 0) (Rr : RxT X (some .int) post) (hL : X.2.2.2.2.2.2.2.2.2.2.2.2.2.1 = 5) {h : HpT} {i o : Nat} (hi : i < 9) (ho : o < 9) (hp : post (some (.int (prF (h 9) (h 15) i o 6))) h) : ∀ (k : Nat) (t : Nat), 6 - t < k → t ≤ 6 → rn X 5 [(0, .ref (gad X.1 11)), (1, .int (nI i)), (2, .int (nI o)), (3, .int (prF (h 9) (h 15) i o t)), (4, .int (nI t))] [] h := by
  intro k
  induction k with
  | zero => intro t hk; exact absurd hk (Nat.not_lt_zero _)
  | succ k ih =>
    intro t hk ht
    refine rn_iload (np := 7) F dX0_product_5 rfl rfl <| rn_bipush (np := 9) (v := 6) F dX0_product_7 rfl rfl <| rn_Nge (tg := 57) (np := 12) (b := 6) F dX0_product_9 rfl rfl rfl rfl (by omega) (fun c9 => rn_iload_n (np := 58) F dX0_product_57 rfl rfl <| rn_iret F Rr dX0_product_58 ?_) (fun c9 => rn_iload_n (np := 13) F dX0_product_12 rfl rfl <| rn_aload_n (np := 14) F dX0_product_13 rfl rfl <| rn_getr (np := 17) F dX0_product_14 rfl fF_X0_36 (fs hF rfl rfl) rfl <| rn_getr (np := 20) F dX0_product_17 rfl fF_X0_103 (fs hF rfl rfl) rfl <| rn_iload (np := 22) F dX0_product_20 rfl rfl <| rn_ialdN (np := 23) F dX0_product_22 rfl (fs hF rfl rfl) rfl (by omega) <| rn_aload_n (np := 24) F dX0_product_23 rfl rfl <| rn_getr (np := 27) F dX0_product_24 rfl fF_X0_21 (fs hF rfl rfl) rfl <| rn_iload_n (np := 28) F dX0_product_27 rfl rfl <| rn_bipush (np := 30) (v := 6) F dX0_product_28 rfl rfl <| rn_imul (np := 31) F dX0_product_30 rfl <| rn_iload (np := 33) F dX0_product_31 rfl rfl <| rn_iadd (np := 34) F dX0_product_33 rfl <| rn_ialdN (np := 35) F dX0_product_34 rfl (fs hF rfl rfl) (ix6 i t) (by omega) <| rn_imul (np := 36) F dX0_product_35 rfl <| rn_aload_n (np := 37) F dX0_product_36 rfl rfl <| rn_getr (np := 40) F dX0_product_37 rfl fF_X0_21 (fs hF rfl rfl) rfl <| rn_iload_n (np := 41) F dX0_product_40 rfl rfl <| rn_bipush (np := 43) (v := 6) F dX0_product_41 rfl rfl <| rn_imul (np := 44) F dX0_product_43 rfl <| rn_iload (np := 46) F dX0_product_44 rfl rfl <| rn_iadd (np := 47) F dX0_product_46 rfl <| rn_ialdN (np := 48) F dX0_product_47 rfl (fs hF rfl rfl) (ix6 o t) (by omega) <| rn_imul (np := 49) F dX0_product_48 rfl <| rn_iadd (np := 50) F dX0_product_49 rfl <| rn_istore_n (np := 51) F dX0_product_50 rfl hL rfl <| rn_iincN (np := 54) F dX0_product_51 rfl rfl hL rfl <| rn_goto (np := 5) F dX0_product_54 rfl <| ?_)
    · rw [show t = 6 by omega]; exact hp
    · exact ih (t + 1) (by omega) (by omega)
set_option maxRecDepth 20000 in
theorem c_X0_product {G : GxT} (hF : Full G) {h : HpT} {i o : Nat} (hi : i < 9) (ho : o < 9) : mci G yX0_product cX0_product 5 (some .int) 0 [.ref (gad G 11), .int (nI i), .int (nI o)] h (prF (h 9) (h 15) i o 6) (h) := by
  refine mc_of (by decide) (Nat.le_of_ble_eq_true rfl) (fun X hG F Rr hL => ?_)
  subst hG
  have F : FxT X cX0_product RX0 0 := F
  show rn X 0 [(0, .ref (gad X.1 11)), (1, .int (nI i)), (2, .int (nI o))] [] h
  refine rn_iconst (np := 1) (v := 0) F dX0_product_0 rfl rfl <| rn_istore_n (np := 2) F dX0_product_1 rfl hL rfl <| rn_iconst (np := 3) (v := 0) F dX0_product_2 rfl rfl <| rn_istore (np := 5) F dX0_product_3 rfl hL rfl <| ?_
  exact l_X0_product hF F Rr hL hi ho ⟨rfl, rfl⟩ 7 0 (by omega) (by omega)
set_option maxRecDepth 20000 in
theorem l_X0_multiplyTakings {X : XxT} {post : Option Value → HpT → Prop} (hF : Full X.1) (F : FxT X cX0_multiplyTakings RX0 1) (Rr : RxT X none post) (hL : X.2.2.2.2.2.2.2.2.2.2.2.2.2.1 = 3) {h : HpT} {n : Nat} (hn : n ≤ 9) (eh : h 1 9 = nI n) (hp : post none (va_up h 16 (mpF h n 0))) : ∀ (k : Nat) (i o : Nat), 11 * n - (11 * i + o) < k → i < n → o ≤ i + 1 → rn X 15 [(0, .ref (gad X.1 11)), (1, .int (nI i)), (2, .int (nI o))] [] (va_up h 16 (mpF h i o)) := by
  intro k
  induction k with
  | zero => intro i o hk; exact absurd hk (Nat.not_lt_zero _)
  | succ k ih =>
    intro i o hk hi ho
    refine rn_iload_n (np := 16) F dX0_multiplyTakings_15 rfl rfl <| rn_iload_n (np := 17) F dX0_multiplyTakings_16 rfl rfl <| rn_Ngt (tg := 43) (np := 20) F dX0_multiplyTakings_17 rfl rfl rfl rfl (by omega) (fun c17 => rn_iincN (np := 46) F dX0_multiplyTakings_43 rfl rfl hL rfl <| rn_goto (np := 2) F dX0_multiplyTakings_46 rfl <| rn_iload_n (np := 3) F dX0_multiplyTakings_2 rfl rfl <| rn_aload_n (np := 4) F dX0_multiplyTakings_3 rfl rfl <| rn_getr (np := 7) F dX0_multiplyTakings_4 rfl fF_X0_36 (fs hF rfl rfl) rfl <| rn_getfE (np := 10) F dX0_multiplyTakings_7 rfl fF_X0_80 (fs hF rfl rfl) rfl eh <| rn_Nge (tg := 49) (np := 13) F dX0_multiplyTakings_10 rfl rfl rfl rfl (by omega) (fun c10 => rn_vret F Rr dX0_multiplyTakings_49 ?_) (fun c10 => rn_iconst (np := 14) (v := 0) F dX0_multiplyTakings_13 rfl rfl <| rn_istore_n (np := 15) F dX0_multiplyTakings_14 rfl hL rfl <| ?_)) (fun c17 => rn_aload_n (np := 21) F dX0_multiplyTakings_20 rfl rfl <| rn_getr (np := 24) F dX0_multiplyTakings_21 rfl fF_X0_24 (fs hF rfl rfl) rfl <| rn_iload_n (np := 25) F dX0_multiplyTakings_24 rfl rfl <| rn_bipush (np := 27) (v := 9) F dX0_multiplyTakings_25 rfl rfl <| rn_imul (np := 28) F dX0_multiplyTakings_27 rfl <| rn_iload_n (np := 29) F dX0_multiplyTakings_28 rfl rfl <| rn_iadd (np := 30) F dX0_multiplyTakings_29 rfl <| rn_aload_n (np := 31) F dX0_multiplyTakings_30 rfl rfl <| rn_iload_n (np := 32) F dX0_multiplyTakings_31 rfl rfl <| rn_iload_n (np := 33) F dX0_multiplyTakings_32 rfl rfl <| rn_cV2i (np := 36) F dX0_multiplyTakings_33 rfl cv_X0_product wM_X0_100 (fs hF rfl rfl) rfl (c_X0_product hF (by omega) (by omega)) (Nat.le_of_ble_eq_true rfl) (Nat.le_of_ble_eq_true rfl) <| rn_iastN (np := 37) F dX0_multiplyTakings_36 rfl (fs hF rfl rfl) (ix9 i o) (by omega) <| rn_iincN (np := 40) F dX0_multiplyTakings_37 rfl rfl hL rfl <| rn_goto (np := 15) F dX0_multiplyTakings_40 rfl <| ?_)
    · rw [show o = i + 1 by omega, mp_next, show i + 1 = n by omega]; exact hp
    · rw [show o = i + 1 by omega, mp_next]
      exact ih (i + 1) 0 (by omega) (by omega) (by omega)
    · rw [show prF (va_up h 16 (mpF h i o) 9) (va_up h 16 (mpF h i o) 15) i o 6 = prF (h 9) (h 15) i o 6 from rfl, mp_step h i o (by omega)]
      exact ih i (o + 1) (by omega) (by omega) (by omega)
set_option maxRecDepth 20000 in
theorem c_X0_multiplyTakings {G : GxT} (hF : Full G) {h : HpT} {n : Nat} (hn : n ≤ 9) (eh : h 1 9 = nI n) : mcv G yX0_multiplyTakings cX0_multiplyTakings 3 none 1 [.ref (gad G 11)] h (va_up h 16 (mpF h n 0)) := by
  refine mc_of (by decide) (Nat.le_of_ble_eq_true rfl) (fun X hG F Rr hL => ?_)
  subst hG
  have F : FxT X cX0_multiplyTakings RX0 1 := F
  show rn X 0 [(0, .ref (gad X.1 11))] [] h
  have e : va_up h 16 (mpF h 0 0) = h := by rw [mp_0, up_id]
  refine rn_iconst (np := 1) (v := 0) F dX0_multiplyTakings_0 rfl rfl <| rn_istore_n (np := 2) F dX0_multiplyTakings_1 rfl hL rfl <| rn_iload_n (np := 3) F dX0_multiplyTakings_2 rfl rfl <| rn_aload_n (np := 4) F dX0_multiplyTakings_3 rfl rfl <| rn_getr (np := 7) F dX0_multiplyTakings_4 rfl fF_X0_36 (fs hF rfl rfl) rfl <| rn_getfE (np := 10) F dX0_multiplyTakings_7 rfl fF_X0_80 (fs hF rfl rfl) rfl eh <| rn_Nge (tg := 49) (np := 13) F dX0_multiplyTakings_10 rfl rfl (show (0 : Int32) = nI 0 from rfl) rfl (by omega) (fun c10 => rn_vret F Rr dX0_multiplyTakings_49 ?_) (fun c10 => rn_iconst (np := 14) (v := 0) F dX0_multiplyTakings_13 rfl rfl <| rn_istore_n (np := 15) F dX0_multiplyTakings_14 rfl hL rfl <| ?_)
  · exact ⟨rfl, by rw [show n = 0 by omega, e]⟩
  · have z := l_X0_multiplyTakings (h := h) hF F Rr hL hn eh ⟨rfl, rfl⟩ (11 * n + 1) 0 0 (by omega) (by omega) (by omega)
    rw [e] at z
    exact z
set_option maxRecDepth 20000 in
theorem l_X0_griefApart {X : XxT} {post : Option Value → HpT → Prop} (hF : Full X.1) (F : FxT X cX0_griefApart RX0 0) (Rr : RxT X (some .int) post) (hL : X.2.2.2.2.2.2.2.2.2.2.2.2.2.1 = 4) {h : HpT} {n : Nat} (hn : n ≤ 9) (eh : h 1 9 = nI n) (hp : post (some (.int (gaF (h 16) n))) h) : ∀ (k : Nat) (i o : Nat), 11 * n - (11 * i + o) < k → i < n → o ≤ i → rn X 31 [(0, .ref (gad X.1 11)), (1, .int (gaI (h 16) i (gaF (h 16) i + h 16 (i * 9 + i)) o)), (2, .int (nI i)), (3, .int (nI o))] [] h := by
  intro k
  induction k with
  | zero => intro i o hk; exact absurd hk (Nat.not_lt_zero _)
  | succ k ih =>
    intro i o hk hi ho
    refine rn_iload_n (np := 32) F dX0_griefApart_31 rfl rfl <| rn_iload_n (np := 33) F dX0_griefApart_32 rfl rfl <| rn_Nge (tg := 56) (np := 36) F dX0_griefApart_33 rfl rfl rfl rfl (by omega) (fun c33 => rn_iincN (np := 59) F dX0_griefApart_56 rfl rfl hL rfl <| rn_goto (np := 4) F dX0_griefApart_59 rfl <| rn_iload_n (np := 5) F dX0_griefApart_4 rfl rfl <| rn_aload_n (np := 6) F dX0_griefApart_5 rfl rfl <| rn_getr (np := 9) F dX0_griefApart_6 rfl fF_X0_36 (fs hF rfl rfl) rfl <| rn_getfE (np := 12) F dX0_griefApart_9 rfl fF_X0_80 (fs hF rfl rfl) rfl eh <| rn_Nge (tg := 62) (np := 15) F dX0_griefApart_12 rfl rfl rfl rfl (by omega) (fun c12 => rn_iload_n (np := 63) F dX0_griefApart_62 rfl rfl <| rn_iret F Rr dX0_griefApart_63 ?_) (fun c12 => rn_iload_n (np := 16) F dX0_griefApart_15 rfl rfl <| rn_aload_n (np := 17) F dX0_griefApart_16 rfl rfl <| rn_getr (np := 20) F dX0_griefApart_17 rfl fF_X0_24 (fs hF rfl rfl) rfl <| rn_iload_n (np := 21) F dX0_griefApart_20 rfl rfl <| rn_bipush (np := 23) (v := 9) F dX0_griefApart_21 rfl rfl <| rn_imul (np := 24) F dX0_griefApart_23 rfl <| rn_iload_n (np := 25) F dX0_griefApart_24 rfl rfl <| rn_iadd (np := 26) F dX0_griefApart_25 rfl <| rn_ialdN (np := 27) F dX0_griefApart_26 rfl (fs hF rfl rfl) (ix9 (i + 1) (i + 1)) (by omega) <| rn_iadd (np := 28) F dX0_griefApart_27 rfl <| rn_istore_n (np := 29) F dX0_griefApart_28 rfl hL rfl <| rn_iconst (np := 30) (v := 0) F dX0_griefApart_29 rfl rfl <| rn_istore_n (np := 31) F dX0_griefApart_30 rfl hL rfl <| ?_)) (fun c33 => rn_iload_n (np := 37) F dX0_griefApart_36 rfl rfl <| rn_aload_n (np := 38) F dX0_griefApart_37 rfl rfl <| rn_getr (np := 41) F dX0_griefApart_38 rfl fF_X0_24 (fs hF rfl rfl) rfl <| rn_iload_n (np := 42) F dX0_griefApart_41 rfl rfl <| rn_bipush (np := 44) (v := 9) F dX0_griefApart_42 rfl rfl <| rn_imul (np := 45) F dX0_griefApart_44 rfl <| rn_iload_n (np := 46) F dX0_griefApart_45 rfl rfl <| rn_iadd (np := 47) F dX0_griefApart_46 rfl <| rn_ialdN (np := 48) F dX0_griefApart_47 rfl (fs hF rfl rfl) (ix9 i o) (by omega) <| rn_isub (np := 49) F dX0_griefApart_48 rfl <| rn_istore_n (np := 50) F dX0_griefApart_49 rfl hL rfl <| rn_iincN (np := 53) F dX0_griefApart_50 rfl rfl hL rfl <| rn_goto (np := 31) F dX0_griefApart_53 rfl <| ?_)
    · have e : gaI (h 16) i (gaF (h 16) i + h 16 (i * 9 + i)) o = gaF (h 16) n := by rw [show o = i by omega, show n = i + 1 by omega]; rfl
      rw [e]; exact hp
    · have e : gaI (h 16) i (gaF (h 16) i + h 16 (i * 9 + i)) o = gaF (h 16) (i + 1) := by rw [show o = i by omega]; rfl
      have z := ih (i + 1) 0 (by omega) (by omega) (by omega)
      rw [e]
      exact z
    · exact ih i (o + 1) (by omega) (by omega) (by omega)
set_option maxRecDepth 20000 in
theorem c_X0_griefApart {G : GxT} (hF : Full G) {h : HpT} {n : Nat} (hn : n ≤ 9) (eh : h 1 9 = nI n) : mci G yX0_griefApart cX0_griefApart 4 (some .int) 0 [.ref (gad G 11)] h (gaF (h 16) n) (h) := by
  refine mc_of (by decide) (Nat.le_of_ble_eq_true rfl) (fun X hG F Rr hL => ?_)
  subst hG
  have F : FxT X cX0_griefApart RX0 0 := F
  show rn X 0 [(0, .ref (gad X.1 11))] [] h
  refine rn_iconst (np := 1) (v := 0) F dX0_griefApart_0 rfl rfl <| rn_istore_n (np := 2) F dX0_griefApart_1 rfl hL rfl <| rn_iconst (np := 3) (v := 0) F dX0_griefApart_2 rfl rfl <| rn_istore_n (np := 4) F dX0_griefApart_3 rfl hL rfl <| rn_iload_n (np := 5) F dX0_griefApart_4 rfl rfl <| rn_aload_n (np := 6) F dX0_griefApart_5 rfl rfl <| rn_getr (np := 9) F dX0_griefApart_6 rfl fF_X0_36 (fs hF rfl rfl) rfl <| rn_getfE (np := 12) F dX0_griefApart_9 rfl fF_X0_80 (fs hF rfl rfl) rfl eh <| rn_Nge (tg := 62) (np := 15) F dX0_griefApart_12 rfl rfl (show (0 : Int32) = nI 0 from rfl) rfl (by omega) (fun c12 => rn_iload_n (np := 63) F dX0_griefApart_62 rfl rfl <| rn_iret F Rr dX0_griefApart_63 ?_) (fun c12 => rn_iload_n (np := 16) F dX0_griefApart_15 rfl rfl <| rn_aload_n (np := 17) F dX0_griefApart_16 rfl rfl <| rn_getr (np := 20) F dX0_griefApart_17 rfl fF_X0_24 (fs hF rfl rfl) rfl <| rn_iload_n (np := 21) F dX0_griefApart_20 rfl rfl <| rn_bipush (np := 23) (v := 9) F dX0_griefApart_21 rfl rfl <| rn_imul (np := 24) F dX0_griefApart_23 rfl <| rn_iload_n (np := 25) F dX0_griefApart_24 rfl rfl <| rn_iadd (np := 26) F dX0_griefApart_25 rfl <| rn_ialdN (np := 27) F dX0_griefApart_26 rfl (fs hF rfl rfl) (ix9 0 0) (by omega) <| rn_iadd (np := 28) F dX0_griefApart_27 rfl <| rn_istore_n (np := 29) F dX0_griefApart_28 rfl hL rfl <| rn_iconst (np := 30) (v := 0) F dX0_griefApart_29 rfl rfl <| rn_istore_n (np := 31) F dX0_griefApart_30 rfl hL rfl <| ?_)
  · exact ⟨by rw [show n = 0 by omega]; rfl, rfl⟩
  · exact l_X0_griefApart (h := h) hF F Rr hL hn eh ⟨rfl, rfl⟩ (11 * n + 1) 0 0 (by omega) (by omega) (by omega)
