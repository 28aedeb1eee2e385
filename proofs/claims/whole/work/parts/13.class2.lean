set_option maxRecDepth 20000 in
theorem l_J7_fill_53178 {X : XxT} {post : Option Value → HpT → Prop} (hF : Full X.1) (F : FxT X cJ7_fill_53178 RJ7 0) (Rr : RxT X none post) (hL : X.2.2.2.2.2.2.2.2.2.2.2.2.2.1 = 4) {h : HpT} {q nq : Nat} {v : Int32} (hq : shp X.1 q (.inl nq)) (hb : nq < 2147483648) (hp : post none (va_up h q (fillF (h q) nq v))) : ∀ (k : Nat) (i : Nat), nq - i < k → i ≤ nq → rn X 5 [(0, .ref (gad X.1 q)), (1, .int v), (2, .int (nI i)), (3, .int (nI nq))] [] (va_up h q (fillF (h q) i v)) := by
  intro k
  induction k with
  | zero => intro i hk; exact absurd hk (Nat.not_lt_zero _)
  | succ k ih =>
    intro i hk hi
    refine rn_iload_n (np := 6) F dJ7_fill_53178_5 rfl rfl <| rn_iload_n (np := 7) F dJ7_fill_53178_6 rfl rfl <| rn_Nge (tg := 20) (np := 10) F dJ7_fill_53178_7 rfl rfl rfl rfl (by omega) (fun c7 => rn_vret F Rr dJ7_fill_53178_20 ?_) (fun c7 => rn_aload_n (np := 11) F dJ7_fill_53178_10 rfl rfl <| rn_iload_n (np := 12) F dJ7_fill_53178_11 rfl rfl <| rn_iload_n (np := 13) F dJ7_fill_53178_12 rfl rfl <| rn_iastN (np := 14) F dJ7_fill_53178_13 rfl hq rfl (by omega) <| rn_iincN (np := 17) F dJ7_fill_53178_14 rfl rfl hL rfl <| rn_goto (np := 5) F dJ7_fill_53178_17 rfl <| ?_)
    · rw [show i = nq by omega]; exact hp
    · rw [fill_step]; exact ih (i + 1) (by omega) (by omega)
set_option maxRecDepth 20000 in
theorem c_J7_fill_53178 {G : GxT} (hF : Full G) {h : HpT} {q nq : Nat} {v : Int32} (hq : shp G q (.inl nq)) (hb : nq < 2147483648) : mcv G yJ7_fill_53178 cJ7_fill_53178 4 none 0 [.ref (gad G q), .int v] h (va_up h q (fillF (h q) nq v)) := by
  refine mc_of (by decide) (Nat.le_of_ble_eq_true rfl) (fun X hG F Rr hL => ?_)
  subst hG
  have F : FxT X cJ7_fill_53178 RJ7 0 := F
  show rn X 0 [(0, .ref (gad X.1 q)), (1, .int v)] [] h
  refine rn_iconst (np := 1) (v := 0) F dJ7_fill_53178_0 rfl rfl <| rn_istore_n (np := 2) F dJ7_fill_53178_1 rfl hL rfl <| rn_aload_n (np := 3) F dJ7_fill_53178_2 rfl rfl <| rn_alen (np := 4) (v := nI nq) F dJ7_fill_53178_3 rfl hq rfl <| rn_istore_n (np := 5) F dJ7_fill_53178_4 rfl hL rfl <| ?_
  have e : va_up h q (fillF (h q) 0 v) = h := by rw [fill_0, up_id]
  have := l_J7_fill_53178 (h := h) (v := v) hF F Rr hL hq hb ⟨rfl, rfl⟩ (nq + 1) 0 (by omega) (by omega)
  rw [e] at this
  exact this
set_option maxRecDepth 20000 in
theorem l_X4_pack {X : XxT} {post : Option Value → HpT → Prop} (hF : Full X.1) (F : FxT X cX4_pack RX4 0) (Rr : RxT X (some .int) post) (hL : X.2.2.2.2.2.2.2.2.2.2.2.2.2.1 = 4) {h : HpT} {q nq n : Nat} (hq : shp X.1 q (.inl nq)) (hb : n ≤ nq ∧ nq < 2147483648) (hp : post (some (.int (packF (h q) n))) h) : ∀ (k : Nat) (i : Nat), n - i < k → i ≤ n → rn X 4 [(0, .ref (gad X.1 q)), (1, .int (nI n)), (2, .int (packF (h q) i)), (3, .int (nI i))] [] h := by
  intro k
  induction k with
  | zero => intro i hk; exact absurd hk (Nat.not_lt_zero _)
  | succ k ih =>
    intro i hk hi
    refine rn_iload_n (np := 5) F dX4_pack_4 rfl rfl <| rn_iload_n (np := 6) F dX4_pack_5 rfl rfl <| rn_Nge (tg := 25) (np := 9) F dX4_pack_6 rfl rfl rfl rfl (by omega) (fun c6 => rn_iload_n (np := 26) F dX4_pack_25 rfl rfl <| rn_iret F Rr dX4_pack_26 ?_) (fun c6 => rn_iload_n (np := 10) F dX4_pack_9 rfl rfl <| rn_aload_n (np := 11) F dX4_pack_10 rfl rfl <| rn_iload_n (np := 12) F dX4_pack_11 rfl rfl <| rn_ialdN (np := 13) F dX4_pack_12 rfl hq rfl (by omega) <| rn_iconst (np := 14) (v := 2) F dX4_pack_13 rfl rfl <| rn_iload_n (np := 15) F dX4_pack_14 rfl rfl <| rn_imul (np := 16) F dX4_pack_15 rfl <| rn_ishl (np := 17) F dX4_pack_16 rfl <| rn_ior (np := 18) F dX4_pack_17 rfl <| rn_istore_n (np := 19) F dX4_pack_18 rfl hL rfl <| rn_iincN (np := 22) F dX4_pack_19 rfl rfl hL rfl <| rn_goto (np := 4) F dX4_pack_22 rfl <| ?_)
    · rw [show i = n by omega]; exact hp
    · exact ih (i + 1) (by omega) (by omega)
set_option maxRecDepth 20000 in
theorem c_X4_pack {G : GxT} (hF : Full G) {h : HpT} {q nq n : Nat} (hq : shp G q (.inl nq)) (hb : n ≤ nq ∧ nq < 2147483648) : mci G yX4_pack cX4_pack 4 (some .int) 0 [.ref (gad G q), .int (nI n)] h (packF (h q) n) (h) := by
  refine mc_of (by decide) (Nat.le_of_ble_eq_true rfl) (fun X hG F Rr hL => ?_)
  subst hG
  have F : FxT X cX4_pack RX4 0 := F
  show rn X 0 [(0, .ref (gad X.1 q)), (1, .int (nI n))] [] h
  refine rn_iconst (np := 1) (v := 0) F dX4_pack_0 rfl rfl <| rn_istore_n (np := 2) F dX4_pack_1 rfl hL rfl <| rn_iconst (np := 3) (v := 0) F dX4_pack_2 rfl rfl <| rn_istore_n (np := 4) F dX4_pack_3 rfl hL rfl <| ?_
  exact l_X4_pack hF F Rr hL hq hb ⟨rfl, rfl⟩ (n + 1) 0 (by omega) (by omega)
set_option maxRecDepth 20000 in
theorem c_X2_loadOf {G : GxT} (hF : Full G) {h : HpT} {p t : Nat} (hp : p < 3) (ht : t < 6) : mci G yX2_loadOf cX2_loadOf 3 (some .int) 0 [.ref (gad G 1), .int (nI p), .int (nI t)] h (h 10 (p * 6 + t)) (h) := by
  refine mc_of (by decide) (Nat.le_of_ble_eq_true rfl) (fun X hG F Rr hL => ?_)
  subst hG
  have F : FxT X cX2_loadOf RX2 0 := F
  show rn X 0 [(0, .ref (gad X.1 1)), (1, .int (nI p)), (2, .int (nI t))] [] h
  refine rn_aload_n (np := 1) F dX2_loadOf_0 rfl rfl <| rn_getr (np := 4) F dX2_loadOf_1 rfl fF_X2_36 (fs hF rfl rfl) rfl <| rn_iload_n (np := 5) F dX2_loadOf_4 rfl rfl <| rn_bipush (np := 7) (v := 6) F dX2_loadOf_5 rfl rfl <| rn_imul (np := 8) F dX2_loadOf_7 rfl <| rn_iload_n (np := 9) F dX2_loadOf_8 rfl rfl <| rn_iadd (np := 10) F dX2_loadOf_9 rfl <| rn_ialdN (np := 11) F dX2_loadOf_10 rfl (fs hF rfl rfl) (ix6 p t) (by omega) <| rn_iret F Rr dX2_loadOf_11 ?_
  · exact rI rfl rfl
set_option maxRecDepth 20000 in
theorem c_X2_neutralOf {G : GxT} (hF : Full G) {h : HpT} {t : Nat} (ht : t < 6) : mci G yX2_neutralOf cX2_neutralOf 5 (some .int) 1 [.ref (gad G 1), .int (nI t)] h (ntC h t) (h) := by
  refine mc_of (by decide) (Nat.le_of_ble_eq_true rfl) (fun X hG F Rr hL => ?_)
  subst hG
  have F : FxT X cX2_neutralOf RX2 1 := F
  show rn X 0 [(0, .ref (gad X.1 1)), (1, .int (nI t))] [] h
  refine rn_aload_n (np := 1) F dX2_neutralOf_0 rfl rfl <| rn_iconst (np := 2) (v := 0) F dX2_neutralOf_1 rfl rfl <| rn_iload_n (np := 3) F dX2_neutralOf_2 rfl rfl <| rn_cV2i (np := 6) F dX2_neutralOf_3 rfl cv_X2_loadOf wM_X2_90 (fs hF rfl rfl) rfl (c_X2_loadOf (p := 0) hF (by omega) (by omega)) (Nat.le_of_ble_eq_true rfl) (Nat.le_of_ble_eq_true rfl) <| rn_istore_n (np := 7) F dX2_neutralOf_6 rfl hL rfl <| rn_aload_n (np := 8) F dX2_neutralOf_7 rfl rfl <| rn_iconst (np := 9) (v := 1) F dX2_neutralOf_8 rfl rfl <| rn_iload_n (np := 10) F dX2_neutralOf_9 rfl rfl <| rn_cV2i (np := 13) F dX2_neutralOf_10 rfl cv_X2_loadOf wM_X2_90 (fs hF rfl rfl) rfl (c_X2_loadOf (p := 1) hF (by omega) (by omega)) (Nat.le_of_ble_eq_true rfl) (Nat.le_of_ble_eq_true rfl) <| rn_istore_n (np := 14) F dX2_neutralOf_13 rfl hL rfl <| rn_aload_n (np := 15) F dX2_neutralOf_14 rfl rfl <| rn_iconst (np := 16) (v := 2) F dX2_neutralOf_15 rfl rfl <| rn_iload_n (np := 17) F dX2_neutralOf_16 rfl rfl <| rn_cV2i (np := 20) F dX2_neutralOf_17 rfl cv_X2_loadOf wM_X2_90 (fs hF rfl rfl) rfl (c_X2_loadOf (p := 2) hF (by omega) (by omega)) (Nat.le_of_ble_eq_true rfl) (Nat.le_of_ble_eq_true rfl) <| rn_istore (np := 22) F dX2_neutralOf_20 rfl hL rfl <| rn_iload_n (np := 23) F dX2_neutralOf_22 rfl rfl <| rn_iload_n (np := 24) F dX2_neutralOf_23 rfl rfl <| rn_imul (np := 25) F dX2_neutralOf_24 rfl <| rn_iload_n (np := 26) F dX2_neutralOf_25 rfl rfl <| rn_iload_n (np := 27) F dX2_neutralOf_26 rfl rfl <| rn_imul (np := 28) F dX2_neutralOf_27 rfl <| rn_iadd (np := 29) F dX2_neutralOf_28 rfl <| rn_iload (np := 31) F dX2_neutralOf_29 rfl rfl <| rn_iload (np := 33) F dX2_neutralOf_31 rfl rfl <| rn_imul (np := 34) F dX2_neutralOf_33 rfl <| rn_iadd (np := 35) F dX2_neutralOf_34 rfl <| rn_iload_n (np := 36) F dX2_neutralOf_35 rfl rfl <| rn_iload_n (np := 37) F dX2_neutralOf_36 rfl rfl <| rn_imul (np := 38) F dX2_neutralOf_37 rfl <| rn_isub (np := 39) F dX2_neutralOf_38 rfl <| rn_iload_n (np := 40) F dX2_neutralOf_39 rfl rfl <| rn_iload (np := 42) F dX2_neutralOf_40 rfl rfl <| rn_imul (np := 43) F dX2_neutralOf_42 rfl <| rn_isub (np := 44) F dX2_neutralOf_43 rfl <| rn_iload (np := 46) F dX2_neutralOf_44 rfl rfl <| rn_iload_n (np := 47) F dX2_neutralOf_46 rfl rfl <| rn_imul (np := 48) F dX2_neutralOf_47 rfl <| rn_isub (np := 49) F dX2_neutralOf_48 rfl <| rn_iret F Rr dX2_neutralOf_49 ?_
  · exact rI (by simp only [ntC, ntF, Nat.zero_mul, Nat.zero_add, Nat.one_mul]) rfl
set_option maxRecDepth 20000 in
theorem l_X2_griefNow {X : XxT} {post : Option Value → HpT → Prop} (hF : Full X.1) (F : FxT X cX2_griefNow RX2 2) (Rr : RxT X (some .int) post) (hL : X.2.2.2.2.2.2.2.2.2.2.2.2.2.1 = 3) {h : HpT} (hp : post (some (.int (grC h))) h) : ∀ (k : Nat) (i : Nat), 6 - i < k → i ≤ 6 → rn X 4 [(0, .ref (gad X.1 1)), (1, .int (gsum (h 9) (ntC h) i)), (2, .int (nI i))] [] h := by
  intro k
  induction k with
  | zero => intro i hk; exact absurd hk (Nat.not_lt_zero _)
  | succ k ih =>
    intro i hk hi
    refine rn_iload_n (np := 5) F dX2_griefNow_4 rfl rfl <| rn_bipush (np := 7) (v := 6) F dX2_griefNow_5 rfl rfl <| rn_Nge (tg := 31) (np := 10) (b := 6) F dX2_griefNow_7 rfl rfl rfl rfl (by omega) (fun c7 => rn_iload_n (np := 32) F dX2_griefNow_31 rfl rfl <| rn_iret F Rr dX2_griefNow_32 ?_) (fun c7 => rn_iload_n (np := 11) F dX2_griefNow_10 rfl rfl <| rn_aload_n (np := 12) F dX2_griefNow_11 rfl rfl <| rn_getr (np := 15) F dX2_griefNow_12 rfl fF_X2_33 (fs hF rfl rfl) rfl <| rn_iload_n (np := 16) F dX2_griefNow_15 rfl rfl <| rn_ialdN (np := 17) F dX2_griefNow_16 rfl (fs hF rfl rfl) rfl (by omega) <| rn_aload_n (np := 18) F dX2_griefNow_17 rfl rfl <| rn_iload_n (np := 19) F dX2_griefNow_18 rfl rfl <| rn_cV1i (np := 22) F dX2_griefNow_19 rfl cv_X2_neutralOf wM_X2_93 (fs hF rfl rfl) rfl (c_X2_neutralOf hF (by omega)) (Nat.le_of_ble_eq_true rfl) (Nat.le_of_ble_eq_true rfl) <| rn_imul (np := 23) F dX2_griefNow_22 rfl <| rn_iadd (np := 24) F dX2_griefNow_23 rfl <| rn_istore_n (np := 25) F dX2_griefNow_24 rfl hL rfl <| rn_iincN (np := 28) F dX2_griefNow_25 rfl rfl hL rfl <| rn_goto (np := 4) F dX2_griefNow_28 rfl <| ?_)
    · rw [show i = 6 by omega]; exact hp
    · exact ih (i + 1) (by omega) (by omega)
set_option maxRecDepth 20000 in
theorem c_X2_griefNow {G : GxT} (hF : Full G) {h : HpT}   : mci G yX2_griefNow cX2_griefNow 3 (some .int) 2 [.ref (gad G 1)] h (grC h) (h) := by
  refine mc_of (by decide) (Nat.le_of_ble_eq_true rfl) (fun X hG F Rr hL => ?_)
  subst hG
  have F : FxT X cX2_griefNow RX2 2 := F
  show rn X 0 [(0, .ref (gad X.1 1))] [] h
  refine rn_iconst (np := 1) (v := 0) F dX2_griefNow_0 rfl rfl <| rn_istore_n (np := 2) F dX2_griefNow_1 rfl hL rfl <| rn_iconst (np := 3) (v := 0) F dX2_griefNow_2 rfl rfl <| rn_istore_n (np := 4) F dX2_griefNow_3 rfl hL rfl <| ?_
  exact l_X2_griefNow hF F Rr hL ⟨rfl, rfl⟩ 7 0 (by omega) (by omega)
set_option maxRecDepth 20000 in
theorem l_X2_addLoads {X : XxT} {post : Option Value → HpT → Prop} (hF : Full X.1) (F : FxT X cX2_addLoads RX2 1) (Rr : RxT X none post) (hL : X.2.2.2.2.2.2.2.2.2.2.2.2.2.1 = 4) {h : HpT} {i p a : Nat} {tm : Int32} (hi : i < 9) (hpp : p < 3) (e4 : h 4 i = nI p) (ha : a < 6) (e2 : h 2 i = nI a) (hp : post none (va_up h 10 (alF (h 10) p (fun t => tm * tkV (h 2 i) (h 3 i) t) 6))) : ∀ (k : Nat) (t : Nat), 6 - t < k → t ≤ 6 → rn X 2 [(0, .ref (gad X.1 1)), (1, .int (nI i)), (2, .int tm), (3, .int (nI t))] [] (va_up h 10 (alF (h 10) p (fun t => tm * tkV (h 2 i) (h 3 i) t) t)) := by
  intro k
  induction k with
  | zero => intro t hk; exact absurd hk (Nat.not_lt_zero _)
  | succ k ih =>
    intro t hk ht
    refine rn_iload_n (np := 3) F dX2_addLoads_2 rfl rfl <| rn_bipush (np := 5) (v := 6) F dX2_addLoads_3 rfl rfl <| rn_Nge (tg := 41) (np := 8) (b := 6) F dX2_addLoads_5 rfl rfl rfl rfl (by omega) (fun c5 => rn_vret F Rr dX2_addLoads_41 ?_) (fun c5 => rn_aload_n (np := 9) F dX2_addLoads_8 rfl rfl <| rn_getr (np := 12) F dX2_addLoads_9 rfl fF_X2_36 (fs hF rfl rfl) rfl <| rn_aload_n (np := 13) F dX2_addLoads_12 rfl rfl <| rn_getr (np := 16) F dX2_addLoads_13 rfl fF_X2_18 (fs hF rfl rfl) rfl <| rn_iload_n (np := 17) F dX2_addLoads_16 rfl rfl <| rn_ialdE (np := 18) F dX2_addLoads_17 rfl (fs hF rfl rfl) rfl (by omega) e4 <| rn_bipush (np := 20) (v := 6) F dX2_addLoads_18 rfl rfl <| rn_imul (np := 21) F dX2_addLoads_20 rfl <| rn_iload_n (np := 22) F dX2_addLoads_21 rfl rfl <| rn_iadd (np := 23) F dX2_addLoads_22 rfl <| rn_dup2 (np := 24) F dX2_addLoads_23 rfl rfl rfl <| rn_ialdN (np := 25) F dX2_addLoads_24 rfl (fs hF rfl rfl) (ix6 p t) (by omega) <| rn_iload_n (np := 26) F dX2_addLoads_25 rfl rfl <| rn_aload_n (np := 27) F dX2_addLoads_26 rfl rfl <| rn_iload_n (np := 28) F dX2_addLoads_27 rfl rfl <| rn_iload_n (np := 29) F dX2_addLoads_28 rfl rfl <| rn_cV2i (np := 32) F dX2_addLoads_29 rfl cv_X2_takenBy wM_X2_65 (fs hF rfl rfl) rfl (c_X2_takenBy hF hi (by omega) ha e2) (Nat.le_of_ble_eq_true rfl) (Nat.le_of_ble_eq_true rfl) <| rn_imul (np := 33) F dX2_addLoads_32 rfl <| rn_iadd (np := 34) F dX2_addLoads_33 rfl <| rn_iastN (np := 35) F dX2_addLoads_34 rfl (fs hF rfl rfl) (ix6 p t) (by omega) <| rn_iincN (np := 38) F dX2_addLoads_35 rfl rfl hL rfl <| rn_goto (np := 2) F dX2_addLoads_38 rfl <| ?_)
    · rw [show t = 6 by omega]; exact hp
    · exact (al_step h (h 10) p t (fun t => tm * tkV (h 2 i) (h 3 i) t)) ▸ ih (t + 1) (by omega) (by omega)
set_option maxRecDepth 20000 in
theorem c_X2_addLoads {G : GxT} (hF : Full G) {h : HpT} {i p a : Nat} {tm : Int32} (hi : i < 9) (hpp : p < 3) (e4 : h 4 i = nI p) (ha : a < 6) (e2 : h 2 i = nI a) : mcv G yX2_addLoads cX2_addLoads 4 none 1 [.ref (gad G 1), .int (nI i), .int tm] h (va_up h 10 (alF (h 10) p (fun t => tm * tkV (h 2 i) (h 3 i) t) 6)) := by
  refine mc_of (by decide) (Nat.le_of_ble_eq_true rfl) (fun X hG F Rr hL => ?_)
  subst hG
  have F : FxT X cX2_addLoads RX2 1 := F
  show rn X 0 [(0, .ref (gad X.1 1)), (1, .int (nI i)), (2, .int tm)] [] h
  refine rn_iconst (np := 1) (v := 0) F dX2_addLoads_0 rfl rfl <| rn_istore_n (np := 2) F dX2_addLoads_1 rfl hL rfl <| ?_
  have e : va_up h 10 (alF (h 10) p (fun t => tm * tkV (h 2 i) (h 3 i) t) 0) = h := by rw [al_0, up_id]
  have := l_X2_addLoads (h := h) hF F Rr hL hi hpp e4 ha e2 ⟨rfl, rfl⟩ 7 0 (by omega) (by omega)
  rw [e] at this
  exact this
