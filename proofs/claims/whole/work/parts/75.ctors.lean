theorem gF_X0_9 : FgT RX0 9 0 0 (tyX0 0) true := ⟨RX0, TX0, 14, tyX0, rfl, wU_X0, by decide, wF_X0_9, tyX0_ok, nmX0, rfl, tyX0_ok 0 (by decide), rfl⟩
theorem gF_X0_15 : FgT RX0 15 0 1 (tyX0 1) true := ⟨RX0, TX0, 14, tyX0, rfl, wU_X0, by decide, wF_X0_15, tyX0_ok, nmX0, rfl, tyX0_ok 1 (by decide), rfl⟩
theorem gF_X0_18 : FgT RX0 18 0 4 (tyX0 4) true := ⟨RX0, TX0, 14, tyX0, rfl, wU_X0, by decide, wF_X0_18, tyX0_ok, nmX0, rfl, tyX0_ok 4 (by decide), rfl⟩
theorem gF_X0_21 : FgT RX0 21 0 5 (tyX0 5) true := ⟨RX0, TX0, 14, tyX0, rfl, wU_X0, by decide, wF_X0_21, tyX0_ok, nmX0, rfl, tyX0_ok 5 (by decide), rfl⟩
theorem gF_X0_24 : FgT RX0 24 0 6 (tyX0 6) true := ⟨RX0, TX0, 14, tyX0, rfl, wU_X0, by decide, wF_X0_24, tyX0_ok, nmX0, rfl, tyX0_ok 6 (by decide), rfl⟩
theorem gF_X0_27 : FgT RX0 27 0 7 (tyX0 7) true := ⟨RX0, TX0, 14, tyX0, rfl, wU_X0, by decide, wF_X0_27, tyX0_ok, nmX0, rfl, tyX0_ok 7 (by decide), rfl⟩
theorem gF_X0_30 : FgT RX0 30 0 8 (tyX0 8) true := ⟨RX0, TX0, 14, tyX0, rfl, wU_X0, by decide, wF_X0_30, tyX0_ok, nmX0, rfl, tyX0_ok 8 (by decide), rfl⟩
theorem gF_X0_33 : FgT RX0 33 0 9 (tyX0 9) true := ⟨RX0, TX0, 14, tyX0, rfl, wU_X0, by decide, wF_X0_33, tyX0_ok, nmX0, rfl, tyX0_ok 9 (by decide), rfl⟩
theorem gF_X0_36 : FgT RX0 36 0 3 (tyX0 3) true := ⟨RX0, TX0, 14, tyX0, rfl, wU_X0, by decide, wF_X0_36, tyX0_ok, nmX0, rfl, tyX0_ok 3 (by decide), rfl⟩
theorem gF_X1_9 : FgT RX1 9 1 5 (tyX1 5) true := ⟨RX1, TX1, 6, tyX1, rfl, wU_X1, by decide, wF_X1_9, tyX1_ok, nmX1, rfl, tyX1_ok 5 (by decide), rfl⟩
theorem gF_X2_9 : FgT RX2 9 2 0 (tyX2 0) true := ⟨RX2, TX2, 12, tyX2, rfl, wU_X2, by decide, wF_X2_9, tyX2_ok, nmX2, rfl, tyX2_ok 0 (by decide), rfl⟩
theorem gF_X2_15 : FgT RX2 15 2 1 (tyX2 1) true := ⟨RX2, TX2, 12, tyX2, rfl, wU_X2, by decide, wF_X2_15, tyX2_ok, nmX2, rfl, tyX2_ok 1 (by decide), rfl⟩
theorem gF_X2_18 : FgT RX2 18 2 2 (tyX2 2) true := ⟨RX2, TX2, 12, tyX2, rfl, wU_X2, by decide, wF_X2_18, tyX2_ok, nmX2, rfl, tyX2_ok 2 (by decide), rfl⟩
theorem gF_X2_21 : FgT RX2 21 2 3 (tyX2 3) true := ⟨RX2, TX2, 12, tyX2, rfl, wU_X2, by decide, wF_X2_21, tyX2_ok, nmX2, rfl, tyX2_ok 3 (by decide), rfl⟩
theorem gF_X2_24 : FgT RX2 24 2 4 (tyX2 4) true := ⟨RX2, TX2, 12, tyX2, rfl, wU_X2, by decide, wF_X2_24, tyX2_ok, nmX2, rfl, tyX2_ok 4 (by decide), rfl⟩
theorem gF_X2_27 : FgT RX2 27 2 5 (tyX2 5) true := ⟨RX2, TX2, 12, tyX2, rfl, wU_X2, by decide, wF_X2_27, tyX2_ok, nmX2, rfl, tyX2_ok 5 (by decide), rfl⟩
theorem gF_X2_30 : FgT RX2 30 2 6 (tyX2 6) true := ⟨RX2, TX2, 12, tyX2, rfl, wU_X2, by decide, wF_X2_30, tyX2_ok, nmX2, rfl, tyX2_ok 6 (by decide), rfl⟩
theorem gF_X2_33 : FgT RX2 33 2 7 (tyX2 7) true := ⟨RX2, TX2, 12, tyX2, rfl, wU_X2, by decide, wF_X2_33, tyX2_ok, nmX2, rfl, tyX2_ok 7 (by decide), rfl⟩
theorem gF_X2_36 : FgT RX2 36 2 8 (tyX2 8) true := ⟨RX2, TX2, 12, tyX2, rfl, wU_X2, by decide, wF_X2_36, tyX2_ok, nmX2, rfl, tyX2_ok 8 (by decide), rfl⟩
theorem gF_X3_9 : FgT RX3 9 3 1 (tyX3 1) true := ⟨RX3, TX3, 2, tyX3, rfl, wU_X3, by decide, wF_X3_9, tyX3_ok, nmX3, rfl, tyX3_ok 1 (by decide), rfl⟩
theorem gF_X4_10 : FgT RX4 10 4 0 (tyX4 0) true := ⟨RX4, TX4, 7, tyX4, rfl, wU_X4, by decide, wF_X4_10, tyX4_ok, nmX4, rfl, tyX4_ok 0 (by decide), rfl⟩
theorem gF_X4_21 : FgT RX4 21 4 1 (tyX4 1) true := ⟨RX4, TX4, 7, tyX4, rfl, wU_X4, by decide, wF_X4_21, tyX4_ok, nmX4, rfl, tyX4_ok 1 (by decide), rfl⟩
theorem gF_X4_28 : FgT RX4 28 4 2 (tyX4 2) true := ⟨RX4, TX4, 7, tyX4, rfl, wU_X4, by decide, wF_X4_28, tyX4_ok, nmX4, rfl, tyX4_ok 2 (by decide), rfl⟩
theorem gF_X4_35 : FgT RX4 35 4 3 (tyX4 3) true := ⟨RX4, TX4, 7, tyX4, rfl, wU_X4, by decide, wF_X4_35, tyX4_ok, nmX4, rfl, tyX4_ok 3 (by decide), rfl⟩
theorem gF_X5_7 : FgT RX5 7 5 0 (tyX5 0) true := ⟨RX5, TX5, 21, tyX5, rfl, wU_X5, by decide, wF_X5_7, tyX5_ok, nmX5, rfl, tyX5_ok 0 (by decide), rfl⟩
theorem gF_X5_13 : FgT RX5 13 5 1 (tyX5 1) true := ⟨RX5, TX5, 21, tyX5, rfl, wU_X5, by decide, wF_X5_13, tyX5_ok, nmX5, rfl, tyX5_ok 1 (by decide), rfl⟩
theorem gF_X5_16 : FgT RX5 16 5 2 (tyX5 2) true := ⟨RX5, TX5, 21, tyX5, rfl, wU_X5, by decide, wF_X5_16, tyX5_ok, nmX5, rfl, tyX5_ok 2 (by decide), rfl⟩
theorem gF_X5_19 : FgT RX5 19 5 3 (tyX5 3) true := ⟨RX5, TX5, 21, tyX5, rfl, wU_X5, by decide, wF_X5_19, tyX5_ok, nmX5, rfl, tyX5_ok 3 (by decide), rfl⟩
theorem gF_X5_22 : FgT RX5 22 5 5 (tyX5 5) true := ⟨RX5, TX5, 21, tyX5, rfl, wU_X5, by decide, wF_X5_22, tyX5_ok, nmX5, rfl, tyX5_ok 5 (by decide), rfl⟩
theorem gF_X5_25 : FgT RX5 25 5 6 (tyX5 6) false := ⟨RX5, TX5, 21, tyX5, rfl, wU_X5, by decide, wF_X5_25, tyX5_ok, nmX5, rfl, tyX5_ok 6 (by decide), rfl⟩
theorem gF_X5_29 : FgT RX5 29 5 7 (tyX5 7) true := ⟨RX5, TX5, 21, tyX5, rfl, wU_X5, by decide, wF_X5_29, tyX5_ok, nmX5, rfl, tyX5_ok 7 (by decide), rfl⟩
theorem gF_X5_32 : FgT RX5 32 5 9 (tyX5 9) true := ⟨RX5, TX5, 21, tyX5, rfl, wU_X5, by decide, wF_X5_32, tyX5_ok, nmX5, rfl, tyX5_ok 9 (by decide), rfl⟩
theorem gF_X5_35 : FgT RX5 35 5 11 (tyX5 11) true := ⟨RX5, TX5, 21, tyX5, rfl, wU_X5, by decide, wF_X5_35, tyX5_ok, nmX5, rfl, tyX5_ok 11 (by decide), rfl⟩
theorem gF_X5_38 : FgT RX5 38 5 12 (tyX5 12) true := ⟨RX5, TX5, 21, tyX5, rfl, wU_X5, by decide, wF_X5_38, tyX5_ok, nmX5, rfl, tyX5_ok 12 (by decide), rfl⟩
theorem gF_X5_41 : FgT RX5 41 5 13 (tyX5 13) true := ⟨RX5, TX5, 21, tyX5, rfl, wU_X5, by decide, wF_X5_41, tyX5_ok, nmX5, rfl, tyX5_ok 13 (by decide), rfl⟩
theorem gF_X5_44 : FgT RX5 44 5 14 (tyX5 14) true := ⟨RX5, TX5, 21, tyX5, rfl, wU_X5, by decide, wF_X5_44, tyX5_ok, nmX5, rfl, tyX5_ok 14 (by decide), rfl⟩
theorem gF_X5_47 : FgT RX5 47 5 15 (tyX5 15) true := ⟨RX5, TX5, 21, tyX5, rfl, wU_X5, by decide, wF_X5_47, tyX5_ok, nmX5, rfl, tyX5_ok 15 (by decide), rfl⟩
theorem gF_X5_50 : FgT RX5 50 5 16 (tyX5 16) true := ⟨RX5, TX5, 21, tyX5, rfl, wU_X5, by decide, wF_X5_50, tyX5_ok, nmX5, rfl, tyX5_ok 16 (by decide), rfl⟩
theorem gF_X5_53 : FgT RX5 53 5 20 (tyX5 20) true := ⟨RX5, TX5, 21, tyX5, rfl, wU_X5, by decide, wF_X5_53, tyX5_ok, nmX5, rfl, tyX5_ok 20 (by decide), rfl⟩
def SHS : ShT := fun k => match k with
  | 0 => .inr (2, [some 1, some 2, some 3, some 4, some 5, some 6, some 7, some 8, some 9, none, none, none])
  | 1 => .inl 9
  | 2 => .inl 9
  | 3 => .inl 9
  | 4 => .inl 9
  | 5 => .inl 9
  | 6 => .inl 6
  | 7 => .inl 6
  | 8 => .inl 6
  | _ => .inl 18
def SHL : ShT := fun k => match k with
  | 0 => .inr (0, [some 1, some 2, none, some 9, some 3, some 4, some 5, some 6, some 7, some 8, none, none, none, none])
  | 1 => .inl 10
  | 2 => .inl 10
  | 3 => .inl 9
  | 4 => .inl 54
  | 5 => .inl 81
  | 6 => .inl 27
  | 7 => .inl 18
  | _ => .inl 6
def SHM : ShT := fun k => match k with
  | 0 => .inr (5, [some 1, some 2, some 3, some 4, none, some 5, none, some 6, none, some 7, none, some 8, some 9, some 10, some 11, some 12, some 13, none, none, none, some 14])
  | 1 => .inl 9
  | 2 => .inl 9
  | 3 => .inl 9
  | 4 => .inl 9
  | 5 => .inl 6
  | 6 => .inl 12
  | 7 => .inl 72
  | 8 => .inl 3
  | 9 => .inl 54
  | 10 => .inl 18
  | 11 => .inl 9
  | 12 => .inl 90
  | 13 => .inl 10
  | _ => .inl 4
def zH : HpT := fun _ _ => 0
def hS0 : HpT := hs (va_up zH 8 (fillF (zH 8) 6 1)) 0 11 400
def hI : HpT := fun k => if k = 9 then fillF (fun _ => 0) 6 1 else if k = 1 then upd (fun _ => 0) 11 400 else fun _ => 0
def w6 : Nat → Int32 := upd (upd (upd (upd (upd (upd (fun _ => 0) 0 1) 1 1) 2 1) 3 1) 4 1) 5 1
def hM : HpT := fun k => if k = 5 then w6 else if k = 0 then upd (fun _ => 0) 6 400 else fun _ => 0
def pS (cA : ClassId) (a : Nat) (w : va_W) : Prop := ∃ ad : Nat → Nat, ad 0 = a ∧ w = wl 10 SHS ad cA hS0
def pL (cA : ClassId) (a t : Nat) (w : va_W) : Prop := ∃ ad : Nat → Nat, ad 0 = a ∧ ad 9 = t ∧ w = wl 9 SHL ad cA zH
def pT (a t : Nat) (w : va_W) : Prop := w = [(a, .inr (1, [.int 0, .int 0, .int 0, .int 0, .int 0, .ref t]))]
def pU (cA : ClassId) (a : Nat) (w : va_W) : Prop := ∃ b : Nat, w = [(a, .inr (3, [.int 0, .ref b])), (b, .inl (cA, 8, .inl (fun _ => 0)))]
def pP (cA : ClassId) (a : Nat) (w : va_W) : Prop := ∃ ad : Nat → Nat, ad 0 = a ∧ w = wl 23 SHF ad cA hI
def pM (cA : ClassId) (a : Nat) (w : va_W) : Prop := ∃ ad : Nat → Nat, ad 0 = a ∧ w = wl 15 SHM ad cA hM
set_option maxRecDepth 20000 in
theorem lq_fill {X : XxT} {post : Option Value → HpT → Prop} (F : FxT X cJ7_fill_53178 RJ7 0) (Rr : RxT X none post) (hL : X.2.2.2.2.2.2.2.2.2.2.2.2.2.1 = 4) {h : HpT} {q nq : Nat} {v : Int32} (hq : shp X.1 q (.inl nq)) (hb : nq < 2147483648) (hp : post none (va_up h q (fillF (h q) nq v))) : ∀ (k : Nat) (i : Nat), nq - i < k → i ≤ nq → rn X 5 [(0, .ref (gad X.1 q)), (1, .int v), (2, .int (nI i)), (3, .int (nI nq))] [] (va_up h q (fillF (h q) i v)) := by
  intro k
  induction k with
  | zero => intro i hk; exact absurd hk (Nat.not_lt_zero _)
  | succ k ih =>
    intro i hk hi
    refine rn_iload_n (np := 6) F dJ7_fill_53178_5 rfl rfl <| rn_iload_n (np := 7) F dJ7_fill_53178_6 rfl rfl <| rn_Nge (tg := 20) (np := 10) F dJ7_fill_53178_7 rfl rfl rfl rfl (by omega) (fun c7 => rn_vret F Rr dJ7_fill_53178_20 ?_) (fun c7 => rn_aload_n (np := 11) F dJ7_fill_53178_10 rfl rfl <| rn_iload_n (np := 12) F dJ7_fill_53178_11 rfl rfl <| rn_iload_n (np := 13) F dJ7_fill_53178_12 rfl rfl <| rn_iastN (np := 14) F dJ7_fill_53178_13 rfl hq rfl (by omega) <| rn_iincN (np := 17) F dJ7_fill_53178_14 rfl rfl hL rfl <| rn_goto (np := 5) F dJ7_fill_53178_17 rfl <| ?_)
    · rw [show i = nq by omega]; exact hp
    · rw [fill_step]; exact ih (i + 1) (by omega) (by omega)
set_option maxRecDepth 20000 in
theorem cq_fill {G : GxT} {h : HpT} {q nq : Nat} {v : Int32} (hq : shp G q (.inl nq)) (hb : nq < 2147483648) : mcv G yJ7_fill_53178 cJ7_fill_53178 4 none 0 [.ref (gad G q), .int v] h (va_up h q (fillF (h q) nq v)) := by
  refine mc_of (by decide) (Nat.le_of_ble_eq_true rfl) (fun X hG F Rr hL => ?_)
  subst hG
  have F : FxT X cJ7_fill_53178 RJ7 0 := F
  show rn X 0 [(0, .ref (gad X.1 q)), (1, .int v)] [] h
  refine rn_iconst (np := 1) (v := 0) F dJ7_fill_53178_0 rfl rfl <| rn_istore_n (np := 2) F dJ7_fill_53178_1 rfl hL rfl <| rn_aload_n (np := 3) F dJ7_fill_53178_2 rfl rfl <| rn_alen (np := 4) (v := nI nq) F dJ7_fill_53178_3 rfl hq rfl <| rn_istore_n (np := 5) F dJ7_fill_53178_4 rfl hL rfl <| ?_
  have e : va_up h q (fillF (h q) 0 v) = h := by rw [fill_0, up_id]
  have := lq_fill (h := h) (v := v) F Rr hL hq hb ⟨rfl, rfl⟩ (nq + 1) 0 (by omega) (by omega)
  rw [e] at this
  exact this

set_option maxRecDepth 20000 in
theorem cq_reset {G : GxT} {h : HpT} (h0 : shp G 0 (SHS 0)) (h8 : shp G 8 (.inl 6)) : mcv G yX2_resetLimits cX2_resetLimits 1 none 1 [.ref (gad G 0)] h (hs (va_up h 8 (fillF (h 8) 6 1)) 0 11 400) := by
  refine mc_of (by decide) (Nat.le_of_ble_eq_true rfl) (fun X hG F Rr hL => ?_)
  subst hG
  have F : FxT X cX2_resetLimits RX2 1 := F
  show rn X 0 [(0, .ref (gad X.1 0))] [] h
  refine rn_aload_n (np := 1) F dX2_resetLimits_0 rfl rfl <| rn_getr (np := 4) F dX2_resetLimits_1 rfl fF_X2_33 h0 rfl <| rn_iconst (np := 5) (v := 1) F dX2_resetLimits_4 rfl rfl <| rn_cS2v (np := 8) F dX2_resetLimits_5 rfl cs_J7_fill_53178 wM_X2_42 (cq_fill h8 (by decide)) (Nat.le_of_ble_eq_true rfl) (Nat.le_of_ble_eq_true rfl) <| rn_aload_n (np := 9) F dX2_resetLimits_8 rfl rfl <| rn_sipush (np := 12) (v := 400) F dX2_resetLimits_9 rfl rfl <| rn_putf (np := 15) F dX2_resetLimits_12 rfl fP_X2_48 h0 rfl rfl rfl <| rn_vret F Rr dX2_resetLimits_15 ?_
  · exact ⟨rfl, rfl⟩
set_option maxRecDepth 40000 in
set_option maxHeartbeats 4000000 in
theorem k_X2_init {l : Launch} {cA : ClassId} {D : va_G} {tT a : Nat} : kc l cA D tT yX2_init cX2_init 1 3 9 81 [.ref a] [(a, .inr (2, [.null, .null, .null, .null, .null, .null, .null, .null, .null, .int 0, .int 0, .int 0]))] (pS cA a) := by
  refine kc_of (by decide) rfl (Nat.le_of_ble_eq_true rfl) (fun Y e1 e2 e3 e4 F Ry hL => ?_)
  subst e1 e2 e3 e4
  have F : FyT Y cX2_init RX2 3 9 81 := F
  show cn Y 0 [(0, .ref a)] [] _ 0 0
  refine cn_aload_n (np := 1) F dX2_init_0 rfl rfl ?_
  refine cn_obj (np := 4) F dX2_init_1 rfl wM_X2_3 (by omega) (Nat.le_of_ble_eq_true rfl) ?_
  refine cn_aload_n (np := 5) F dX2_init_4 rfl rfl ?_
  refine cn_bipush (np := 7) (v := 9) F dX2_init_5 rfl rfl ?_
  refine cn_newa (np := 9) (N := 9) F dX2_init_7 rfl (by decide) rfl (by decide) (Nat.le_of_ble_eq_true rfl) (Nat.le_of_ble_eq_true rfl) (fun q7 => ?_)
  refine cn_wsE (ws2 := [(a, .inr (2, [.null, .null, .null, .null, .null, .null, .null, .null, .null, .int 0, .int 0, .int 0])), (q7, .inl (Y.2.1, 9, .inl (fun _ => 0)))]) rfl ?_
  refine cn_putF (np := 12) (q0 := 0) F Ry dX2_init_9 rfl gF_X2_9 rfl rfl rfl (Nat.le_of_ble_eq_true rfl) ?_
  refine cn_wsE (ws2 := [(a, .inr (2, [.ref q7, .null, .null, .null, .null, .null, .null, .null, .null, .int 0, .int 0, .int 0])), (q7, .inl (Y.2.1, 9, .inl (fun _ => 0)))]) rfl ?_
  refine cn_aload_n (np := 13) F dX2_init_12 rfl rfl ?_
  refine cn_bipush (np := 15) (v := 9) F dX2_init_13 rfl rfl ?_
  refine cn_newa (np := 17) (N := 9) F dX2_init_15 rfl (by decide) rfl (by decide) (Nat.le_of_ble_eq_true rfl) (Nat.le_of_ble_eq_true rfl) (fun q15 => ?_)
  refine cn_wsE (ws2 := [(a, .inr (2, [.ref q7, .null, .null, .null, .null, .null, .null, .null, .null, .int 0, .int 0, .int 0])), (q7, .inl (Y.2.1, 9, .inl (fun _ => 0))), (q15, .inl (Y.2.1, 9, .inl (fun _ => 0)))]) rfl ?_
  refine cn_putF (np := 20) (q0 := 0) F Ry dX2_init_17 rfl gF_X2_15 rfl rfl rfl (Nat.le_of_ble_eq_true rfl) ?_
  refine cn_wsE (ws2 := [(a, .inr (2, [.ref q7, .ref q15, .null, .null, .null, .null, .null, .null, .null, .int 0, .int 0, .int 0])), (q7, .inl (Y.2.1, 9, .inl (fun _ => 0))), (q15, .inl (Y.2.1, 9, .inl (fun _ => 0)))]) rfl ?_
  refine cn_aload_n (np := 21) F dX2_init_20 rfl rfl ?_
  refine cn_bipush (np := 23) (v := 9) F dX2_init_21 rfl rfl ?_
  refine cn_newa (np := 25) (N := 9) F dX2_init_23 rfl (by decide) rfl (by decide) (Nat.le_of_ble_eq_true rfl) (Nat.le_of_ble_eq_true rfl) (fun q23 => ?_)
  refine cn_wsE (ws2 := [(a, .inr (2, [.ref q7, .ref q15, .null, .null, .null, .null, .null, .null, .null, .int 0, .int 0, .int 0])), (q7, .inl (Y.2.1, 9, .inl (fun _ => 0))), (q15, .inl (Y.2.1, 9, .inl (fun _ => 0))), (q23, .inl (Y.2.1, 9, .inl (fun _ => 0)))]) rfl ?_
  refine cn_putF (np := 28) (q0 := 0) F Ry dX2_init_25 rfl gF_X2_18 rfl rfl rfl (Nat.le_of_ble_eq_true rfl) ?_
  refine cn_wsE (ws2 := [(a, .inr (2, [.ref q7, .ref q15, .ref q23, .null, .null, .null, .null, .null, .null, .int 0, .int 0, .int 0])), (q7, .inl (Y.2.1, 9, .inl (fun _ => 0))), (q15, .inl (Y.2.1, 9, .inl (fun _ => 0))), (q23, .inl (Y.2.1, 9, .inl (fun _ => 0)))]) rfl ?_
  refine cn_aload_n (np := 29) F dX2_init_28 rfl rfl ?_
  refine cn_bipush (np := 31) (v := 9) F dX2_init_29 rfl rfl ?_
  refine cn_newa (np := 33) (N := 9) F dX2_init_31 rfl (by decide) rfl (by decide) (Nat.le_of_ble_eq_true rfl) (Nat.le_of_ble_eq_true rfl) (fun q31 => ?_)
  refine cn_wsE (ws2 := [(a, .inr (2, [.ref q7, .ref q15, .ref q23, .null, .null, .null, .null, .null, .null, .int 0, .int 0, .int 0])), (q7, .inl (Y.2.1, 9, .inl (fun _ => 0))), (q15, .inl (Y.2.1, 9, .inl (fun _ => 0))), (q23, .inl (Y.2.1, 9, .inl (fun _ => 0))), (q31, .inl (Y.2.1, 9, .inl (fun _ => 0)))]) rfl ?_
  refine cn_putF (np := 36) (q0 := 0) F Ry dX2_init_33 rfl gF_X2_21 rfl rfl rfl (Nat.le_of_ble_eq_true rfl) ?_
  refine cn_wsE (ws2 := [(a, .inr (2, [.ref q7, .ref q15, .ref q23, .ref q31, .null, .null, .null, .null, .null, .int 0, .int 0, .int 0])), (q7, .inl (Y.2.1, 9, .inl (fun _ => 0))), (q15, .inl (Y.2.1, 9, .inl (fun _ => 0))), (q23, .inl (Y.2.1, 9, .inl (fun _ => 0))), (q31, .inl (Y.2.1, 9, .inl (fun _ => 0)))]) rfl ?_
  refine cn_aload_n (np := 37) F dX2_init_36 rfl rfl ?_
  refine cn_bipush (np := 39) (v := 9) F dX2_init_37 rfl rfl ?_
  refine cn_newa (np := 41) (N := 9) F dX2_init_39 rfl (by decide) rfl (by decide) (Nat.le_of_ble_eq_true rfl) (Nat.le_of_ble_eq_true rfl) (fun q39 => ?_)
  refine cn_wsE (ws2 := [(a, .inr (2, [.ref q7, .ref q15, .ref q23, .ref q31, .null, .null, .null, .null, .null, .int 0, .int 0, .int 0])), (q7, .inl (Y.2.1, 9, .inl (fun _ => 0))), (q15, .inl (Y.2.1, 9, .inl (fun _ => 0))), (q23, .inl (Y.2.1, 9, .inl (fun _ => 0))), (q31, .inl (Y.2.1, 9, .inl (fun _ => 0))), (q39, .inl (Y.2.1, 9, .inl (fun _ => 0)))]) rfl ?_
  refine cn_putF (np := 44) (q0 := 0) F Ry dX2_init_41 rfl gF_X2_24 rfl rfl rfl (Nat.le_of_ble_eq_true rfl) ?_
  refine cn_wsE (ws2 := [(a, .inr (2, [.ref q7, .ref q15, .ref q23, .ref q31, .ref q39, .null, .null, .null, .null, .int 0, .int 0, .int 0])), (q7, .inl (Y.2.1, 9, .inl (fun _ => 0))), (q15, .inl (Y.2.1, 9, .inl (fun _ => 0))), (q23, .inl (Y.2.1, 9, .inl (fun _ => 0))), (q31, .inl (Y.2.1, 9, .inl (fun _ => 0))), (q39, .inl (Y.2.1, 9, .inl (fun _ => 0)))]) rfl ?_
  refine cn_aload_n (np := 45) F dX2_init_44 rfl rfl ?_
  refine cn_bipush (np := 47) (v := 6) F dX2_init_45 rfl rfl ?_
  refine cn_newa (np := 49) (N := 6) F dX2_init_47 rfl (by decide) rfl (by decide) (Nat.le_of_ble_eq_true rfl) (Nat.le_of_ble_eq_true rfl) (fun q47 => ?_)
  refine cn_wsE (ws2 := [(a, .inr (2, [.ref q7, .ref q15, .ref q23, .ref q31, .ref q39, .null, .null, .null, .null, .int 0, .int 0, .int 0])), (q7, .inl (Y.2.1, 9, .inl (fun _ => 0))), (q15, .inl (Y.2.1, 9, .inl (fun _ => 0))), (q23, .inl (Y.2.1, 9, .inl (fun _ => 0))), (q31, .inl (Y.2.1, 9, .inl (fun _ => 0))), (q39, .inl (Y.2.1, 9, .inl (fun _ => 0))), (q47, .inl (Y.2.1, 6, .inl (fun _ => 0)))]) rfl ?_
  refine cn_putF (np := 52) (q0 := 0) F Ry dX2_init_49 rfl gF_X2_27 rfl rfl rfl (Nat.le_of_ble_eq_true rfl) ?_
  refine cn_wsE (ws2 := [(a, .inr (2, [.ref q7, .ref q15, .ref q23, .ref q31, .ref q39, .ref q47, .null, .null, .null, .int 0, .int 0, .int 0])), (q7, .inl (Y.2.1, 9, .inl (fun _ => 0))), (q15, .inl (Y.2.1, 9, .inl (fun _ => 0))), (q23, .inl (Y.2.1, 9, .inl (fun _ => 0))), (q31, .inl (Y.2.1, 9, .inl (fun _ => 0))), (q39, .inl (Y.2.1, 9, .inl (fun _ => 0))), (q47, .inl (Y.2.1, 6, .inl (fun _ => 0)))]) rfl ?_
  refine cn_aload_n (np := 53) F dX2_init_52 rfl rfl ?_
  refine cn_bipush (np := 55) (v := 6) F dX2_init_53 rfl rfl ?_
  refine cn_newa (np := 57) (N := 6) F dX2_init_55 rfl (by decide) rfl (by decide) (Nat.le_of_ble_eq_true rfl) (Nat.le_of_ble_eq_true rfl) (fun q55 => ?_)
  refine cn_wsE (ws2 := [(a, .inr (2, [.ref q7, .ref q15, .ref q23, .ref q31, .ref q39, .ref q47, .null, .null, .null, .int 0, .int 0, .int 0])), (q7, .inl (Y.2.1, 9, .inl (fun _ => 0))), (q15, .inl (Y.2.1, 9, .inl (fun _ => 0))), (q23, .inl (Y.2.1, 9, .inl (fun _ => 0))), (q31, .inl (Y.2.1, 9, .inl (fun _ => 0))), (q39, .inl (Y.2.1, 9, .inl (fun _ => 0))), (q47, .inl (Y.2.1, 6, .inl (fun _ => 0))), (q55, .inl (Y.2.1, 6, .inl (fun _ => 0)))]) rfl ?_
  refine cn_putF (np := 60) (q0 := 0) F Ry dX2_init_57 rfl gF_X2_30 rfl rfl rfl (Nat.le_of_ble_eq_true rfl) ?_
  refine cn_wsE (ws2 := [(a, .inr (2, [.ref q7, .ref q15, .ref q23, .ref q31, .ref q39, .ref q47, .ref q55, .null, .null, .int 0, .int 0, .int 0])), (q7, .inl (Y.2.1, 9, .inl (fun _ => 0))), (q15, .inl (Y.2.1, 9, .inl (fun _ => 0))), (q23, .inl (Y.2.1, 9, .inl (fun _ => 0))), (q31, .inl (Y.2.1, 9, .inl (fun _ => 0))), (q39, .inl (Y.2.1, 9, .inl (fun _ => 0))), (q47, .inl (Y.2.1, 6, .inl (fun _ => 0))), (q55, .inl (Y.2.1, 6, .inl (fun _ => 0)))]) rfl ?_
  refine cn_aload_n (np := 61) F dX2_init_60 rfl rfl ?_
  refine cn_bipush (np := 63) (v := 6) F dX2_init_61 rfl rfl ?_
  refine cn_newa (np := 65) (N := 6) F dX2_init_63 rfl (by decide) rfl (by decide) (Nat.le_of_ble_eq_true rfl) (Nat.le_of_ble_eq_true rfl) (fun q63 => ?_)
  refine cn_wsE (ws2 := [(a, .inr (2, [.ref q7, .ref q15, .ref q23, .ref q31, .ref q39, .ref q47, .ref q55, .null, .null, .int 0, .int 0, .int 0])), (q7, .inl (Y.2.1, 9, .inl (fun _ => 0))), (q15, .inl (Y.2.1, 9, .inl (fun _ => 0))), (q23, .inl (Y.2.1, 9, .inl (fun _ => 0))), (q31, .inl (Y.2.1, 9, .inl (fun _ => 0))), (q39, .inl (Y.2.1, 9, .inl (fun _ => 0))), (q47, .inl (Y.2.1, 6, .inl (fun _ => 0))), (q55, .inl (Y.2.1, 6, .inl (fun _ => 0))), (q63, .inl (Y.2.1, 6, .inl (fun _ => 0)))]) rfl ?_
  refine cn_putF (np := 68) (q0 := 0) F Ry dX2_init_65 rfl gF_X2_33 rfl rfl rfl (Nat.le_of_ble_eq_true rfl) ?_
  refine cn_wsE (ws2 := [(a, .inr (2, [.ref q7, .ref q15, .ref q23, .ref q31, .ref q39, .ref q47, .ref q55, .ref q63, .null, .int 0, .int 0, .int 0])), (q7, .inl (Y.2.1, 9, .inl (fun _ => 0))), (q15, .inl (Y.2.1, 9, .inl (fun _ => 0))), (q23, .inl (Y.2.1, 9, .inl (fun _ => 0))), (q31, .inl (Y.2.1, 9, .inl (fun _ => 0))), (q39, .inl (Y.2.1, 9, .inl (fun _ => 0))), (q47, .inl (Y.2.1, 6, .inl (fun _ => 0))), (q55, .inl (Y.2.1, 6, .inl (fun _ => 0))), (q63, .inl (Y.2.1, 6, .inl (fun _ => 0)))]) rfl ?_
  refine cn_aload_n (np := 69) F dX2_init_68 rfl rfl ?_
  refine cn_bipush (np := 71) (v := 18) F dX2_init_69 rfl rfl ?_
  refine cn_newa (np := 73) (N := 18) F dX2_init_71 rfl (by decide) rfl (by decide) (Nat.le_of_ble_eq_true rfl) (Nat.le_of_ble_eq_true rfl) (fun q71 => ?_)
  refine cn_wsE (ws2 := [(a, .inr (2, [.ref q7, .ref q15, .ref q23, .ref q31, .ref q39, .ref q47, .ref q55, .ref q63, .null, .int 0, .int 0, .int 0])), (q7, .inl (Y.2.1, 9, .inl (fun _ => 0))), (q15, .inl (Y.2.1, 9, .inl (fun _ => 0))), (q23, .inl (Y.2.1, 9, .inl (fun _ => 0))), (q31, .inl (Y.2.1, 9, .inl (fun _ => 0))), (q39, .inl (Y.2.1, 9, .inl (fun _ => 0))), (q47, .inl (Y.2.1, 6, .inl (fun _ => 0))), (q55, .inl (Y.2.1, 6, .inl (fun _ => 0))), (q63, .inl (Y.2.1, 6, .inl (fun _ => 0))), (q71, .inl (Y.2.1, 18, .inl (fun _ => 0)))]) rfl ?_
  refine cn_putF (np := 76) (q0 := 0) F Ry dX2_init_73 rfl gF_X2_36 rfl rfl rfl (Nat.le_of_ble_eq_true rfl) ?_
  refine cn_wsE (ws2 := [(a, .inr (2, [.ref q7, .ref q15, .ref q23, .ref q31, .ref q39, .ref q47, .ref q55, .ref q63, .ref q71, .int 0, .int 0, .int 0])), (q7, .inl (Y.2.1, 9, .inl (fun _ => 0))), (q15, .inl (Y.2.1, 9, .inl (fun _ => 0))), (q23, .inl (Y.2.1, 9, .inl (fun _ => 0))), (q31, .inl (Y.2.1, 9, .inl (fun _ => 0))), (q39, .inl (Y.2.1, 9, .inl (fun _ => 0))), (q47, .inl (Y.2.1, 6, .inl (fun _ => 0))), (q55, .inl (Y.2.1, 6, .inl (fun _ => 0))), (q63, .inl (Y.2.1, 6, .inl (fun _ => 0))), (q71, .inl (Y.2.1, 18, .inl (fun _ => 0)))]) rfl ?_
  refine ?_
  refine cn_aload_n (np := 77) F dX2_init_76 rfl rfl <| cn_rn (N := 10) (S := SHS) (ad := (fun k => [a, q7, q15, q23, q31, q39, q47, q55, q63, q71].getD k 0)) (h := zH) F rfl (Nat.le_of_ble_eq_true rfl) (Nat.le_of_ble_eq_true rfl) (fun X hG FX hLX hsX hAX back => ?_)
  have h0 : shp X.1 0 (SHS 0) := by rw [hG]; exact ⟨Nat.le_of_ble_eq_true rfl, rfl⟩
  have h8 : shp X.1 8 (.inl 6) := by rw [hG]; exact ⟨Nat.le_of_ble_eq_true rfl, rfl⟩
  have ha : gad X.1 0 = a := by rw [hG]; rfl
  have z := rn_cV0v (np := 80) (X := X) (q0 := 0) (lo := [(0, .ref a)]) (rest := []) FX dX2_init_77 rfl cv_X2_resetLimits wM_X2_39 h0 rfl (cq_reset (h := zH) h0 h8) (Nat.le_of_ble_eq_true rfl) (Nat.le_of_ble_eq_true rfl) (back _ _ _ _ (cn_vret F Ry dX2_init_80 (Nat.le_of_ble_eq_true rfl) (Nat.le_of_ble_eq_true rfl) ⟨_, rfl, rfl⟩))
  rw [ha] at z
  exact z
set_option maxRecDepth 40000 in
set_option maxHeartbeats 4000000 in
theorem k_X0_init {l : Launch} {cA : ClassId} {D : va_G} {tT a t : Nat} : kc l cA D tT yX0_init cX0_init 2 2 8 215 [.ref a, .ref t] [(a, .inr (0, [.null, .null, .int 0, .null, .null, .null, .null, .null, .null, .null, .int 0, .int 0, .int 0, .int 0]))] (pL cA a t) := by
  refine kc_of (by decide) rfl (Nat.le_of_ble_eq_true rfl) (fun Y e1 e2 e3 e4 F Ry hL => ?_)
  subst e1 e2 e3 e4
  have F : FyT Y cX0_init RX0 2 8 215 := F
  show cn Y 0 [(0, .ref a), (1, .ref t)] [] _ 0 0
  refine cn_aload_n (np := 1) F dX0_init_0 rfl rfl ?_
  refine cn_obj (np := 4) F dX0_init_1 rfl wM_X0_3 (by omega) (Nat.le_of_ble_eq_true rfl) ?_
  refine cn_aload_n (np := 5) F dX0_init_4 rfl rfl ?_
  refine cn_bipush (np := 7) (v := 10) F dX0_init_5 rfl rfl ?_
  refine cn_newa (np := 9) (N := 10) F dX0_init_7 rfl (by decide) rfl (by decide) (Nat.le_of_ble_eq_true rfl) (Nat.le_of_ble_eq_true rfl) (fun q7 => ?_)
  refine cn_wsE (ws2 := [(a, .inr (0, [.null, .null, .int 0, .null, .null, .null, .null, .null, .null, .null, .int 0, .int 0, .int 0, .int 0])), (q7, .inl (Y.2.1, 10, .inl (fun _ => 0)))]) rfl ?_
  refine cn_putF (np := 12) (q0 := 0) F Ry dX0_init_9 rfl gF_X0_9 rfl rfl rfl (Nat.le_of_ble_eq_true rfl) ?_
  refine cn_wsE (ws2 := [(a, .inr (0, [.ref q7, .null, .int 0, .null, .null, .null, .null, .null, .null, .null, .int 0, .int 0, .int 0, .int 0])), (q7, .inl (Y.2.1, 10, .inl (fun _ => 0)))]) rfl ?_
  refine cn_aload_n (np := 13) F dX0_init_12 rfl rfl ?_
  refine cn_bipush (np := 15) (v := 10) F dX0_init_13 rfl rfl ?_
  refine cn_newa (np := 17) (N := 10) F dX0_init_15 rfl (by decide) rfl (by decide) (Nat.le_of_ble_eq_true rfl) (Nat.le_of_ble_eq_true rfl) (fun q15 => ?_)
  refine cn_wsE (ws2 := [(a, .inr (0, [.ref q7, .null, .int 0, .null, .null, .null, .null, .null, .null, .null, .int 0, .int 0, .int 0, .int 0])), (q7, .inl (Y.2.1, 10, .inl (fun _ => 0))), (q15, .inl (Y.2.1, 10, .inl (fun _ => 0)))]) rfl ?_
  refine cn_putF (np := 20) (q0 := 0) F Ry dX0_init_17 rfl gF_X0_15 rfl rfl rfl (Nat.le_of_ble_eq_true rfl) ?_
  refine cn_wsE (ws2 := [(a, .inr (0, [.ref q7, .ref q15, .int 0, .null, .null, .null, .null, .null, .null, .null, .int 0, .int 0, .int 0, .int 0])), (q7, .inl (Y.2.1, 10, .inl (fun _ => 0))), (q15, .inl (Y.2.1, 10, .inl (fun _ => 0)))]) rfl ?_
  refine cn_aload_n (np := 21) F dX0_init_20 rfl rfl ?_
  refine cn_bipush (np := 23) (v := 9) F dX0_init_21 rfl rfl ?_
  refine cn_newa (np := 25) (N := 9) F dX0_init_23 rfl (by decide) rfl (by decide) (Nat.le_of_ble_eq_true rfl) (Nat.le_of_ble_eq_true rfl) (fun q23 => ?_)
  refine cn_wsE (ws2 := [(a, .inr (0, [.ref q7, .ref q15, .int 0, .null, .null, .null, .null, .null, .null, .null, .int 0, .int 0, .int 0, .int 0])), (q7, .inl (Y.2.1, 10, .inl (fun _ => 0))), (q15, .inl (Y.2.1, 10, .inl (fun _ => 0))), (q23, .inl (Y.2.1, 9, .inl (fun _ => 0)))]) rfl ?_
  refine cn_putF (np := 28) (q0 := 0) F Ry dX0_init_25 rfl gF_X0_18 rfl rfl rfl (Nat.le_of_ble_eq_true rfl) ?_
  refine cn_wsE (ws2 := [(a, .inr (0, [.ref q7, .ref q15, .int 0, .null, .ref q23, .null, .null, .null, .null, .null, .int 0, .int 0, .int 0, .int 0])), (q7, .inl (Y.2.1, 10, .inl (fun _ => 0))), (q15, .inl (Y.2.1, 10, .inl (fun _ => 0))), (q23, .inl (Y.2.1, 9, .inl (fun _ => 0)))]) rfl ?_
  refine cn_aload_n (np := 29) F dX0_init_28 rfl rfl ?_
  refine cn_bipush (np := 31) (v := 54) F dX0_init_29 rfl rfl ?_
  refine cn_newa (np := 33) (N := 54) F dX0_init_31 rfl (by decide) rfl (by decide) (Nat.le_of_ble_eq_true rfl) (Nat.le_of_ble_eq_true rfl) (fun q31 => ?_)
  refine cn_wsE (ws2 := [(a, .inr (0, [.ref q7, .ref q15, .int 0, .null, .ref q23, .null, .null, .null, .null, .null, .int 0, .int 0, .int 0, .int 0])), (q7, .inl (Y.2.1, 10, .inl (fun _ => 0))), (q15, .inl (Y.2.1, 10, .inl (fun _ => 0))), (q23, .inl (Y.2.1, 9, .inl (fun _ => 0))), (q31, .inl (Y.2.1, 54, .inl (fun _ => 0)))]) rfl ?_
  refine cn_putF (np := 36) (q0 := 0) F Ry dX0_init_33 rfl gF_X0_21 rfl rfl rfl (Nat.le_of_ble_eq_true rfl) ?_
  refine cn_wsE (ws2 := [(a, .inr (0, [.ref q7, .ref q15, .int 0, .null, .ref q23, .ref q31, .null, .null, .null, .null, .int 0, .int 0, .int 0, .int 0])), (q7, .inl (Y.2.1, 10, .inl (fun _ => 0))), (q15, .inl (Y.2.1, 10, .inl (fun _ => 0))), (q23, .inl (Y.2.1, 9, .inl (fun _ => 0))), (q31, .inl (Y.2.1, 54, .inl (fun _ => 0)))]) rfl ?_
  refine cn_aload_n (np := 37) F dX0_init_36 rfl rfl ?_
  refine cn_bipush (np := 39) (v := 81) F dX0_init_37 rfl rfl ?_
  refine cn_newa (np := 41) (N := 81) F dX0_init_39 rfl (by decide) rfl (by decide) (Nat.le_of_ble_eq_true rfl) (Nat.le_of_ble_eq_true rfl) (fun q39 => ?_)
  refine cn_wsE (ws2 := [(a, .inr (0, [.ref q7, .ref q15, .int 0, .null, .ref q23, .ref q31, .null, .null, .null, .null, .int 0, .int 0, .int 0, .int 0])), (q7, .inl (Y.2.1, 10, .inl (fun _ => 0))), (q15, .inl (Y.2.1, 10, .inl (fun _ => 0))), (q23, .inl (Y.2.1, 9, .inl (fun _ => 0))), (q31, .inl (Y.2.1, 54, .inl (fun _ => 0))), (q39, .inl (Y.2.1, 81, .inl (fun _ => 0)))]) rfl ?_
  refine cn_putF (np := 44) (q0 := 0) F Ry dX0_init_41 rfl gF_X0_24 rfl rfl rfl (Nat.le_of_ble_eq_true rfl) ?_
  refine cn_wsE (ws2 := [(a, .inr (0, [.ref q7, .ref q15, .int 0, .null, .ref q23, .ref q31, .ref q39, .null, .null, .null, .int 0, .int 0, .int 0, .int 0])), (q7, .inl (Y.2.1, 10, .inl (fun _ => 0))), (q15, .inl (Y.2.1, 10, .inl (fun _ => 0))), (q23, .inl (Y.2.1, 9, .inl (fun _ => 0))), (q31, .inl (Y.2.1, 54, .inl (fun _ => 0))), (q39, .inl (Y.2.1, 81, .inl (fun _ => 0)))]) rfl ?_
  refine cn_aload_n (np := 45) F dX0_init_44 rfl rfl ?_
  refine cn_bipush (np := 47) (v := 27) F dX0_init_45 rfl rfl ?_
  refine cn_newa (np := 49) (N := 27) F dX0_init_47 rfl (by decide) rfl (by decide) (Nat.le_of_ble_eq_true rfl) (Nat.le_of_ble_eq_true rfl) (fun q47 => ?_)
  refine cn_wsE (ws2 := [(a, .inr (0, [.ref q7, .ref q15, .int 0, .null, .ref q23, .ref q31, .ref q39, .null, .null, .null, .int 0, .int 0, .int 0, .int 0])), (q7, .inl (Y.2.1, 10, .inl (fun _ => 0))), (q15, .inl (Y.2.1, 10, .inl (fun _ => 0))), (q23, .inl (Y.2.1, 9, .inl (fun _ => 0))), (q31, .inl (Y.2.1, 54, .inl (fun _ => 0))), (q39, .inl (Y.2.1, 81, .inl (fun _ => 0))), (q47, .inl (Y.2.1, 27, .inl (fun _ => 0)))]) rfl ?_
  refine cn_putF (np := 52) (q0 := 0) F Ry dX0_init_49 rfl gF_X0_27 rfl rfl rfl (Nat.le_of_ble_eq_true rfl) ?_
  refine cn_wsE (ws2 := [(a, .inr (0, [.ref q7, .ref q15, .int 0, .null, .ref q23, .ref q31, .ref q39, .ref q47, .null, .null, .int 0, .int 0, .int 0, .int 0])), (q7, .inl (Y.2.1, 10, .inl (fun _ => 0))), (q15, .inl (Y.2.1, 10, .inl (fun _ => 0))), (q23, .inl (Y.2.1, 9, .inl (fun _ => 0))), (q31, .inl (Y.2.1, 54, .inl (fun _ => 0))), (q39, .inl (Y.2.1, 81, .inl (fun _ => 0))), (q47, .inl (Y.2.1, 27, .inl (fun _ => 0)))]) rfl ?_
  refine cn_aload_n (np := 53) F dX0_init_52 rfl rfl ?_
  refine cn_bipush (np := 55) (v := 18) F dX0_init_53 rfl rfl ?_
  refine cn_newa (np := 57) (N := 18) F dX0_init_55 rfl (by decide) rfl (by decide) (Nat.le_of_ble_eq_true rfl) (Nat.le_of_ble_eq_true rfl) (fun q55 => ?_)
  refine cn_wsE (ws2 := [(a, .inr (0, [.ref q7, .ref q15, .int 0, .null, .ref q23, .ref q31, .ref q39, .ref q47, .null, .null, .int 0, .int 0, .int 0, .int 0])), (q7, .inl (Y.2.1, 10, .inl (fun _ => 0))), (q15, .inl (Y.2.1, 10, .inl (fun _ => 0))), (q23, .inl (Y.2.1, 9, .inl (fun _ => 0))), (q31, .inl (Y.2.1, 54, .inl (fun _ => 0))), (q39, .inl (Y.2.1, 81, .inl (fun _ => 0))), (q47, .inl (Y.2.1, 27, .inl (fun _ => 0))), (q55, .inl (Y.2.1, 18, .inl (fun _ => 0)))]) rfl ?_
  refine cn_putF (np := 60) (q0 := 0) F Ry dX0_init_57 rfl gF_X0_30 rfl rfl rfl (Nat.le_of_ble_eq_true rfl) ?_
  refine cn_wsE (ws2 := [(a, .inr (0, [.ref q7, .ref q15, .int 0, .null, .ref q23, .ref q31, .ref q39, .ref q47, .ref q55, .null, .int 0, .int 0, .int 0, .int 0])), (q7, .inl (Y.2.1, 10, .inl (fun _ => 0))), (q15, .inl (Y.2.1, 10, .inl (fun _ => 0))), (q23, .inl (Y.2.1, 9, .inl (fun _ => 0))), (q31, .inl (Y.2.1, 54, .inl (fun _ => 0))), (q39, .inl (Y.2.1, 81, .inl (fun _ => 0))), (q47, .inl (Y.2.1, 27, .inl (fun _ => 0))), (q55, .inl (Y.2.1, 18, .inl (fun _ => 0)))]) rfl ?_
  refine cn_aload_n (np := 61) F dX0_init_60 rfl rfl ?_
  refine cn_bipush (np := 63) (v := 6) F dX0_init_61 rfl rfl ?_
  refine cn_newa (np := 65) (N := 6) F dX0_init_63 rfl (by decide) rfl (by decide) (Nat.le_of_ble_eq_true rfl) (Nat.le_of_ble_eq_true rfl) (fun q63 => ?_)
  refine cn_wsE (ws2 := [(a, .inr (0, [.ref q7, .ref q15, .int 0, .null, .ref q23, .ref q31, .ref q39, .ref q47, .ref q55, .null, .int 0, .int 0, .int 0, .int 0])), (q7, .inl (Y.2.1, 10, .inl (fun _ => 0))), (q15, .inl (Y.2.1, 10, .inl (fun _ => 0))), (q23, .inl (Y.2.1, 9, .inl (fun _ => 0))), (q31, .inl (Y.2.1, 54, .inl (fun _ => 0))), (q39, .inl (Y.2.1, 81, .inl (fun _ => 0))), (q47, .inl (Y.2.1, 27, .inl (fun _ => 0))), (q55, .inl (Y.2.1, 18, .inl (fun _ => 0))), (q63, .inl (Y.2.1, 6, .inl (fun _ => 0)))]) rfl ?_
  refine cn_putF (np := 68) (q0 := 0) F Ry dX0_init_65 rfl gF_X0_33 rfl rfl rfl (Nat.le_of_ble_eq_true rfl) ?_
  refine cn_wsE (ws2 := [(a, .inr (0, [.ref q7, .ref q15, .int 0, .null, .ref q23, .ref q31, .ref q39, .ref q47, .ref q55, .ref q63, .int 0, .int 0, .int 0, .int 0])), (q7, .inl (Y.2.1, 10, .inl (fun _ => 0))), (q15, .inl (Y.2.1, 10, .inl (fun _ => 0))), (q23, .inl (Y.2.1, 9, .inl (fun _ => 0))), (q31, .inl (Y.2.1, 54, .inl (fun _ => 0))), (q39, .inl (Y.2.1, 81, .inl (fun _ => 0))), (q47, .inl (Y.2.1, 27, .inl (fun _ => 0))), (q55, .inl (Y.2.1, 18, .inl (fun _ => 0))), (q63, .inl (Y.2.1, 6, .inl (fun _ => 0)))]) rfl ?_
  refine cn_aload_n (np := 69) F dX0_init_68 rfl rfl ?_
  refine cn_aload_n (np := 70) F dX0_init_69 rfl rfl ?_
  refine cn_putF (np := 73) (q0 := 0) F Ry dX0_init_70 rfl gF_X0_36 rfl rfl rfl (Nat.le_of_ble_eq_true rfl) ?_
  refine cn_wsE (ws2 := [(a, .inr (0, [.ref q7, .ref q15, .int 0, .ref t, .ref q23, .ref q31, .ref q39, .ref q47, .ref q55, .ref q63, .int 0, .int 0, .int 0, .int 0])), (q7, .inl (Y.2.1, 10, .inl (fun _ => 0))), (q15, .inl (Y.2.1, 10, .inl (fun _ => 0))), (q23, .inl (Y.2.1, 9, .inl (fun _ => 0))), (q31, .inl (Y.2.1, 54, .inl (fun _ => 0))), (q39, .inl (Y.2.1, 81, .inl (fun _ => 0))), (q47, .inl (Y.2.1, 27, .inl (fun _ => 0))), (q55, .inl (Y.2.1, 18, .inl (fun _ => 0))), (q63, .inl (Y.2.1, 6, .inl (fun _ => 0)))]) rfl ?_
  refine cn_vret F Ry dX0_init_73 (Nat.le_of_ble_eq_true rfl) (Nat.le_of_ble_eq_true rfl) ⟨(fun k => [a, q7, q15, q23, q31, q39, q47, q55, q63, t].getD k 0), rfl, rfl, rfl⟩
set_option maxRecDepth 40000 in
set_option maxHeartbeats 4000000 in
theorem k_X1_init {l : Launch} {cA : ClassId} {D : va_G} {tT a t : Nat} : kc l cA D tT yX1_init cX1_init 2 2 0 0 [.ref a, .ref t] [(a, .inr (1, [.int 0, .int 0, .int 0, .int 0, .int 0, .null]))] (pT a t) := by
  refine kc_of (by decide) rfl (Nat.le_of_ble_eq_true rfl) (fun Y e1 e2 e3 e4 F Ry hL => ?_)
  subst e1 e2 e3 e4
  have F : FyT Y cX1_init RX1 2 0 0 := F
  show cn Y 0 [(0, .ref a), (1, .ref t)] [] _ 0 0
  refine cn_aload_n (np := 1) F dX1_init_0 rfl rfl ?_
  refine cn_obj (np := 4) F dX1_init_1 rfl wM_X1_3 (by omega) (Nat.le_of_ble_eq_true rfl) ?_
  refine cn_aload_n (np := 5) F dX1_init_4 rfl rfl ?_
  refine cn_aload_n (np := 6) F dX1_init_5 rfl rfl ?_
  refine cn_putF (np := 9) (q0 := 0) F Ry dX1_init_6 rfl gF_X1_9 rfl rfl rfl (Nat.le_of_ble_eq_true rfl) ?_
  refine cn_wsE (ws2 := [(a, .inr (1, [.int 0, .int 0, .int 0, .int 0, .int 0, .ref t]))]) rfl ?_
  refine cn_vret F Ry dX1_init_9 (Nat.le_of_ble_eq_true rfl) (Nat.le_of_ble_eq_true rfl) rfl
set_option maxRecDepth 40000 in
set_option maxHeartbeats 4000000 in
theorem k_X3_init {l : Launch} {cA : ClassId} {D : va_G} {tT a : Nat} : kc l cA D tT yX3_init cX3_init 1 2 1 8 [.ref a] [(a, .inr (3, [.int 0, .null]))] (pU cA a) := by
  refine kc_of (by decide) rfl (Nat.le_of_ble_eq_true rfl) (fun Y e1 e2 e3 e4 F Ry hL => ?_)
  subst e1 e2 e3 e4
  have F : FyT Y cX3_init RX3 2 1 8 := F
  show cn Y 0 [(0, .ref a)] [] _ 0 0
  refine cn_aload_n (np := 1) F dX3_init_0 rfl rfl ?_
  refine cn_obj (np := 4) F dX3_init_1 rfl wM_X3_3 (by omega) (Nat.le_of_ble_eq_true rfl) ?_
  refine cn_aload_n (np := 5) F dX3_init_4 rfl rfl ?_
  refine cn_bipush (np := 7) (v := 8) F dX3_init_5 rfl rfl ?_
  refine cn_newa (np := 9) (N := 8) F dX3_init_7 rfl (by decide) rfl (by decide) (Nat.le_of_ble_eq_true rfl) (Nat.le_of_ble_eq_true rfl) (fun q7 => ?_)
  refine cn_wsE (ws2 := [(a, .inr (3, [.int 0, .null])), (q7, .inl (Y.2.1, 8, .inl (fun _ => 0)))]) rfl ?_
  refine cn_putF (np := 12) (q0 := 0) F Ry dX3_init_9 rfl gF_X3_9 rfl rfl rfl (Nat.le_of_ble_eq_true rfl) ?_
  refine cn_wsE (ws2 := [(a, .inr (3, [.int 0, .ref q7])), (q7, .inl (Y.2.1, 8, .inl (fun _ => 0)))]) rfl ?_
  refine cn_vret F Ry dX3_init_12 (Nat.le_of_ble_eq_true rfl) (Nat.le_of_ble_eq_true rfl) ⟨q7, rfl⟩
