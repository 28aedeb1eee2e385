theorem mapR {α : Type} (wr x : List α) {n : Nat} (hn : wr.length = n) : (List.range n).map (fun i => (wr ++ x)[i]?) = wr.map some := by
  subst hn
  apply List.ext_getElem?
  intro i
  by_cases h : i < wr.length
  · simp [h, List.getElem?_append_left h]
  · simp [h]
section CN2
variable {Y : YxT} {cc : ByteArray} {own : String} {dd mC mS pc np cells slots : Nat} {lo : List (Nat × Value)} {st : List Value} {ws : va_W}
theorem cn_callJ (F : FyT Y cc own dd mC mS) {y : MethodName} {bytes : ByteArray} {maxL n d' mc ms idx b nw : Nat} {As rest : List Value} {e : va_E} {wr : va_W} {post : va_W → Prop} (dg : decode cc pc = .ok (.invokespecial idx, 3)) (hn : pc + 3 = np) (hm : Cond.methodLink own idx y ∈ WG) (hi : Cond.instanceMethod y ∈ WG) (hini : Cond.initialized y.cls ∈ WG) (hcode : Cond.code y bytes maxL none ∈ WG) (hyn : y.name = "<init>") (hdsc : y.cls ≠ "java/lang/invoke/MethodHandle" ∧ y.cls ≠ "java/lang/invoke/VarHandle" ∧ (parseMethodDescriptor y.desc).map (fun d => d.parameters.length) = some n) (hlen : As.length = n)
    (hM : kc Y.1 Y.2.1 Y.2.2.1 Y.2.2.2.1 y bytes maxL d' mc ms (.ref b :: As) [(b, e)] post) (hw1 : wr.length = nw) (hw2 : va_nd (List.range nw) = true) (hd : d' + 1 ≤ dd) (hmL : maxL ≤ 40) (hc : cells + mc ≤ mC) (hs : slots + ms ≤ mS) (hw : (rest.map fun v => v.category).sum ≤ 8)
    (k : ∀ w1, post w1 → cn Y np lo rest (wr ++ w1) (cells + mc) (slots + ms)) : cn Y pc lo (As.reverse ++ .ref b :: rest) (wr ++ [(b, e)]) cells slots := by
  have e1 : (wr ++ [(b, e)])[nw]? = some (b, e) := by rw [← hw1]; simp
  exact cn_callI F dg hn hm hi hini hcode hyn hdsc hlen hM [nw] (List.range nw) (by simp [e1]) (by simp [e1]) (mapR wr _ hw1) rfl hw2 (fun i hi => by simp at hi ⊢; omega) hd hmL hc hs hw k
theorem cn_callM (F : FyT Y cc own dd mC mS) {y : MethodName} {bytes : ByteArray} {maxL n d' mc ms idx b nw : Nat} {host : String} {As rest : List Value} {e : va_E} {wr : va_W} {post : va_W → Prop} (dg : decode cc pc = .ok (.invokespecial idx, 3)) (hn : pc + 3 = np) (hm : va_Nw (.methodLinkNest own idx y host) Y.2.2.2.2.2.2.2.1) (hi : Cond.instanceMethod y ∈ WG) (hini : Cond.initialized y.cls ∈ WG) (hcode : Cond.code y bytes maxL none ∈ WG) (hyn : y.name = "<init>") (hdsc : y.cls ≠ "java/lang/invoke/MethodHandle" ∧ y.cls ≠ "java/lang/invoke/VarHandle" ∧ (parseMethodDescriptor y.desc).map (fun d => d.parameters.length) = some n) (hlen : As.length = n)
    (hM : kc Y.1 Y.2.1 Y.2.2.1 Y.2.2.2.1 y bytes maxL d' mc ms (.ref b :: As) [(b, e)] post) (hw1 : wr.length = nw) (hw2 : va_nd (List.range nw) = true) (hd : d' + 1 ≤ dd) (hmL : maxL ≤ 40) (hc : cells + mc ≤ mC) (hs : slots + ms ≤ mS) (hw : (rest.map fun v => v.category).sum ≤ 8)
    (k : ∀ w1, post w1 → cn Y np lo rest (wr ++ w1) (cells + mc) (slots + ms)) : cn Y pc lo (As.reverse ++ .ref b :: rest) (wr ++ [(b, e)]) cells slots := by
  have e1 : (wr ++ [(b, e)])[nw]? = some (b, e) := by rw [← hw1]; simp
  exact cn_callN F dg hn hm hi hini hcode hyn hdsc hlen hM [nw] (List.range nw) (by simp [e1]) (by simp [e1]) (mapR wr _ hw1) rfl hw2 (fun i hi => by simp at hi ⊢; omega) hd hmL hc hs hw k
theorem cn_nest (F : FyT Y cc own dd mC mS) : va_Nw (.methodLinkNest RX4 34 yX3_init "PhaseLoads") Y.2.2.2.2.2.2.2.1 := by
  obtain ⟨l, cA, D, tT, p, e, R, s, m, args, below, meth, c, Q, nL, A⟩ := Y
  obtain ⟨hx, hb, hml, hown, hts, hlk, hK, hA, hst, hrf, hrl, hrc, hrs⟩ := F
  exact hst.2
end CN2
theorem df_X0 : ∀ j, j < 14 → defaultValue (tyX0 j) = vp_V [.null, .null, .int 0, .null, .null, .null, .null, .null, .null, .null, .int 0, .int 0, .int 0, .int 0] j := fun j hj => match j, hj with
  | 0, _ => rfl
  | 1, _ => rfl
  | 2, _ => rfl
  | 3, _ => rfl
  | 4, _ => rfl
  | 5, _ => rfl
  | 6, _ => rfl
  | 7, _ => rfl
  | 8, _ => rfl
  | 9, _ => rfl
  | 10, _ => rfl
  | 11, _ => rfl
  | 12, _ => rfl
  | 13, _ => rfl
  | (k + 14), h => absurd h (by omega)
theorem df_X1 : ∀ j, j < 6 → defaultValue (tyX1 j) = vp_V [.int 0, .int 0, .int 0, .int 0, .int 0, .null] j := fun j hj => match j, hj with
  | 0, _ => rfl
  | 1, _ => rfl
  | 2, _ => rfl
  | 3, _ => rfl
  | 4, _ => rfl
  | 5, _ => rfl
  | (k + 6), h => absurd h (by omega)
theorem df_X2 : ∀ j, j < 12 → defaultValue (tyX2 j) = vp_V [.null, .null, .null, .null, .null, .null, .null, .null, .null, .int 0, .int 0, .int 0] j := fun j hj => match j, hj with
  | 0, _ => rfl
  | 1, _ => rfl
  | 2, _ => rfl
  | 3, _ => rfl
  | 4, _ => rfl
  | 5, _ => rfl
  | 6, _ => rfl
  | 7, _ => rfl
  | 8, _ => rfl
  | 9, _ => rfl
  | 10, _ => rfl
  | 11, _ => rfl
  | (k + 12), h => absurd h (by omega)
theorem df_X3 : ∀ j, j < 2 → defaultValue (tyX3 j) = vp_V [.int 0, .null] j := fun j hj => match j, hj with
  | 0, _ => rfl
  | 1, _ => rfl
  | (k + 2), h => absurd h (by omega)
theorem df_X4 : ∀ j, j < 7 → defaultValue (tyX4 j) = vp_V [.null, .null, .null, .null, .int 0, .int 0, .int 0] j := fun j hj => match j, hj with
  | 0, _ => rfl
  | 1, _ => rfl
  | 2, _ => rfl
  | 3, _ => rfl
  | 4, _ => rfl
  | 5, _ => rfl
  | 6, _ => rfl
  | (k + 7), h => absurd h (by omega)
theorem df_X5 : ∀ j, j < 21 → defaultValue (tyX5 j) = vp_V [.null, .null, .null, .null, .int 0, .null, .int 0, .null, .int 0, .null, .int 0, .null, .null, .null, .null, .null, .null, .int 0, .int 0, .int 0, .null] j := fun j hj => match j, hj with
  | 0, _ => rfl
  | 1, _ => rfl
  | 2, _ => rfl
  | 3, _ => rfl
  | 4, _ => rfl
  | 5, _ => rfl
  | 6, _ => rfl
  | 7, _ => rfl
  | 8, _ => rfl
  | 9, _ => rfl
  | 10, _ => rfl
  | 11, _ => rfl
  | 12, _ => rfl
  | 13, _ => rfl
  | 14, _ => rfl
  | 15, _ => rfl
  | 16, _ => rfl
  | 17, _ => rfl
  | 18, _ => rfl
  | 19, _ => rfl
  | 20, _ => rfl
  | (k + 21), h => absurd h (by omega)
set_option maxRecDepth 40000 in
set_option maxHeartbeats 4000000 in
theorem k_X4_init {l : Launch} {cA : ClassId} {D : va_G} {tT a : Nat} : kc l cA D tT yX4_init cX4_init 1 4 22 338 [.ref a] [(a, .inr (4, [.null, .null, .null, .null, .int 0, .int 0, .int 0]))] (pP cA a) := by
  refine kc_of (by decide) rfl (Nat.le_of_ble_eq_true rfl) (fun Y e1 e2 e3 e4 F Ry hL => ?_)
  subst e1 e2 e3 e4
  have F : FyT Y cX4_init RX4 4 22 338 := F
  show cn Y 0 [(0, .ref a)] [] _ 0 0
  refine cn_aload_n (np := 1) F dX4_init_0 rfl rfl <| cn_obj (np := 4) F dX4_init_1 rfl wM_X4_1 (by omega) (Nat.le_of_ble_eq_true rfl) ?_
  refine cn_aload_n (np := 5) F dX4_init_4 rfl rfl <| cn_new (np := 8) (fs := [.null, .null, .null, .null, .null, .null, .null, .null, .null, .int 0, .int 0, .int 0]) F dX4_init_5 rfl (ci := 2) rfl wU_X2 tyX2_ok wL_X4_7 wB_X2 wN_X2 df_X2 (Nat.le_of_ble_eq_true rfl) (Nat.le_of_ble_eq_true rfl) (fun q5 => ?_)
  refine cn_dup (np := 9) F dX4_init_8 rfl rfl <| cn_callJ (np := 12) (n := 0) (As := []) (rest := [.ref q5, .ref a]) (wr := [(a, .inr (4, [.null, .null, .null, .null, .int 0, .int 0, .int 0]))]) (nw := 1) F dX4_init_9 rfl wM_X4_9 wI_yX2_init wN_X2 wC_yX2_init rfl (by decide +kernel) rfl k_X2_init rfl rfl (Nat.le_of_ble_eq_true rfl) (Nat.le_of_ble_eq_true rfl) (Nat.le_of_ble_eq_true rfl) (Nat.le_of_ble_eq_true rfl) (Nat.le_of_ble_eq_true rfl) (fun w1 hp => ?_)
  obtain ⟨sd, rfl, rfl⟩ := hp
  refine cn_wsE (ws2 := (a, .inr (4, [.null, .null, .null, .null, .int 0, .int 0, .int 0])) :: wl 10 SHS sd Y.2.1 hS0) rfl ?_
  refine cn_putF (np := 15) (q0 := 0) F Ry dX4_init_12 rfl gF_X4_10 rfl rfl rfl (Nat.le_of_ble_eq_true rfl) ?_
  refine cn_wsE (ws2 := (a, .inr (4, [.ref (sd 0), .null, .null, .null, .int 0, .int 0, .int 0])) :: wl 10 SHS sd Y.2.1 hS0) rfl ?_
  refine cn_aload_n (np := 16) F dX4_init_15 rfl rfl <| cn_new (np := 19) (fs := [.null, .null, .int 0, .null, .null, .null, .null, .null, .null, .null, .int 0, .int 0, .int 0, .int 0]) F dX4_init_16 rfl (ci := 0) rfl wU_X0 tyX0_ok wL_X4_16 wB_X0 wN_X0 df_X0 (Nat.le_of_ble_eq_true rfl) (Nat.le_of_ble_eq_true rfl) (fun q16 => ?_)
  refine cn_dup (np := 20) F dX4_init_19 rfl rfl <| cn_aload_n (np := 21) F dX4_init_20 rfl rfl <| cn_get (np := 24) (q0 := 0) F dX4_init_21 rfl fF_X4_10 rfl rfl ?_
  refine cn_callJ (np := 27) (n := 1) (As := [.ref (sd 0)]) (rest := [.ref q16, .ref a]) (wr := (a, .inr (4, [.ref (sd 0), .null, .null, .null, .int 0, .int 0, .int 0])) :: wl 10 SHS sd Y.2.1 hS0) (nw := 11) F dX4_init_24 rfl wM_X4_18 wI_yX0_init wN_X0 wC_yX0_init rfl (by decide +kernel) rfl k_X0_init rfl rfl (Nat.le_of_ble_eq_true rfl) (Nat.le_of_ble_eq_true rfl) (Nat.le_of_ble_eq_true rfl) (Nat.le_of_ble_eq_true rfl) (Nat.le_of_ble_eq_true rfl) (fun w1 hp => ?_)
  obtain ⟨td, rfl, ht9, rfl⟩ := hp
  refine cn_wsE (ws2 := (a, .inr (4, [.ref (sd 0), .null, .null, .null, .int 0, .int 0, .int 0])) :: (wl 10 SHS sd Y.2.1 hS0 ++ wl 9 SHL td Y.2.1 zH)) rfl ?_
  refine cn_putF (np := 30) (q0 := 0) F Ry dX4_init_27 rfl gF_X4_21 rfl rfl rfl (Nat.le_of_ble_eq_true rfl) ?_
  refine cn_wsE (ws2 := (a, .inr (4, [.ref (sd 0), .ref (td 0), .null, .null, .int 0, .int 0, .int 0])) :: (wl 10 SHS sd Y.2.1 hS0 ++ wl 9 SHL td Y.2.1 zH)) rfl ?_
  refine cn_aload_n (np := 31) F dX4_init_30 rfl rfl <| cn_new (np := 34) (fs := [.int 0, .int 0, .int 0, .int 0, .int 0, .null]) F dX4_init_31 rfl (ci := 1) rfl wU_X1 tyX1_ok wL_X4_25 wB_X1 wN_X1 df_X1 (Nat.le_of_ble_eq_true rfl) (Nat.le_of_ble_eq_true rfl) (fun q31 => ?_)
  refine cn_dup (np := 35) F dX4_init_34 rfl rfl <| cn_aload_n (np := 36) F dX4_init_35 rfl rfl <| cn_get (np := 39) (q0 := 0) F dX4_init_36 rfl fF_X4_10 rfl rfl ?_
  refine cn_callJ (np := 42) (n := 1) (As := [.ref (sd 0)]) (rest := [.ref q31, .ref a]) (wr := (a, .inr (4, [.ref (sd 0), .ref (td 0), .null, .null, .int 0, .int 0, .int 0])) :: (wl 10 SHS sd Y.2.1 hS0 ++ wl 9 SHL td Y.2.1 zH)) (nw := 20) F dX4_init_39 rfl wM_X4_27 wI_yX1_init wN_X1 wC_yX1_init rfl (by decide +kernel) rfl k_X1_init rfl rfl (Nat.le_of_ble_eq_true rfl) (Nat.le_of_ble_eq_true rfl) (Nat.le_of_ble_eq_true rfl) (Nat.le_of_ble_eq_true rfl) (Nat.le_of_ble_eq_true rfl) (fun w1 hp => ?_)
  cases hp
  refine cn_wsE (ws2 := (a, .inr (4, [.ref (sd 0), .ref (td 0), .null, .null, .int 0, .int 0, .int 0])) :: ((wl 10 SHS sd Y.2.1 hS0 ++ wl 9 SHL td Y.2.1 zH) ++ [(q31, .inr (1, [.int 0, .int 0, .int 0, .int 0, .int 0, .ref (sd 0)]))])) rfl ?_
  refine cn_putF (np := 45) (q0 := 0) F Ry dX4_init_42 rfl gF_X4_28 rfl rfl rfl (Nat.le_of_ble_eq_true rfl) ?_
  refine cn_wsE (ws2 := (a, .inr (4, [.ref (sd 0), .ref (td 0), .ref q31, .null, .int 0, .int 0, .int 0])) :: ((wl 10 SHS sd Y.2.1 hS0 ++ wl 9 SHL td Y.2.1 zH) ++ [(q31, .inr (1, [.int 0, .int 0, .int 0, .int 0, .int 0, .ref (sd 0)]))])) rfl ?_
  refine cn_aload_n (np := 46) F dX4_init_45 rfl rfl <| cn_new (np := 49) (fs := [.int 0, .null]) F dX4_init_46 rfl (ci := 3) rfl wU_X3 tyX3_ok wL_X4_32 wB_X3 wN_X3 df_X3 (Nat.le_of_ble_eq_true rfl) (Nat.le_of_ble_eq_true rfl) (fun q46 => ?_)
  refine cn_dup (np := 50) F dX4_init_49 rfl rfl <| cn_callM (np := 53) (n := 0) (As := []) (rest := [.ref q46, .ref a]) (wr := (a, .inr (4, [.ref (sd 0), .ref (td 0), .ref q31, .null, .int 0, .int 0, .int 0])) :: ((wl 10 SHS sd Y.2.1 hS0 ++ wl 9 SHL td Y.2.1 zH) ++ [(q31, .inr (1, [.int 0, .int 0, .int 0, .int 0, .int 0, .ref (sd 0)]))])) (nw := 21) F dX4_init_50 rfl (cn_nest F) wI_yX3_init wN_X3 wC_yX3_init rfl (by decide +kernel) rfl k_X3_init rfl rfl (Nat.le_of_ble_eq_true rfl) (Nat.le_of_ble_eq_true rfl) (Nat.le_of_ble_eq_true rfl) (Nat.le_of_ble_eq_true rfl) (Nat.le_of_ble_eq_true rfl) (fun w1 hp => ?_)
  obtain ⟨ub, rfl⟩ := hp
  refine cn_wsE (ws2 := (a, .inr (4, [.ref (sd 0), .ref (td 0), .ref q31, .null, .int 0, .int 0, .int 0])) :: (((wl 10 SHS sd Y.2.1 hS0 ++ wl 9 SHL td Y.2.1 zH) ++ [(q31, .inr (1, [.int 0, .int 0, .int 0, .int 0, .int 0, .ref (sd 0)]))]) ++ [(q46, .inr (3, [.int 0, .ref ub])), (ub, .inl (Y.2.1, 8, .inl (fun _ => 0)))])) rfl ?_
  refine cn_putF (np := 56) (q0 := 0) F Ry dX4_init_53 rfl gF_X4_35 rfl rfl rfl (Nat.le_of_ble_eq_true rfl) ?_
  refine cn_wsE (ws2 := (a, .inr (4, [.ref (sd 0), .ref (td 0), .ref q31, .ref q46, .int 0, .int 0, .int 0])) :: (((wl 10 SHS sd Y.2.1 hS0 ++ wl 9 SHL td Y.2.1 zH) ++ [(q31, .inr (1, [.int 0, .int 0, .int 0, .int 0, .int 0, .ref (sd 0)]))]) ++ [(q46, .inr (3, [.int 0, .ref ub])), (ub, .inl (Y.2.1, 8, .inl (fun _ => 0)))])) rfl ?_
  refine cn_vret F Ry dX4_init_56 (Nat.le_of_ble_eq_true rfl) (Nat.le_of_ble_eq_true rfl) ⟨fun k => if k = 0 then a else if k < 11 then sd (k - 1) else if k < 20 then td (k - 11) else if k = 20 then q31 else if k = 21 then q46 else ub, rfl, ?_⟩
  apply List.ext_getElem?
  intro i
  by_cases hi : i < 23
  · rw [wl_at hi]
    match i, hi with
    | 0, _ => exact ce_at rfl
    | 1, _ => exact ce_at2 rfl
    | 2, _ => exact rfl
    | 3, _ => exact rfl
    | 4, _ => exact rfl
    | 5, _ => exact rfl
    | 6, _ => exact rfl
    | 7, _ => exact rfl
    | 8, _ => exact rfl
    | 9, _ => exact rfl
    | 10, _ => exact rfl
    | 11, _ => exact ce_at2 (l := [some 1, some 2, none, some 9, some 3, some 4, some 5, some 6, some 7, some 8, none, none, none, none]) (congrArg (fun z : Nat => ([.ref (td 1), .ref (td 2), .int 0, .ref z, .ref (td 3), .ref (td 4), .ref (td 5), .ref (td 6), .ref (td 7), .ref (td 8), .int 0, .int 0, .int 0, .int 0] : List Value)) ht9)
    | 12, _ => exact rfl
    | 13, _ => exact rfl
    | 14, _ => exact rfl
    | 15, _ => exact rfl
    | 16, _ => exact rfl
    | 17, _ => exact rfl
    | 18, _ => exact rfl
    | 19, _ => exact rfl
    | 20, _ => exact ce_at rfl
    | 21, _ => exact ce_at rfl
    | 22, _ => exact rfl
    | (k + 23), h => exact absurd h (by omega)
  · rw [List.getElem?_eq_none (by simp [wl]; omega), List.getElem?_eq_none (by simp [wl]; omega)]
