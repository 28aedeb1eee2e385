/-- the world behind both constructors -/
def h00 : HpT := fun k => if k < 23 then hI k else hM (k - 23)
theorem w6_fill : w6 = fillF (fun _ => 0) 6 1 := by
  funext j
  match j with
  | 0 => rfl
  | 1 => rfl
  | 2 => rfl
  | 3 => rfl
  | 4 => rfl
  | 5 => rfl
  | (k + 6) => simp [w6, fillF, upd]
theorem RX_0 : RX h00 := by
  have no : ∀ {i : Nat} {C : Prop}, i < 0 → C := fun h => absurd h (Nat.not_lt_zero _)
  refine ⟨0, 0, 0, fun _ => 0, fun _ => 0, fun i => i, ?_⟩
  refine ⟨⟨by decide, rfl, fun i _ => ⟨0, by decide, rfl⟩, fun i _ => ⟨0, by decide, rfl⟩, fun j _ => rfl⟩, ⟨by decide, rfl, fun i _ => ⟨0, by decide, rfl⟩, fun i _ => ⟨0, by decide, rfl⟩⟩, ⟨by decide, rfl, fun k hk => no hk⟩, ⟨fun i hi => no hi, fun k hk => no hk, fun a => ⟨fun _ o ho => no ho, fun _ o ho => no ho⟩⟩, fun i hi => no hi, ⟨rfl, rfl, rfl, w6_fill, fun i hi => no hi⟩, ⟨rfl, rfl, fun k hk => no hk⟩, ⟨by decide, rfl, rfl, fun k hk => no hk⟩, ⟨rfl, rfl, rfl⟩, fun j _ => rfl, ⟨fun i _ => ⟨0, by decide, rfl⟩, fun t ht => ?_, ⟨400, by decide, rfl⟩⟩, fun y => absurd rfl y⟩
  show 0 ≤ (fillF (fun _ => 0) 6 1 t).toInt ∧ (fillF (fun _ => 0) 6 1 t).toInt ≤ 9
  unfold fillF
  rw [if_pos ht]
  exact ⟨by decide, by decide⟩
set_option maxRecDepth 20000 in
theorem wl_app {cA : ClassId} {a1 a2 : Nat → Nat} : wl 23 SHF a1 cA hI ++ wl 15 SHM a2 cA hM = wl 38 SHF (fun k => if k < 23 then a1 k else a2 (k - 23)) cA h00 := by
  apply List.ext_getElem?
  intro i
  by_cases hi : i < 38
  · rw [wl_at hi]
    match i, hi with
    | 0, _ => exact ce_at2 rfl
    | 1, _ => exact ce_at2 rfl
    | 2, _ => exact rfl
    | 3, _ => exact rfl
    | 4, _ => exact rfl
    | 5, _ => exact rfl
    | 6, _ => exact rfl
    | 7, _ => exact rfl
    | 8, _ => exact rfl
    | 9, _ => exact rfl
    | 10, _ => exact rfl
    | 11, _ => exact ce_at2 rfl
    | 12, _ => exact rfl
    | 13, _ => exact rfl
    | 14, _ => exact rfl
    | 15, _ => exact rfl
    | 16, _ => exact rfl
    | 17, _ => exact rfl
    | 18, _ => exact rfl
    | 19, _ => exact rfl
    | 20, _ => exact ce_at2 rfl
    | 21, _ => exact ce_at2 rfl
    | 22, _ => exact rfl
    | 23, _ => exact ce_at2 rfl
    | 24, _ => exact rfl
    | 25, _ => exact rfl
    | 26, _ => exact rfl
    | 27, _ => exact rfl
    | 28, _ => exact rfl
    | 29, _ => exact rfl
    | 30, _ => exact rfl
    | 31, _ => exact rfl
    | 32, _ => exact rfl
    | 33, _ => exact rfl
    | 34, _ => exact rfl
    | 35, _ => exact rfl
    | 36, _ => exact rfl
    | 37, _ => exact rfl
    | (k + 38), h => exact absurd h (by omega)
  · rw [List.getElem?_eq_none (by simp [wl]; omega), List.getElem?_eq_none (by simp [wl]; omega)]
theorem SxT_of {X : XxT} {Y : YxT} (h1 : X.2.2.2.2.1 = Y.2.2.2.2.2.2.2.1) (h2 : X.2.2.2.2.2.2.2.2.2.2.2.2.2.2 = Y.2.2.2.2.2.2.2.2.2.2.2.2.2.2.2) {b L : Nat} {xs : Nat → Int32} (S : va_X b L xs Y.2.2.2.2.2.2.2.1 Y.2.2.2.2.2.2.2.1.heap ∧ b < Y.2.2.2.2.2.2.2.1.heap.size ∧ ¬ Y.2.2.2.2.2.2.2.2.2.2.2.2.2.2.2 b) : SxT X b L xs := by
  obtain ⟨G, p, e, R, s, m, args, below, meth, c, cells, slots, Q, nL, A⟩ := X
  obtain ⟨l, cA, D, tT, p', e', R', s', m', args', below', meth', c', Q', nL', A'⟩ := Y
  have h1 : s = s' := h1
  have h2 : A = A' := h2
  subst h1 h2
  exact S
set_option maxRecDepth 40000 in
set_option maxHeartbeats 4000000 in
/-- the law, from its entry: both objects are made, then its loop -/
theorem law_start {Y : YxT} (F : FyT Y cL_law RL 16 600000 7302250) (hL : Y.2.2.2.2.2.2.2.2.2.2.2.2.2.2.1 = 4) {b L : Nat} {xs : Nat → Int32} (hLL : L ≤ 2048) (S : va_X b L xs Y.2.2.2.2.2.2.2.1 Y.2.2.2.2.2.2.2.1.heap ∧ b < Y.2.2.2.2.2.2.2.1.heap.size ∧ ¬ Y.2.2.2.2.2.2.2.2.2.2.2.2.2.2.2 b)
    (fin : ∀ lo ws cells slots, cells ≤ 600000 → slots ≤ 7302250 → cn Y 868 lo [] ws cells slots) : cn Y 0 [(0, .ref b)] [] [] 0 0 := by
  refine cn_new (np := 3) (fs := [.null, .null, .null, .null, .int 0, .int 0, .int 0]) F dL_law_0 rfl (ci := 4) rfl wU_X4 tyX4_ok wL_L_7 wB_X4 wN_X4 df_X4 (Nat.le_of_ble_eq_true rfl) (Nat.le_of_ble_eq_true rfl) (fun q0 => ?_)
  refine cn_dup (np := 4) F dL_law_3 rfl rfl <| cn_callJ (np := 7) (n := 0) (As := []) (rest := [.ref q0]) (wr := []) (nw := 0) F dL_law_4 rfl wM_L_9 wI_yX4_init wN_X4 wC_yX4_init rfl (by decide +kernel) rfl k_X4_init rfl rfl (Nat.le_of_ble_eq_true rfl) (Nat.le_of_ble_eq_true rfl) (Nat.le_of_ble_eq_true rfl) (Nat.le_of_ble_eq_true rfl) (Nat.le_of_ble_eq_true rfl) (fun w1 hp => ?_)
  obtain ⟨a1, rfl, rfl⟩ := hp
  refine cn_wsE (ws2 := wl 23 SHF a1 Y.2.1 hI) rfl ?_
  refine cn_astore_n (np := 8) F dL_law_7 rfl hL rfl ?_
  show cn Y 8 [(1, .ref (a1 0)), (0, .ref b)] [] _ _ _
  refine cn_new (np := 11) (fs := [.null, .null, .null, .null, .int 0, .null, .int 0, .null, .int 0, .null, .int 0, .null, .null, .null, .null, .null, .null, .int 0, .int 0, .int 0, .null]) F dL_law_8 rfl (ci := 5) rfl wU_X5 tyX5_ok wL_L_10 wB_X5 wN_X5 df_X5 (Nat.le_of_ble_eq_true rfl) (Nat.le_of_ble_eq_true rfl) (fun q8 => ?_)
  refine cn_dup (np := 12) F dL_law_11 rfl rfl <| cn_callJ (np := 15) (n := 0) (As := []) (rest := [.ref q8]) (wr := wl 23 SHF a1 Y.2.1 hI) (nw := 23) F dL_law_12 rfl wM_L_12 wI_yX5_init wN_X5 wC_yX5_init rfl (by decide +kernel) rfl k_X5_init rfl rfl (Nat.le_of_ble_eq_true rfl) (Nat.le_of_ble_eq_true rfl) (Nat.le_of_ble_eq_true rfl) (Nat.le_of_ble_eq_true rfl) (Nat.le_of_ble_eq_true rfl) (fun w1 hp => ?_)
  obtain ⟨a2, rfl, rfl⟩ := hp
  refine cn_astore_n (np := 16) F dL_law_15 rfl hL rfl ?_
  show cn Y 16 [(2, .ref (a2 0)), (1, .ref (a1 0)), (0, .ref b)] [] _ _ _
  refine cn_rn (N := 38) (S := SHF) (ad := fun k => if k < 23 then a1 k else a2 (k - 23)) (h := h00) F wl_app (Nat.le_of_ble_eq_true rfl) (Nat.le_of_ble_eq_true rfl) (fun X hG FX hLX hsX hAX back => ?_)
  refine rn_pick (lo2 := [(0, .ref b), (1, .ref (a1 0)), (2, .ref (a2 0))]) [2, 1, 0] rfl ?_
  refine rn_iconst (np := 17) (v := nI 0) FX dL_law_16 rfl rfl <| rn_istore_n (np := 18) (nl := 4) FX dL_law_17 rfl (hLX.trans hL) rfl <| ?_
  have e0 : gad X.1 0 = a1 0 := by rw [hG]; rfl
  have e1 : gad X.1 23 = a2 0 := by rw [hG]; rfl
  have hF : Full X.1 := ⟨by rw [hG], by rw [hG]⟩
  have z := law_loop hF FX (hLX.trans hL) (SxT_of hsX hAX S) hLL (fun h i => back _ _ _ _ (fin _ _ _ _ (Nat.le_of_ble_eq_true rfl) (Nat.le_of_ble_eq_true rfl))) (L + 1) 0 h00 (by omega) (by omega) RX_0
  rw [e0, e1] at z
  exact z
