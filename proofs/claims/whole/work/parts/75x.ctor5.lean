section CN5
variable {Y : YxT} {cc : ByteArray} {own : String} {dd mC mS pc cells slots : Nat} {lo : List (Nat × Value)}
theorem cn_arr (F : FyT Y cc own dd mC mS) {post : va_W → Prop} (Ry : RyT Y mC mS post) {p1 p2 p3 np a j N idx ci : Nat} {n : Int32} {fs : List Value} {W0 : va_W} (d0 : decode cc pc = .ok (.aload_n 0, 1)) (e0 : pc + 1 = p1) (hf0 : lfind lo 0 = some (.ref a)) (hp : ∀ st ws c s, cn Y p2 lo (.int n :: st) ws c s → cn Y p1 lo st ws c s) (d2 : decode cc p2 = .ok (.newarray .int, 2)) (e2 : p2 + 2 = p3) (h0 : ¬ n < 0) (hN : n.toNatClampNeg = N) (hby : N * 4 ≤ 536870912) (hc : cells + 1 ≤ mC) (hs : slots + N ≤ mS) (d3 : decode cc p3 = .ok (.putfield idx, 3)) (e3 : p3 + 3 = np) (hf : FgT own idx ci j (.array .int) true) (hl0 : j < fs.length)
    (k : ∀ q : Nat, cn Y np lo [] ((a, .inr (ci, fs.set j (.ref q))) :: (W0 ++ [(q, .inl (Y.2.1, N, .inl (fun _ => 0)))])) (cells + 1) (slots + N)) : cn Y pc lo [] ((a, .inr (ci, fs)) :: W0) cells slots :=
  cn_aload_n (q := 0) F d0 e0 hf0 (hp _ _ _ _ (cn_newa F d2 e2 h0 hN hby hc hs (fun q => cn_putF (q0 := 0) F Ry d3 e3 hf rfl rfl rfl hl0 (cn_wsE rfl (k q)))))
end CN5
set_option maxRecDepth 40000 in
set_option maxHeartbeats 4000000 in
theorem k5b {Y : YxT} {a q7 q15 q23 q31 q39 : Nat} (F : FyT Y cX5_init RX5 2 14 376) (Ry : RyT Y 14 376 (pM Y.2.1 a)) : cn Y 75 [(0, .ref a)] [] [(a, .inr (5, [.ref q7, .ref q15, .ref q23, .ref q31, .int 0, .ref q39, .int 400, .null, .int 0, .null, .int 0, .null, .null, .null, .null, .null, .null, .int 0, .int 0, .int 0, .null])), (q7, .inl (Y.2.1, 9, .inl (fun _ => 0))), (q15, .inl (Y.2.1, 9, .inl (fun _ => 0))), (q23, .inl (Y.2.1, 9, .inl (fun _ => 0))), (q31, .inl (Y.2.1, 9, .inl (fun _ => 0))), (q39, .inl (Y.2.1, 6, .inl (upd (upd (upd (upd (upd (upd (fun _ => 0) 0 1) 1 1) 2 1) 3 1) 4 1) 5 1)))] 5 42 := by
  refine cn_arr (np := 83) (n := 12) (N := 12) F Ry dX5_init_75 rfl rfl (fun st ws c s k => cn_bipush (np := 78) F dX5_init_76 rfl rfl k) dX5_init_78 rfl (by decide) rfl (by decide) (Nat.le_of_ble_eq_true rfl) (Nat.le_of_ble_eq_true rfl) dX5_init_80 rfl gF_X5_29 (Nat.le_of_ble_eq_true rfl) (fun q78 => ?_)
  refine cn_arr (np := 91) (n := 72) (N := 72) F Ry dX5_init_83 rfl rfl (fun st ws c s k => cn_bipush (np := 86) F dX5_init_84 rfl rfl k) dX5_init_86 rfl (by decide) rfl (by decide) (Nat.le_of_ble_eq_true rfl) (Nat.le_of_ble_eq_true rfl) dX5_init_88 rfl gF_X5_32 (Nat.le_of_ble_eq_true rfl) (fun q86 => ?_)
  refine cn_arr (np := 98) (n := 3) (N := 3) F Ry dX5_init_91 rfl rfl (fun st ws c s k => cn_iconst (np := 93) F dX5_init_92 rfl rfl k) dX5_init_93 rfl (by decide) rfl (by decide) (Nat.le_of_ble_eq_true rfl) (Nat.le_of_ble_eq_true rfl) dX5_init_95 rfl gF_X5_35 (Nat.le_of_ble_eq_true rfl) (fun q93 => ?_)
  refine cn_arr (np := 106) (n := 54) (N := 54) F Ry dX5_init_98 rfl rfl (fun st ws c s k => cn_bipush (np := 101) F dX5_init_99 rfl rfl k) dX5_init_101 rfl (by decide) rfl (by decide) (Nat.le_of_ble_eq_true rfl) (Nat.le_of_ble_eq_true rfl) dX5_init_103 rfl gF_X5_38 (Nat.le_of_ble_eq_true rfl) (fun q101 => ?_)
  refine cn_arr (np := 114) (n := 18) (N := 18) F Ry dX5_init_106 rfl rfl (fun st ws c s k => cn_bipush (np := 109) F dX5_init_107 rfl rfl k) dX5_init_109 rfl (by decide) rfl (by decide) (Nat.le_of_ble_eq_true rfl) (Nat.le_of_ble_eq_true rfl) dX5_init_111 rfl gF_X5_41 (Nat.le_of_ble_eq_true rfl) (fun q109 => ?_)
  refine cn_arr (np := 122) (n := 9) (N := 9) F Ry dX5_init_114 rfl rfl (fun st ws c s k => cn_bipush (np := 117) F dX5_init_115 rfl rfl k) dX5_init_117 rfl (by decide) rfl (by decide) (Nat.le_of_ble_eq_true rfl) (Nat.le_of_ble_eq_true rfl) dX5_init_119 rfl gF_X5_44 (Nat.le_of_ble_eq_true rfl) (fun q117 => ?_)
  refine cn_arr (np := 130) (n := 90) (N := 90) F Ry dX5_init_122 rfl rfl (fun st ws c s k => cn_bipush (np := 125) F dX5_init_123 rfl rfl k) dX5_init_125 rfl (by decide) rfl (by decide) (Nat.le_of_ble_eq_true rfl) (Nat.le_of_ble_eq_true rfl) dX5_init_127 rfl gF_X5_47 (Nat.le_of_ble_eq_true rfl) (fun q125 => ?_)
  refine cn_arr (np := 138) (n := 10) (N := 10) F Ry dX5_init_130 rfl rfl (fun st ws c s k => cn_bipush (np := 133) F dX5_init_131 rfl rfl k) dX5_init_133 rfl (by decide) rfl (by decide) (Nat.le_of_ble_eq_true rfl) (Nat.le_of_ble_eq_true rfl) dX5_init_135 rfl gF_X5_50 (Nat.le_of_ble_eq_true rfl) (fun q133 => ?_)
  refine cn_arr (np := 145) (n := 4) (N := 4) F Ry dX5_init_138 rfl rfl (fun st ws c s k => cn_iconst (np := 140) F dX5_init_139 rfl rfl k) dX5_init_140 rfl (by decide) rfl (by decide) (Nat.le_of_ble_eq_true rfl) (Nat.le_of_ble_eq_true rfl) dX5_init_142 rfl gF_X5_53 (Nat.le_of_ble_eq_true rfl) (fun q140 => ?_)
  refine cn_vret F Ry dX5_init_145 (Nat.le_of_ble_eq_true rfl) (Nat.le_of_ble_eq_true rfl) ⟨(fun k => [a, q7, q15, q23, q31, q39, q78, q86, q93, q101, q109, q117, q125, q133, q140].getD k 0), rfl, ?_⟩
  apply List.ext_getElem?
  intro i
  by_cases hi : i < 15
  · rw [wl_at hi]
    match i, hi with
    | 0, _ => exact ce_at rfl
    | 1, _ => exact rfl
    | 2, _ => exact rfl
    | 3, _ => exact rfl
    | 4, _ => exact rfl
    | 5, _ => exact rfl
    | 6, _ => exact rfl
    | 7, _ => exact rfl
    | 8, _ => exact rfl
    | 9, _ => exact rfl
    | 10, _ => exact rfl
    | 11, _ => exact rfl
    | 12, _ => exact rfl
    | 13, _ => exact rfl
    | 14, _ => exact rfl
    | (k + 15), h => exact absurd h (by omega)
  · rw [List.getElem?_eq_none (by simp [wl]; omega), List.getElem?_eq_none (by simp [wl]; omega)]
set_option maxRecDepth 40000 in
set_option maxHeartbeats 4000000 in
theorem k_X5_init {l : Launch} {cA : ClassId} {D : va_G} {tT a : Nat} : kc l cA D tT yX5_init cX5_init 1 2 14 376 [.ref a] [(a, .inr (5, [.null, .null, .null, .null, .int 0, .null, .int 0, .null, .int 0, .null, .int 0, .null, .null, .null, .null, .null, .null, .int 0, .int 0, .int 0, .null]))] (pM cA a) := by
  refine kc_of (by decide) rfl (Nat.le_of_ble_eq_true rfl) (fun Y e1 e2 e3 e4 F Ry hL => ?_)
  subst e1 e2 e3 e4
  have F : FyT Y cX5_init RX5 2 14 376 := F
  show cn Y 0 [(0, .ref a)] [] _ 0 0
  refine cn_aload_n (np := 1) F dX5_init_0 rfl rfl ?_
  refine cn_obj (np := 4) F dX5_init_1 rfl wM_X5_1 (by omega) (Nat.le_of_ble_eq_true rfl) ?_
  refine cn_aload_n (np := 5) F dX5_init_4 rfl rfl ?_
  refine cn_bipush (np := 7) (v := 9) F dX5_init_5 rfl rfl ?_
  refine cn_newa (np := 9) (N := 9) F dX5_init_7 rfl (by decide) rfl (by decide) (Nat.le_of_ble_eq_true rfl) (Nat.le_of_ble_eq_true rfl) (fun q7 => ?_)
  refine cn_wsE (ws2 := [(a, .inr (5, [.null, .null, .null, .null, .int 0, .null, .int 0, .null, .int 0, .null, .int 0, .null, .null, .null, .null, .null, .null, .int 0, .int 0, .int 0, .null])), (q7, .inl (Y.2.1, 9, .inl (fun _ => 0)))]) rfl ?_
  refine cn_putF (np := 12) (q0 := 0) F Ry dX5_init_9 rfl gF_X5_7 rfl rfl rfl (Nat.le_of_ble_eq_true rfl) ?_
  refine cn_wsE (ws2 := [(a, .inr (5, [.ref q7, .null, .null, .null, .int 0, .null, .int 0, .null, .int 0, .null, .int 0, .null, .null, .null, .null, .null, .null, .int 0, .int 0, .int 0, .null])), (q7, .inl (Y.2.1, 9, .inl (fun _ => 0)))]) rfl ?_
  refine cn_aload_n (np := 13) F dX5_init_12 rfl rfl ?_
  refine cn_bipush (np := 15) (v := 9) F dX5_init_13 rfl rfl ?_
  refine cn_newa (np := 17) (N := 9) F dX5_init_15 rfl (by decide) rfl (by decide) (Nat.le_of_ble_eq_true rfl) (Nat.le_of_ble_eq_true rfl) (fun q15 => ?_)
  refine cn_wsE (ws2 := [(a, .inr (5, [.ref q7, .null, .null, .null, .int 0, .null, .int 0, .null, .int 0, .null, .int 0, .null, .null, .null, .null, .null, .null, .int 0, .int 0, .int 0, .null])), (q7, .inl (Y.2.1, 9, .inl (fun _ => 0))), (q15, .inl (Y.2.1, 9, .inl (fun _ => 0)))]) rfl ?_
  refine cn_putF (np := 20) (q0 := 0) F Ry dX5_init_17 rfl gF_X5_13 rfl rfl rfl (Nat.le_of_ble_eq_true rfl) ?_
  refine cn_wsE (ws2 := [(a, .inr (5, [.ref q7, .ref q15, .null, .null, .int 0, .null, .int 0, .null, .int 0, .null, .int 0, .null, .null, .null, .null, .null, .null, .int 0, .int 0, .int 0, .null])), (q7, .inl (Y.2.1, 9, .inl (fun _ => 0))), (q15, .inl (Y.2.1, 9, .inl (fun _ => 0)))]) rfl ?_
  refine cn_aload_n (np := 21) F dX5_init_20 rfl rfl ?_
  refine cn_bipush (np := 23) (v := 9) F dX5_init_21 rfl rfl ?_
  refine cn_newa (np := 25) (N := 9) F dX5_init_23 rfl (by decide) rfl (by decide) (Nat.le_of_ble_eq_true rfl) (Nat.le_of_ble_eq_true rfl) (fun q23 => ?_)
  refine cn_wsE (ws2 := [(a, .inr (5, [.ref q7, .ref q15, .null, .null, .int 0, .null, .int 0, .null, .int 0, .null, .int 0, .null, .null, .null, .null, .null, .null, .int 0, .int 0, .int 0, .null])), (q7, .inl (Y.2.1, 9, .inl (fun _ => 0))), (q15, .inl (Y.2.1, 9, .inl (fun _ => 0))), (q23, .inl (Y.2.1, 9, .inl (fun _ => 0)))]) rfl ?_
  refine cn_putF (np := 28) (q0 := 0) F Ry dX5_init_25 rfl gF_X5_16 rfl rfl rfl (Nat.le_of_ble_eq_true rfl) ?_
  refine cn_wsE (ws2 := [(a, .inr (5, [.ref q7, .ref q15, .ref q23, .null, .int 0, .null, .int 0, .null, .int 0, .null, .int 0, .null, .null, .null, .null, .null, .null, .int 0, .int 0, .int 0, .null])), (q7, .inl (Y.2.1, 9, .inl (fun _ => 0))), (q15, .inl (Y.2.1, 9, .inl (fun _ => 0))), (q23, .inl (Y.2.1, 9, .inl (fun _ => 0)))]) rfl ?_
  refine cn_aload_n (np := 29) F dX5_init_28 rfl rfl ?_
  refine cn_bipush (np := 31) (v := 9) F dX5_init_29 rfl rfl ?_
  refine cn_newa (np := 33) (N := 9) F dX5_init_31 rfl (by decide) rfl (by decide) (Nat.le_of_ble_eq_true rfl) (Nat.le_of_ble_eq_true rfl) (fun q31 => ?_)
  refine cn_wsE (ws2 := [(a, .inr (5, [.ref q7, .ref q15, .ref q23, .null, .int 0, .null, .int 0, .null, .int 0, .null, .int 0, .null, .null, .null, .null, .null, .null, .int 0, .int 0, .int 0, .null])), (q7, .inl (Y.2.1, 9, .inl (fun _ => 0))), (q15, .inl (Y.2.1, 9, .inl (fun _ => 0))), (q23, .inl (Y.2.1, 9, .inl (fun _ => 0))), (q31, .inl (Y.2.1, 9, .inl (fun _ => 0)))]) rfl ?_
  refine cn_putF (np := 36) (q0 := 0) F Ry dX5_init_33 rfl gF_X5_19 rfl rfl rfl (Nat.le_of_ble_eq_true rfl) ?_
  refine cn_wsE (ws2 := [(a, .inr (5, [.ref q7, .ref q15, .ref q23, .ref q31, .int 0, .null, .int 0, .null, .int 0, .null, .int 0, .null, .null, .null, .null, .null, .null, .int 0, .int 0, .int 0, .null])), (q7, .inl (Y.2.1, 9, .inl (fun _ => 0))), (q15, .inl (Y.2.1, 9, .inl (fun _ => 0))), (q23, .inl (Y.2.1, 9, .inl (fun _ => 0))), (q31, .inl (Y.2.1, 9, .inl (fun _ => 0)))]) rfl ?_
  refine cn_aload_n (np := 37) F dX5_init_36 rfl rfl ?_
  refine cn_bipush (np := 39) (v := 6) F dX5_init_37 rfl rfl ?_
  refine cn_newa (np := 41) (N := 6) F dX5_init_39 rfl (by decide) rfl (by decide) (Nat.le_of_ble_eq_true rfl) (Nat.le_of_ble_eq_true rfl) (fun q39 => ?_)
  refine cn_wsE (ws2 := [(a, .inr (5, [.ref q7, .ref q15, .ref q23, .ref q31, .int 0, .null, .int 0, .null, .int 0, .null, .int 0, .null, .null, .null, .null, .null, .null, .int 0, .int 0, .int 0, .null])), (q7, .inl (Y.2.1, 9, .inl (fun _ => 0))), (q15, .inl (Y.2.1, 9, .inl (fun _ => 0))), (q23, .inl (Y.2.1, 9, .inl (fun _ => 0))), (q31, .inl (Y.2.1, 9, .inl (fun _ => 0))), (q39, .inl (Y.2.1, 6, .inl (fun _ => 0)))]) rfl ?_
  refine cn_dup (np := 42) F dX5_init_41 rfl rfl ?_
  refine cn_iconst (np := 43) (v := 0) F dX5_init_42 rfl rfl ?_
  refine cn_iconst (np := 44) (v := 1) F dX5_init_43 rfl rfl ?_
  refine cn_iast (np := 45) (q0 := 5) (j := 0) F dX5_init_44 rfl rfl rfl (by decide) ?_
  refine cn_wsE (ws2 := [(a, .inr (5, [.ref q7, .ref q15, .ref q23, .ref q31, .int 0, .null, .int 0, .null, .int 0, .null, .int 0, .null, .null, .null, .null, .null, .null, .int 0, .int 0, .int 0, .null])), (q7, .inl (Y.2.1, 9, .inl (fun _ => 0))), (q15, .inl (Y.2.1, 9, .inl (fun _ => 0))), (q23, .inl (Y.2.1, 9, .inl (fun _ => 0))), (q31, .inl (Y.2.1, 9, .inl (fun _ => 0))), (q39, .inl (Y.2.1, 6, .inl (upd (fun _ => 0) 0 1)))]) rfl ?_
  refine cn_dup (np := 46) F dX5_init_45 rfl rfl ?_
  refine cn_iconst (np := 47) (v := 1) F dX5_init_46 rfl rfl ?_
  refine cn_iconst (np := 48) (v := 1) F dX5_init_47 rfl rfl ?_
  refine cn_iast (np := 49) (q0 := 5) (j := 1) F dX5_init_48 rfl rfl rfl (by decide) ?_
  refine cn_wsE (ws2 := [(a, .inr (5, [.ref q7, .ref q15, .ref q23, .ref q31, .int 0, .null, .int 0, .null, .int 0, .null, .int 0, .null, .null, .null, .null, .null, .null, .int 0, .int 0, .int 0, .null])), (q7, .inl (Y.2.1, 9, .inl (fun _ => 0))), (q15, .inl (Y.2.1, 9, .inl (fun _ => 0))), (q23, .inl (Y.2.1, 9, .inl (fun _ => 0))), (q31, .inl (Y.2.1, 9, .inl (fun _ => 0))), (q39, .inl (Y.2.1, 6, .inl (upd (upd (fun _ => 0) 0 1) 1 1)))]) rfl ?_
  refine cn_dup (np := 50) F dX5_init_49 rfl rfl ?_
  refine cn_iconst (np := 51) (v := 2) F dX5_init_50 rfl rfl ?_
  refine cn_iconst (np := 52) (v := 1) F dX5_init_51 rfl rfl ?_
  refine cn_iast (np := 53) (q0 := 5) (j := 2) F dX5_init_52 rfl rfl rfl (by decide) ?_
  refine cn_wsE (ws2 := [(a, .inr (5, [.ref q7, .ref q15, .ref q23, .ref q31, .int 0, .null, .int 0, .null, .int 0, .null, .int 0, .null, .null, .null, .null, .null, .null, .int 0, .int 0, .int 0, .null])), (q7, .inl (Y.2.1, 9, .inl (fun _ => 0))), (q15, .inl (Y.2.1, 9, .inl (fun _ => 0))), (q23, .inl (Y.2.1, 9, .inl (fun _ => 0))), (q31, .inl (Y.2.1, 9, .inl (fun _ => 0))), (q39, .inl (Y.2.1, 6, .inl (upd (upd (upd (fun _ => 0) 0 1) 1 1) 2 1)))]) rfl ?_
  refine cn_dup (np := 54) F dX5_init_53 rfl rfl ?_
  refine cn_iconst (np := 55) (v := 3) F dX5_init_54 rfl rfl ?_
  refine cn_iconst (np := 56) (v := 1) F dX5_init_55 rfl rfl ?_
  refine cn_iast (np := 57) (q0 := 5) (j := 3) F dX5_init_56 rfl rfl rfl (by decide) ?_
  refine cn_wsE (ws2 := [(a, .inr (5, [.ref q7, .ref q15, .ref q23, .ref q31, .int 0, .null, .int 0, .null, .int 0, .null, .int 0, .null, .null, .null, .null, .null, .null, .int 0, .int 0, .int 0, .null])), (q7, .inl (Y.2.1, 9, .inl (fun _ => 0))), (q15, .inl (Y.2.1, 9, .inl (fun _ => 0))), (q23, .inl (Y.2.1, 9, .inl (fun _ => 0))), (q31, .inl (Y.2.1, 9, .inl (fun _ => 0))), (q39, .inl (Y.2.1, 6, .inl (upd (upd (upd (upd (fun _ => 0) 0 1) 1 1) 2 1) 3 1)))]) rfl ?_
  refine cn_dup (np := 58) F dX5_init_57 rfl rfl ?_
  refine cn_iconst (np := 59) (v := 4) F dX5_init_58 rfl rfl ?_
  refine cn_iconst (np := 60) (v := 1) F dX5_init_59 rfl rfl ?_
  refine cn_iast (np := 61) (q0 := 5) (j := 4) F dX5_init_60 rfl rfl rfl (by decide) ?_
  refine cn_wsE (ws2 := [(a, .inr (5, [.ref q7, .ref q15, .ref q23, .ref q31, .int 0, .null, .int 0, .null, .int 0, .null, .int 0, .null, .null, .null, .null, .null, .null, .int 0, .int 0, .int 0, .null])), (q7, .inl (Y.2.1, 9, .inl (fun _ => 0))), (q15, .inl (Y.2.1, 9, .inl (fun _ => 0))), (q23, .inl (Y.2.1, 9, .inl (fun _ => 0))), (q31, .inl (Y.2.1, 9, .inl (fun _ => 0))), (q39, .inl (Y.2.1, 6, .inl (upd (upd (upd (upd (upd (fun _ => 0) 0 1) 1 1) 2 1) 3 1) 4 1)))]) rfl ?_
  refine cn_dup (np := 62) F dX5_init_61 rfl rfl ?_
  refine cn_iconst (np := 63) (v := 5) F dX5_init_62 rfl rfl ?_
  refine cn_iconst (np := 64) (v := 1) F dX5_init_63 rfl rfl ?_
  refine cn_iast (np := 65) (q0 := 5) (j := 5) F dX5_init_64 rfl rfl rfl (by decide) ?_
  refine cn_wsE (ws2 := [(a, .inr (5, [.ref q7, .ref q15, .ref q23, .ref q31, .int 0, .null, .int 0, .null, .int 0, .null, .int 0, .null, .null, .null, .null, .null, .null, .int 0, .int 0, .int 0, .null])), (q7, .inl (Y.2.1, 9, .inl (fun _ => 0))), (q15, .inl (Y.2.1, 9, .inl (fun _ => 0))), (q23, .inl (Y.2.1, 9, .inl (fun _ => 0))), (q31, .inl (Y.2.1, 9, .inl (fun _ => 0))), (q39, .inl (Y.2.1, 6, .inl (upd (upd (upd (upd (upd (upd (fun _ => 0) 0 1) 1 1) 2 1) 3 1) 4 1) 5 1)))]) rfl ?_
  refine cn_putF (np := 68) (q0 := 0) F Ry dX5_init_65 rfl gF_X5_22 rfl rfl rfl (Nat.le_of_ble_eq_true rfl) ?_
  refine cn_wsE (ws2 := [(a, .inr (5, [.ref q7, .ref q15, .ref q23, .ref q31, .int 0, .ref q39, .int 0, .null, .int 0, .null, .int 0, .null, .null, .null, .null, .null, .null, .int 0, .int 0, .int 0, .null])), (q7, .inl (Y.2.1, 9, .inl (fun _ => 0))), (q15, .inl (Y.2.1, 9, .inl (fun _ => 0))), (q23, .inl (Y.2.1, 9, .inl (fun _ => 0))), (q31, .inl (Y.2.1, 9, .inl (fun _ => 0))), (q39, .inl (Y.2.1, 6, .inl (upd (upd (upd (upd (upd (upd (fun _ => 0) 0 1) 1 1) 2 1) 3 1) 4 1) 5 1)))]) rfl ?_
  refine cn_aload_n (np := 69) F dX5_init_68 rfl rfl ?_
  refine cn_sipush (np := 72) (v := 400) F dX5_init_69 rfl rfl ?_
  refine cn_put (np := 75) (q0 := 0) F dX5_init_72 rfl gF_X5_25 rfl rfl rfl (Nat.le_of_ble_eq_true rfl) ?_
  refine cn_wsE (ws2 := [(a, .inr (5, [.ref q7, .ref q15, .ref q23, .ref q31, .int 0, .ref q39, .int 400, .null, .int 0, .null, .int 0, .null, .null, .null, .null, .null, .null, .int 0, .int 0, .int 0, .null])), (q7, .inl (Y.2.1, 9, .inl (fun _ => 0))), (q15, .inl (Y.2.1, 9, .inl (fun _ => 0))), (q23, .inl (Y.2.1, 9, .inl (fun _ => 0))), (q31, .inl (Y.2.1, 9, .inl (fun _ => 0))), (q39, .inl (Y.2.1, 6, .inl (upd (upd (upd (upd (upd (upd (fun _ => 0) 0 1) 1 1) 2 1) 3 1) 4 1) 5 1)))]) rfl ?_
  refine k5b F Ry
