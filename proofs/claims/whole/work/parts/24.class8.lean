set_option maxRecDepth 20000 in
theorem l1_X0_findTightHours {X : XxT} {post : Option Value → HpT → Prop} (hF : Full X.1) (F : FxT X cX0_findTightHours RX0 1) (Rr : RxT X none post) (hL : X.2.2.2.2.2.2.2.2.2.2.2.2.2.1 = 5) {h : HpT} {n t : Nat} (hn : n ≤ 9) (ht : t < 6) (eh : h 1 9 = nI n) (hkk : rn X 77 [(0, .ref (gad X.1 11)), (1, .int (nI t)), (2, .int (takS (h 15) t n)), (3, .int (givS (h 15) t n)), (4, .int (nI n))] [] h) : ∀ (k : Nat) (i : Nat), n - i < k → i ≤ n → rn X 20 [(0, .ref (gad X.1 11)), (1, .int (nI t)), (2, .int (takS (h 15) t i)), (3, .int (givS (h 15) t i)), (4, .int (nI i))] [] h := by
  intro k
  induction k with
  | zero => intro i hk; exact absurd hk (Nat.not_lt_zero _)
  | succ k ih =>
    intro i hk hi
    refine rn_iload (np := 22) F dX0_findTightHours_20 rfl rfl <| rn_aload_n (np := 23) F dX0_findTightHours_22 rfl rfl <| rn_getr (np := 26) F dX0_findTightHours_23 rfl fF_X0_36 (fs hF rfl rfl) rfl <| rn_getfE (np := 29) F dX0_findTightHours_26 rfl fF_X0_80 (fs hF rfl rfl) rfl eh <| rn_Nge (tg := 77) (np := 32) F dX0_findTightHours_29 rfl rfl rfl rfl (by omega) (fun c29 => ?_) (fun c29 => rn_iload_n (np := 33) F dX0_findTightHours_32 rfl rfl <| rn_aload_n (np := 34) F dX0_findTightHours_33 rfl rfl <| rn_getr (np := 37) F dX0_findTightHours_34 rfl fF_X0_21 (fs hF rfl rfl) rfl <| rn_iload (np := 39) F dX0_findTightHours_37 rfl rfl <| rn_bipush (np := 41) (v := 6) F dX0_findTightHours_39 rfl rfl <| rn_imul (np := 42) F dX0_findTightHours_41 rfl <| rn_iload_n (np := 43) F dX0_findTightHours_42 rfl rfl <| rn_iadd (np := 44) F dX0_findTightHours_43 rfl <| rn_ialdN (np := 45) F dX0_findTightHours_44 rfl (fs hF rfl rfl) (ix6 i t) (by omega) <| rn_iconst (np := 46) (v := 0) F dX0_findTightHours_45 rfl rfl <| rn_mmax (np := 49) F dX0_findTightHours_46 rfl wM_X0_92 wT_yJ9_max_7cf53 wN_J9 wC_yJ9_max_7cf53 (Nat.le_of_ble_eq_true rfl) (Nat.le_of_ble_eq_true rfl) <| rn_iadd (np := 50) F dX0_findTightHours_49 rfl <| rn_istore_n (np := 51) F dX0_findTightHours_50 rfl hL rfl <| rn_iload_n (np := 52) F dX0_findTightHours_51 rfl rfl <| rn_aload_n (np := 53) F dX0_findTightHours_52 rfl rfl <| rn_getr (np := 56) F dX0_findTightHours_53 rfl fF_X0_21 (fs hF rfl rfl) rfl <| rn_iload (np := 58) F dX0_findTightHours_56 rfl rfl <| rn_bipush (np := 60) (v := 6) F dX0_findTightHours_58 rfl rfl <| rn_imul (np := 61) F dX0_findTightHours_60 rfl <| rn_iload_n (np := 62) F dX0_findTightHours_61 rfl rfl <| rn_iadd (np := 63) F dX0_findTightHours_62 rfl <| rn_ialdN (np := 64) F dX0_findTightHours_63 rfl (fs hF rfl rfl) (ix6 i t) (by omega) <| rn_ineg (np := 65) F dX0_findTightHours_64 rfl <| rn_iconst (np := 66) (v := 0) F dX0_findTightHours_65 rfl rfl <| rn_mmax (np := 69) F dX0_findTightHours_66 rfl wM_X0_92 wT_yJ9_max_7cf53 wN_J9 wC_yJ9_max_7cf53 (Nat.le_of_ble_eq_true rfl) (Nat.le_of_ble_eq_true rfl) <| rn_iadd (np := 70) F dX0_findTightHours_69 rfl <| rn_istore_n (np := 71) F dX0_findTightHours_70 rfl hL rfl <| rn_iincN (np := 74) F dX0_findTightHours_71 rfl rfl hL rfl <| rn_goto (np := 20) F dX0_findTightHours_74 rfl <| ?_)
    · have e : i = n := by omega
      subst e; exact hkk
    · exact ih (i + 1) (by omega) (by omega)
set_option maxRecDepth 20000 in
theorem l_X0_findTightHours {X : XxT} {post : Option Value → HpT → Prop} (hF : Full X.1) (F : FxT X cX0_findTightHours RX0 1) (Rr : RxT X none post) (hL : X.2.2.2.2.2.2.2.2.2.2.2.2.2.1 = 5) {h : HpT} {n : Nat} (hn : n ≤ 9) (eh : h 1 9 = nI n) (hp : post none (va_up (va_up h 11 (upd (h 11) 10 (nI (tcN (tgB (h 15) (h 1 11) n) 6)))) 19 (thF (tgB (h 15) (h 1 11) n) (h 19) 6))) : ∀ (k : Nat) (t : Nat), 6 - t < k → t ≤ 6 → rn X 7 [(0, .ref (gad X.1 11)), (1, .int (nI t))] [] (tgh h (tgB (h 15) (h 1 11) n) t) := by
  intro k
  induction k with
  | zero => intro t hk; exact absurd hk (Nat.not_lt_zero _)
  | succ k ih =>
    intro t hk ht
    refine rn_iload_n (np := 8) F dX0_findTightHours_7 rfl rfl <| rn_bipush (np := 10) (v := 6) F dX0_findTightHours_8 rfl rfl <| rn_Nge (tg := 118) (np := 13) (b := 6) F dX0_findTightHours_10 rfl rfl rfl rfl (by omega) (fun c10 => rn_vret F Rr dX0_findTightHours_118 ?_) (fun c10 => rn_iconst (np := 14) (v := 0) F dX0_findTightHours_13 rfl rfl <| rn_istore_n (np := 15) F dX0_findTightHours_14 rfl hL rfl <| rn_iconst (np := 16) (v := 0) F dX0_findTightHours_15 rfl rfl <| rn_istore_n (np := 17) F dX0_findTightHours_16 rfl hL rfl <| rn_iconst (np := 18) (v := 0) F dX0_findTightHours_17 rfl rfl <| rn_istore (np := 20) F dX0_findTightHours_18 rfl hL rfl <| ?_)
    · rw [show t = 6 by omega]; exact hp
    · refine l1_X0_findTightHours (h := tgh h (tgB (h 15) (h 1 11) n) t) hF F Rr hL hn (by omega) eh ?_ (n + 1) 0 (by omega) (by omega)
      refine rn_iload_n (np := 78) F dX0_findTightHours_77 rfl rfl <| rn_iload_n (np := 79) F dX0_findTightHours_78 rfl rfl <| rn_mmax (np := 82) F dX0_findTightHours_79 rfl wM_X0_92 wT_yJ9_max_7cf53 wN_J9 wC_yJ9_max_7cf53 (Nat.le_of_ble_eq_true rfl) (Nat.le_of_ble_eq_true rfl) <| rn_aload_n (np := 83) F dX0_findTightHours_82 rfl rfl <| rn_getr (np := 86) F dX0_findTightHours_83 rfl fF_X0_36 (fs hF rfl rfl) rfl <| rn_getf (np := 89) F dX0_findTightHours_86 rfl fF_X0_97 (fs hF rfl rfl) rfl <| rn_icmp_le (tg := 112) (np := 92) F dX0_findTightHours_89 rfl rfl (fun c89 => rn_iincN (np := 115) F dX0_findTightHours_112 rfl rfl hL rfl <| rn_goto (np := 7) F dX0_findTightHours_115 rfl <| ?_) (fun c89 => rn_aload_n (np := 93) F dX0_findTightHours_92 rfl rfl <| rn_getr (np := 96) F dX0_findTightHours_93 rfl fF_X0_33 (fs hF rfl rfl) rfl <| rn_aload_n (np := 97) F dX0_findTightHours_96 rfl rfl <| rn_getfE (np := 100) F dX0_findTightHours_97 rfl fF_X0_89 (fs hF rfl rfl) rfl (pk_us : upd (h 11) 10 (nI (tcN (tgB (h 15) (h 1 11) n) t)) 10 = nI (tcN (tgB (h 15) (h 1 11) n) t)) <| rn_iload_n (np := 101) F dX0_findTightHours_100 rfl rfl <| rn_iastN (np := 102) F dX0_findTightHours_101 rfl (fs hF rfl rfl) rfl (by have := tcN_le (tgB (h 15) (h 1 11) n) t; omega) <| rn_aload_n (np := 103) F dX0_findTightHours_102 rfl rfl <| rn_dup (np := 104) F dX0_findTightHours_103 rfl rfl <| rn_getfE (np := 107) F dX0_findTightHours_104 rfl fF_X0_89 (fs hF rfl rfl) rfl (pk_us : upd (h 11) 10 (nI (tcN (tgB (h 15) (h 1 11) n) t)) 10 = nI (tcN (tgB (h 15) (h 1 11) n) t)) <| rn_iconst (np := 108) (v := 1) F dX0_findTightHours_107 rfl rfl <| rn_iadd (np := 109) F dX0_findTightHours_108 rfl <| rn_topE (nI_1 _) <| rn_putf (np := 112) F dX0_findTightHours_109 rfl fP_X0_89 (fs hF rfl rfl) rfl rfl rfl <| rn_iincN (np := 115) F dX0_findTightHours_112 rfl rfl hL rfl <| rn_goto (np := 7) F dX0_findTightHours_115 rfl <| ?_)
      · have e : (tgB (h 15) (h 1 11) n) t = false := decide_eq_false (Int32.not_lt.mpr c89)
        have z := ih (t + 1) (by omega) (by omega)
        rw [← tg_skip e] at z
        exact rn_pick [0, 1] rfl z
      · have e : (tgB (h 15) (h 1 11) n) t = true := decide_eq_true (Int32.not_le.mp c89)
        have z := ih (t + 1) (by omega) (by omega)
        rw [← tg_step e] at z
        exact rn_pick [0, 1] rfl z
set_option maxRecDepth 20000 in
theorem c_X0_findTightHours {G : GxT} (hF : Full G) {h : HpT} {n : Nat} (hn : n ≤ 9) (eh : h 1 9 = nI n) : mcv G yX0_findTightHours cX0_findTightHours 5 none 1 [.ref (gad G 11)] h (tgh h (tgB (h 15) (h 1 11) n) 6) := by
  refine mc_of (by decide) (Nat.le_of_ble_eq_true rfl) (fun X hG F Rr hL => ?_)
  subst hG
  have F : FxT X cX0_findTightHours RX0 1 := F
  show rn X 0 [(0, .ref (gad X.1 11))] [] h
  refine rn_aload_n (np := 1) F dX0_findTightHours_0 rfl rfl <| rn_iconst (np := 2) (v := 0) F dX0_findTightHours_1 rfl rfl <| rn_putf (np := 5) F dX0_findTightHours_2 rfl fP_X0_89 (fs hF rfl rfl) rfl rfl rfl <| rn_iconst (np := 6) (v := 0) F dX0_findTightHours_5 rfl rfl <| rn_istore_n (np := 7) F dX0_findTightHours_6 rfl hL rfl <| ?_
  have e : tgh h (tgB (h 15) (h 1 11) n) 0 = hs h 11 10 0 := by
    show va_up (hs h 11 10 0) 19 (h 19) = _
    exact up_id (hs h 11 10 0) 19
  rw [← e]
  exact l_X0_findTightHours (h := h) hF F Rr hL hn eh ⟨rfl, rfl⟩ 7 0 (by omega) (by omega)
