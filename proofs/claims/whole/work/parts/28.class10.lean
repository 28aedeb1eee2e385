set_option maxRecDepth 20000 in
theorem l62_X0_count {X : XxT} {post : Option Value → HpT → Prop} (hF : Full X.1) (F : FxT X cX0_count RX0 2) (Rr : RxT X none post) (hL : X.2.2.2.2.2.2.2.2.2.2.2.2.2.1 = 3) {h : HpT} {n c : Nat} {g : Int32} (hn : n ≤ 9) (eh : h 1 9 = nI n) (hc : c ≤ 9) (hp : post none (va_up (va_up h 12 (if h 12 c = -1 ∨ g < h 12 c then upd (h 12) c g else h 12)) 13 (if h 12 c = -1 ∨ g < h 12 c then upd (h 13) c (packF (h 14) n) else h 13))) : rn X 62 [(0, .ref (gad X.1 11)), (1, .int g), (2, .int (nI c))] [] h := by
  refine rn_aload_n (np := 63) F dX0_count_62 rfl rfl <| rn_getr (np := 66) F dX0_count_63 rfl fF_X0_9 (fs hF rfl rfl) rfl <| rn_iload_n (np := 67) F dX0_count_66 rfl rfl <| rn_ialdN (np := 68) F dX0_count_67 rfl (fs hF rfl rfl) rfl (by omega) <| rn_iconst (np := 69) (v := (-1)) F dX0_count_68 rfl rfl <| rn_icmp_eq (tg := 82) (np := 72) F dX0_count_69 rfl rfl (fun c69 => rn_aload_n (np := 83) F dX0_count_82 rfl rfl <| rn_getr (np := 86) F dX0_count_83 rfl fF_X0_9 (fs hF rfl rfl) rfl <| rn_iload_n (np := 87) F dX0_count_86 rfl rfl <| rn_iload_n (np := 88) F dX0_count_87 rfl rfl <| rn_iastN (np := 89) F dX0_count_88 rfl (fs hF rfl rfl) rfl (by omega) <| rn_aload_n (np := 90) F dX0_count_89 rfl rfl <| rn_getr (np := 93) F dX0_count_90 rfl fF_X0_15 (fs hF rfl rfl) rfl <| rn_iload_n (np := 94) F dX0_count_93 rfl rfl <| rn_aload_n (np := 95) F dX0_count_94 rfl rfl <| rn_getr (np := 98) F dX0_count_95 rfl fF_X0_18 (fs hF rfl rfl) rfl <| rn_aload_n (np := 99) F dX0_count_98 rfl rfl <| rn_getr (np := 102) F dX0_count_99 rfl fF_X0_36 (fs hF rfl rfl) rfl <| rn_getfE (np := 105) F dX0_count_102 rfl fF_X0_80 (fs hF rfl rfl) rfl eh <| rn_cN2i (np := 108) F dX0_count_105 rfl cs_X4_pack (rn_nw138 F) (c_X4_pack hF (fs hF rfl rfl) (by omega)) (Nat.le_of_ble_eq_true rfl) (Nat.le_of_ble_eq_true rfl) <| rn_iastN (np := 109) F dX0_count_108 rfl (fs hF rfl rfl) rfl (by omega) <| rn_vret F Rr dX0_count_109 ?_) (fun c69 => rn_iload_n (np := 73) F dX0_count_72 rfl rfl <| rn_aload_n (np := 74) F dX0_count_73 rfl rfl <| rn_getr (np := 77) F dX0_count_74 rfl fF_X0_9 (fs hF rfl rfl) rfl <| rn_iload_n (np := 78) F dX0_count_77 rfl rfl <| rn_ialdN (np := 79) F dX0_count_78 rfl (fs hF rfl rfl) rfl (by omega) <| rn_icmp_ge (tg := 109) (np := 82) F dX0_count_79 rfl rfl (fun c79 => rn_vret F Rr dX0_count_109 ?_) (fun c79 => rn_aload_n (np := 83) F dX0_count_82 rfl rfl <| rn_getr (np := 86) F dX0_count_83 rfl fF_X0_9 (fs hF rfl rfl) rfl <| rn_iload_n (np := 87) F dX0_count_86 rfl rfl <| rn_iload_n (np := 88) F dX0_count_87 rfl rfl <| rn_iastN (np := 89) F dX0_count_88 rfl (fs hF rfl rfl) rfl (by omega) <| rn_aload_n (np := 90) F dX0_count_89 rfl rfl <| rn_getr (np := 93) F dX0_count_90 rfl fF_X0_15 (fs hF rfl rfl) rfl <| rn_iload_n (np := 94) F dX0_count_93 rfl rfl <| rn_aload_n (np := 95) F dX0_count_94 rfl rfl <| rn_getr (np := 98) F dX0_count_95 rfl fF_X0_18 (fs hF rfl rfl) rfl <| rn_aload_n (np := 99) F dX0_count_98 rfl rfl <| rn_getr (np := 102) F dX0_count_99 rfl fF_X0_36 (fs hF rfl rfl) rfl <| rn_getfE (np := 105) F dX0_count_102 rfl fF_X0_80 (fs hF rfl rfl) rfl eh <| rn_cN2i (np := 108) F dX0_count_105 rfl cs_X4_pack (rn_nw138 F) (c_X4_pack hF (fs hF rfl rfl) (by omega)) (Nat.le_of_ble_eq_true rfl) (Nat.le_of_ble_eq_true rfl) <| rn_iastN (np := 109) F dX0_count_108 rfl (fs hF rfl rfl) rfl (by omega) <| rn_vret F Rr dX0_count_109 ?_))
  · rw [if_pos (Or.inl c69), if_pos (Or.inl c69)] at hp; exact hp
  · rw [if_neg (fun q => q.elim c69 (Int32.not_lt.mpr c79)), if_neg (fun q => q.elim c69 (Int32.not_lt.mpr c79)), up_id, up_id] at hp; exact hp
  · rw [if_pos (Or.inr (Int32.not_le.mp c79)), if_pos (Or.inr (Int32.not_le.mp c79))] at hp; exact hp
set_option maxRecDepth 20000 in
theorem l44_X0_count {X : XxT} {post : Option Value → HpT → Prop} (hF : Full X.1) (F : FxT X cX0_count RX0 2) (Rr : RxT X none post) (hL : X.2.2.2.2.2.2.2.2.2.2.2.2.2.1 = 3) {h : HpT} {n c : Nat} {g : Int32} (hn : n ≤ 9) (eh : h 1 9 = nI n) (hc : c ≤ 9) (hp : post none (va_up (va_up (va_up h 11 (if g = h 11 12 then upd (h 11) 2 (h 11 2 + 1) else h 11)) 12 (if h 12 c = -1 ∨ g < h 12 c then upd (h 12) c g else h 12)) 13 (if h 12 c = -1 ∨ g < h 12 c then upd (h 13) c (packF (h 14) n) else h 13))) : rn X 44 [(0, .ref (gad X.1 11)), (1, .int g), (2, .int (nI c))] [] h := by
  refine rn_iload_n (np := 45) F dX0_count_44 rfl rfl <| rn_aload_n (np := 46) F dX0_count_45 rfl rfl <| rn_getf (np := 49) F dX0_count_46 rfl fF_X0_60 (fs hF rfl rfl) rfl <| rn_icmp_ne (tg := 62) (np := 52) F dX0_count_49 rfl rfl (fun c49 => ?_) (fun c49 => rn_aload_n (np := 53) F dX0_count_52 rfl rfl <| rn_dup (np := 54) F dX0_count_53 rfl rfl <| rn_getf (np := 57) F dX0_count_54 rfl fF_X0_57 (fs hF rfl rfl) rfl <| rn_iconst (np := 58) (v := 1) F dX0_count_57 rfl rfl <| rn_iadd (np := 59) F dX0_count_58 rfl <| rn_putf (np := 62) F dX0_count_59 rfl fP_X0_57 (fs hF rfl rfl) rfl rfl rfl <| ?_)
  · rw [if_neg c49, up_id] at hp
    exact l62_X0_count hF F Rr hL hn eh hc hp
  · rw [if_pos c49] at hp
    exact l62_X0_count (h := hs h 11 2 (h 11 2 + 1)) hF F Rr hL hn eh hc hp
set_option maxRecDepth 20000 in
theorem c_X0_count {G : GxT} (hF : Full G) {h : HpT} {b : Nat → Bool} {n c : Nat} {g : Int32} (hn : n ≤ 9) (eh : h 1 9 = nI n) (hc : c ≤ 9) (hT : TG b h) : mcv G yX0_count cX0_count 3 none 2 [.ref (gad G 11), .int g, .int (nI c)] h (cntH h (bP (sfT b (h 18) (h 1 11))) g c (packF (h 14) n)) := by
  refine mc_of (by decide) (Nat.le_of_ble_eq_true rfl) (fun X hG F Rr hL => ?_)
  subst hG
  have F : FxT X cX0_count RX0 2 := F
  show rn X 0 [(0, .ref (gad X.1 11)), (1, .int g), (2, .int (nI c))] [] h
  refine rn_aload_n (np := 1) F dX0_count_0 rfl rfl <| rn_cV0i (np := 4) F dX0_count_1 rfl cv_X0_isLaidSafe wM_X0_134 (fs hF rfl rfl) rfl (c_X0_isLaidSafe hF hT) (Nat.le_of_ble_eq_true rfl) (Nat.le_of_ble_eq_true rfl) <| rn_if_ne (tg := 8) (np := 7) F dX0_count_4 rfl rfl (fun c4 => rn_aload_n (np := 9) F dX0_count_8 rfl rfl <| rn_dup (np := 10) F dX0_count_9 rfl rfl <| rn_getf (np := 13) F dX0_count_10 rfl fF_X0_47 (fs hF rfl rfl) rfl <| rn_iconst (np := 14) (v := 1) F dX0_count_13 rfl rfl <| rn_iadd (np := 15) F dX0_count_14 rfl <| rn_putf (np := 18) F dX0_count_15 rfl fP_X0_47 (fs hF rfl rfl) rfl rfl rfl <| rn_aload_n (np := 19) F dX0_count_18 rfl rfl <| rn_getf (np := 22) F dX0_count_19 rfl fF_X0_60 (fs hF rfl rfl) rfl <| rn_iconst (np := 23) (v := (-1)) F dX0_count_22 rfl rfl <| rn_icmp_eq (tg := 34) (np := 26) F dX0_count_23 rfl rfl (fun c23 => rn_aload_n (np := 35) F dX0_count_34 rfl rfl <| rn_iload_n (np := 36) F dX0_count_35 rfl rfl <| rn_putf (np := 39) F dX0_count_36 rfl fP_X0_60 (fs hF rfl rfl) rfl rfl rfl <| rn_aload_n (np := 40) F dX0_count_39 rfl rfl <| rn_iconst (np := 41) (v := 0) F dX0_count_40 rfl rfl <| rn_putf (np := 44) F dX0_count_41 rfl fP_X0_57 (fs hF rfl rfl) rfl rfl rfl <| ?_) (fun c23 => rn_iload_n (np := 27) F dX0_count_26 rfl rfl <| rn_aload_n (np := 28) F dX0_count_27 rfl rfl <| rn_getf (np := 31) F dX0_count_28 rfl fF_X0_60 (fs hF rfl rfl) rfl <| rn_icmp_ge (tg := 44) (np := 34) F dX0_count_31 rfl rfl (fun c31 => ?_) (fun c31 => rn_aload_n (np := 35) F dX0_count_34 rfl rfl <| rn_iload_n (np := 36) F dX0_count_35 rfl rfl <| rn_putf (np := 39) F dX0_count_36 rfl fP_X0_60 (fs hF rfl rfl) rfl rfl rfl <| rn_aload_n (np := 40) F dX0_count_39 rfl rfl <| rn_iconst (np := 41) (v := 0) F dX0_count_40 rfl rfl <| rn_putf (np := 44) F dX0_count_41 rfl fP_X0_57 (fs hF rfl rfl) rfl rfl rfl <| ?_))) (fun c4 => rn_vret F Rr dX0_count_7 ?_)
  · rw [hs3']
    refine l44_X0_count (h := va_up h 11 (upd (upd (upd (h 11) 11 (h 11 11 + 1)) 12 g) 2 0)) hF F Rr hL hn eh hc ⟨rfl, ?_⟩
    rw [cntH_1 h c4, up_up]
    congr 3
    unfold cn11
    have e : (upd (h 11) 11 (h 11 11 + 1)) 12 = -1 := c23
    simp only [e, true_or, if_true]
    rfl
  · refine l44_X0_count (h := va_up h 11 (upd (h 11) 11 (h 11 11 + 1))) hF F Rr hL hn eh hc ⟨rfl, ?_⟩
    rw [cntH_1 h c4, up_up]
    congr 3
    unfold cn11
    have e : ¬ ((upd (h 11) 11 (h 11 11 + 1)) 12 = -1 ∨ g < (upd (h 11) 11 (h 11 11 + 1)) 12) := fun q => q.elim c23 (Int32.not_lt.mpr c31)
    simp only [e, if_false]
    rfl
  · rw [hs3']
    refine l44_X0_count (h := va_up h 11 (upd (upd (upd (h 11) 11 (h 11 11 + 1)) 12 g) 2 0)) hF F Rr hL hn eh hc ⟨rfl, ?_⟩
    rw [cntH_1 h c4, up_up]
    congr 3
    unfold cn11
    have e : ((upd (h 11) 11 (h 11 11 + 1)) 12 = -1 ∨ g < (upd (h 11) 11 (h 11 11 + 1)) 12) := Or.inr (Int32.not_le.mp c31)
    simp only [e, if_true]
    rfl
  · refine ⟨rfl, ?_⟩
    rw [c4, cntH_0]
