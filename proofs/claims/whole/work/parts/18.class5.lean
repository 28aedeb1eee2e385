set_option maxRecDepth 20000 in
theorem l_X2_greatestLoad {X : XxT} {post : Option Value → HpT → Prop} (hF : Full X.1) (F : FxT X cX2_greatestLoad RX2 1) (Rr : RxT X (some .int) post) (hL : X.2.2.2.2.2.2.2.2.2.2.2.2.2.1 = 4) {h : HpT} (hp : post (some (.int (glF (glI h) 18))) h) : ∀ (k : Nat) (t p : Nat), 24 - (4 * t + p) < k → t < 6 → p ≤ 3 → rn X 12 [(0, .ref (gad X.1 1)), (1, .int (glF (glI h) (3 * t + p))), (2, .int (nI t)), (3, .int (nI p))] [] h := by
  intro k
  induction k with
  | zero => intro t p hk; exact absurd hk (Nat.not_lt_zero _)
  | succ k ih =>
    intro t p hk ht hpp
    refine rn_iload_n (np := 13) F dX2_greatestLoad_12 rfl rfl <| rn_iconst (np := 14) (v := 3) F dX2_greatestLoad_13 rfl rfl <| rn_Nge (tg := 46) (np := 17) (b := 3) F dX2_greatestLoad_14 rfl rfl rfl rfl (by omega) (fun c14 => rn_iincN (np := 49) F dX2_greatestLoad_46 rfl rfl hL rfl <| rn_goto (np := 4) F dX2_greatestLoad_49 rfl <| rn_iload_n (np := 5) F dX2_greatestLoad_4 rfl rfl <| rn_bipush (np := 7) (v := 6) F dX2_greatestLoad_5 rfl rfl <| rn_Nge (tg := 52) (np := 10) (b := 6) F dX2_greatestLoad_7 rfl rfl rfl rfl (by omega) (fun c7 => rn_iload_n (np := 53) F dX2_greatestLoad_52 rfl rfl <| rn_iret F Rr dX2_greatestLoad_53 ?_) (fun c7 => rn_iconst (np := 11) (v := 0) F dX2_greatestLoad_10 rfl rfl <| rn_istore_n (np := 12) F dX2_greatestLoad_11 rfl hL rfl <| ?_)) (fun c14 => rn_aload_n (np := 18) F dX2_greatestLoad_17 rfl rfl <| rn_iload_n (np := 19) F dX2_greatestLoad_18 rfl rfl <| rn_iload_n (np := 20) F dX2_greatestLoad_19 rfl rfl <| rn_cV2i (np := 23) F dX2_greatestLoad_20 rfl cv_X2_loadOf wM_X2_90 (fs hF rfl rfl) rfl (c_X2_loadOf hF (by omega) (by omega)) (Nat.le_of_ble_eq_true rfl) (Nat.le_of_ble_eq_true rfl) <| rn_mabs (np := 26) F dX2_greatestLoad_23 rfl wM_X2_97 wT_yJ9_abs_0f7a4 wN_J9 wC_yJ9_abs_0f7a4 (Nat.le_of_ble_eq_true rfl) (Nat.le_of_ble_eq_true rfl) <| rn_iload_n (np := 27) F dX2_greatestLoad_26 rfl rfl <| rn_mabs (np := 30) F dX2_greatestLoad_27 rfl wM_X2_97 wT_yJ9_abs_0f7a4 wN_J9 wC_yJ9_abs_0f7a4 (Nat.le_of_ble_eq_true rfl) (Nat.le_of_ble_eq_true rfl) <| rn_icmp_le (tg := 40) (np := 33) F dX2_greatestLoad_30 rfl rfl (fun c30 => rn_iincN (np := 43) F dX2_greatestLoad_40 rfl rfl hL rfl <| rn_goto (np := 12) F dX2_greatestLoad_43 rfl <| ?_) (fun c30 => rn_aload_n (np := 34) F dX2_greatestLoad_33 rfl rfl <| rn_iload_n (np := 35) F dX2_greatestLoad_34 rfl rfl <| rn_iload_n (np := 36) F dX2_greatestLoad_35 rfl rfl <| rn_cV2i (np := 39) F dX2_greatestLoad_36 rfl cv_X2_loadOf wM_X2_90 (fs hF rfl rfl) rfl (c_X2_loadOf hF (by omega) (by omega)) (Nat.le_of_ble_eq_true rfl) (Nat.le_of_ble_eq_true rfl) <| rn_istore_n (np := 40) F dX2_greatestLoad_39 rfl hL rfl <| rn_iincN (np := 43) F dX2_greatestLoad_40 rfl rfl hL rfl <| rn_goto (np := 12) F dX2_greatestLoad_43 rfl <| ?_))
    · rw [show 3 * t + p = 18 by omega]; exact hp
    · have z := ih (t + 1) 0 (by omega) (by omega) (by omega)
      rw [show 3 * (t + 1) + 0 = 3 * t + p by omega] at z
      exact z
    · have z := ih t (p + 1) (by omega) (by omega) (by omega)
      have e : glF (glI h) (3 * t + (p + 1)) = glF (glI h) (3 * t + p) := by
        show glF (glI h) (3 * t + p + 1) = _
        rw [glF, if_neg (Int32.not_lt.mpr ?_)]
        rw [glI, show (3 * t + p) % 3 = p by omega, show (3 * t + p) / 3 = t by omega]
        exact c30
      rw [e] at z
      exact z
    · have z := ih t (p + 1) (by omega) (by omega) (by omega)
      have e : glF (glI h) (3 * t + (p + 1)) = h 10 (p * 6 + t) := by
        show glF (glI h) (3 * t + p + 1) = _
        have e0 : glI h (3 * t + p) = h 10 (p * 6 + t) := by rw [glI, show (3 * t + p) % 3 = p by omega, show (3 * t + p) / 3 = t by omega]
        rw [glF, e0]; exact if_pos (Int32.not_le.mp c30)
      rw [e] at z
      exact z
set_option maxRecDepth 20000 in
theorem c_X2_greatestLoad {G : GxT} (hF : Full G) {h : HpT}   : mci G yX2_greatestLoad cX2_greatestLoad 4 (some .int) 1 [.ref (gad G 1)] h (glF (glI h) 18) (h) := by
  refine mc_of (by decide) (Nat.le_of_ble_eq_true rfl) (fun X hG F Rr hL => ?_)
  subst hG
  have F : FxT X cX2_greatestLoad RX2 1 := F
  show rn X 0 [(0, .ref (gad X.1 1))] [] h
  refine rn_iconst (np := 1) (v := 0) F dX2_greatestLoad_0 rfl rfl <| rn_istore_n (np := 2) F dX2_greatestLoad_1 rfl hL rfl <| rn_iconst (np := 3) (v := 0) F dX2_greatestLoad_2 rfl rfl <| rn_istore_n (np := 4) F dX2_greatestLoad_3 rfl hL rfl <| rn_iload_n (np := 5) F dX2_greatestLoad_4 rfl rfl <| rn_bipush (np := 7) (v := 6) F dX2_greatestLoad_5 rfl rfl <| rn_icmp_ge (tg := 52) (np := 10) F dX2_greatestLoad_7 rfl rfl (fun q => absurd q ((by decide))) (fun _ => rn_iconst (np := 11) (v := 0) F dX2_greatestLoad_10 rfl rfl <| rn_istore_n (np := 12) F dX2_greatestLoad_11 rfl hL rfl <| ?_)
  exact l_X2_greatestLoad hF F Rr hL ⟨rfl, rfl⟩ 25 0 0 (by omega) (by omega) (by omega)
set_option maxRecDepth 20000 in
theorem l_X2_layPacked {X : XxT} {post : Option Value → HpT → Prop} (hF : Full X.1) (F : FxT X cX2_layPacked RX2 3) (Rr : RxT X none post) (hL : X.2.2.2.2.2.2.2.2.2.2.2.2.2.1 = 3) {h : HpT} {n : Nat} {l : Int32} (hS : SI n h) (hl : ∀ i, i < n → ∃ p, p < 3 ∧ phF l (nI i) = nI p) (hp : post none (cano n (va_up h 4 (lyF l (h 4) n)))) : ∀ (k : Nat) (i : Nat), n - i < k → i ≤ n → rn X 2 [(0, .ref (gad X.1 1)), (1, .int l), (2, .int (nI i))] [] (cano n (va_up h 4 (lyF l (h 4) i))) := by
  intro k
  induction k with
  | zero => intro i hk; exact absurd hk (Nat.not_lt_zero _)
  | succ k ih =>
    intro i hk hi
    have hn := hS.1
    refine rn_iload_n (np := 3) F dX2_layPacked_2 rfl rfl <| rn_aload_n (np := 4) F dX2_layPacked_3 rfl rfl <| rn_getfE (np := 7) F dX2_layPacked_4 rfl fF_X2_52 (fs hF rfl rfl) rfl hS.2.1 <| rn_Nge (tg := 26) (np := 10) F dX2_layPacked_7 rfl rfl rfl rfl (by omega) (fun c7 => rn_vret F Rr dX2_layPacked_26 ?_) (fun c7 => rn_aload_n (np := 11) F dX2_layPacked_10 rfl rfl <| rn_iload_n (np := 12) F dX2_layPacked_11 rfl rfl <| rn_iload_n (np := 13) F dX2_layPacked_12 rfl rfl <| rn_iload_n (np := 14) F dX2_layPacked_13 rfl rfl <| rn_cN2i (np := 17) F dX2_layPacked_14 rfl cs_X4_phaseIn (rn_nw84 F) (c_X4_phaseIn) (Nat.le_of_ble_eq_true rfl) (Nat.le_of_ble_eq_true rfl) <| rn_cV2v (np := 20) F dX2_layPacked_17 rfl cv_X2_setPhase wM_X2_62 (fs hF rfl rfl) rfl (c_X2_setPhase (p := (hl i (by omega)).choose) hF (SI_ly hS hi hl) (by omega) (hl i (by omega)).choose_spec.1 (hl i (by omega)).choose_spec.2) (Nat.le_of_ble_eq_true rfl) (Nat.le_of_ble_eq_true rfl) <| rn_iincN (np := 23) F dX2_layPacked_20 rfl rfl hL rfl <| rn_goto (np := 2) F dX2_layPacked_23 rfl <| ?_)
    · rw [show i = n by omega]; exact hp
    · exact ly_heap ▸ ih (i + 1) (by omega) (by omega)
set_option maxRecDepth 20000 in
theorem c_X2_layPacked {G : GxT} (hF : Full G) {h : HpT} {n : Nat} {l : Int32} (hS : SI n h) (hl : ∀ i, i < n → ∃ p, p < 3 ∧ phF l (nI i) = nI p) : mcv G yX2_layPacked cX2_layPacked 3 none 3 [.ref (gad G 1), .int l] h (cano n (va_up h 4 (lyF l (h 4) n))) := by
  refine mc_of (by decide) (Nat.le_of_ble_eq_true rfl) (fun X hG F Rr hL => ?_)
  subst hG
  have F : FxT X cX2_layPacked RX2 3 := F
  show rn X 0 [(0, .ref (gad X.1 1)), (1, .int l)] [] h
  refine rn_iconst (np := 1) (v := 0) F dX2_layPacked_0 rfl rfl <| rn_istore_n (np := 2) F dX2_layPacked_1 rfl hL rfl <| ?_
  have e : cano n (va_up h 4 (lyF l (h 4) 0)) = h := by rw [ly_0, up_id]; exact SI_self hS
  have := l_X2_layPacked (h := h) hF F Rr hL hS hl ⟨rfl, rfl⟩ (n + 1) 0 (by omega) (by omega)
  rw [e] at this
  exact this
set_option maxRecDepth 20000 in
theorem l_X2_addPair {X : XxT} {post : Option Value → HpT → Prop} (hF : Full X.1) (F : FxT X cX2_addPair RX2 1) (Rr : RxT X none post) (hL : X.2.2.2.2.2.2.2.2.2.2.2.2.2.1 = 6) {h : HpT} {n : Nat} {a b i1 i2 : Int32} (hn : n ≤ 9) (eh : h 1 9 = nI n) (hp : post none (va_up h 6 (mgF (h 6) a b n))) : ∀ (k : Nat) (i : Nat), n - i < k → i ≤ n → rn X 66 [(0, .ref (gad X.1 1)), (1, .int i1), (2, .int i2), (3, .int a), (4, .int b), (5, .int (nI i))] [] (va_up h 6 (mgF (h 6) a b i)) := by
  intro k
  induction k with
  | zero => intro i hk; exact absurd hk (Nat.not_lt_zero _)
  | succ k ih =>
    intro i hk hi
    refine rn_iload (np := 68) F dX2_addPair_66 rfl rfl <| rn_aload_n (np := 69) F dX2_addPair_68 rfl rfl <| rn_getfE (np := 72) F dX2_addPair_69 rfl fF_X2_52 (fs hF rfl rfl) rfl eh <| rn_Nge (tg := 101) (np := 75) F dX2_addPair_72 rfl rfl rfl rfl (by omega) (fun c72 => rn_vret F Rr dX2_addPair_101 ?_) (fun c72 => rn_aload_n (np := 76) F dX2_addPair_75 rfl rfl <| rn_getr (np := 79) F dX2_addPair_76 rfl fF_X2_24 (fs hF rfl rfl) rfl <| rn_iload (np := 81) F dX2_addPair_79 rfl rfl <| rn_ialdE (np := 82) F dX2_addPair_81 rfl (fs hF rfl rfl) rfl (by omega) (mg_at (h 6) a b i) <| rn_iload (np := 84) F dX2_addPair_82 rfl rfl <| rn_icmp_ne (tg := 95) (np := 87) F dX2_addPair_84 rfl rfl (fun c84 => rn_iincN (np := 98) F dX2_addPair_95 rfl rfl hL rfl <| rn_goto (np := 66) F dX2_addPair_98 rfl <| ?_) (fun c84 => rn_aload_n (np := 88) F dX2_addPair_87 rfl rfl <| rn_getr (np := 91) F dX2_addPair_88 rfl fF_X2_24 (fs hF rfl rfl) rfl <| rn_iload (np := 93) F dX2_addPair_91 rfl rfl <| rn_iload_n (np := 94) F dX2_addPair_93 rfl rfl <| rn_iastN (np := 95) F dX2_addPair_94 rfl (fs hF rfl rfl) rfl (by omega) <| rn_iincN (np := 98) F dX2_addPair_95 rfl rfl hL rfl <| rn_goto (np := 66) F dX2_addPair_98 rfl <| ?_))
    · rw [show i = n by omega]; exact hp
    · rw [mg_skip i (h 6) a b c84]; exact ih (i + 1) (by omega) (by omega)
    · rw [mg_step h i (h 6) a b c84]; exact ih (i + 1) (by omega) (by omega)
set_option maxRecDepth 20000 in
theorem c_X2_addPair {G : GxT} (hF : Full G) {h : HpT} {n i o q : Nat} (hn : n ≤ 9) (eh : h 1 9 = nI n) (hi : i < n) (ho : o < n) (hq : q < 6) (eq : h 1 10 = nI q) : mcv G yX2_addPair cX2_addPair 6 none 1 [.ref (gad G 1), .int (nI i), .int (nI o)] h (va_up (hs (hs (hs h 7 q (nI i)) 8 q (nI o)) 1 10 (nI (q + 1))) 6 (mgF (h 6) (if h 6 o < h 6 i then h 6 o else h 6 i) (if h 6 i < h 6 o then h 6 o else h 6 i) n)) := by
  refine mc_of (by decide) (Nat.le_of_ble_eq_true rfl) (fun X hG F Rr hL => ?_)
  subst hG
  have F : FxT X cX2_addPair RX2 1 := F
  show rn X 0 [(0, .ref (gad X.1 1)), (1, .int (nI i)), (2, .int (nI o))] [] h
  refine rn_aload_n (np := 1) F dX2_addPair_0 rfl rfl <| rn_getr (np := 4) F dX2_addPair_1 rfl fF_X2_27 (fs hF rfl rfl) rfl <| rn_aload_n (np := 5) F dX2_addPair_4 rfl rfl <| rn_getfE (np := 8) F dX2_addPair_5 rfl fF_X2_69 (fs hF rfl rfl) rfl eq <| rn_iload_n (np := 9) F dX2_addPair_8 rfl rfl <| rn_iastN (np := 10) F dX2_addPair_9 rfl (fs hF rfl rfl) rfl (by omega) <| rn_aload_n (np := 11) F dX2_addPair_10 rfl rfl <| rn_getr (np := 14) F dX2_addPair_11 rfl fF_X2_30 (fs hF rfl rfl) rfl <| rn_aload_n (np := 15) F dX2_addPair_14 rfl rfl <| rn_getfE (np := 18) F dX2_addPair_15 rfl fF_X2_69 (fs hF rfl rfl) rfl eq <| rn_iload_n (np := 19) F dX2_addPair_18 rfl rfl <| rn_iastN (np := 20) F dX2_addPair_19 rfl (fs hF rfl rfl) rfl (by omega) <| rn_aload_n (np := 21) F dX2_addPair_20 rfl rfl <| rn_dup (np := 22) F dX2_addPair_21 rfl rfl <| rn_getfE (np := 25) F dX2_addPair_22 rfl fF_X2_69 (fs hF rfl rfl) rfl eq <| rn_iconst (np := 26) (v := 1) F dX2_addPair_25 rfl rfl <| rn_iadd (np := 27) F dX2_addPair_26 rfl <| rn_topE (nI_1 q) <| rn_putf (np := 30) F dX2_addPair_27 rfl fP_X2_69 (fs hF rfl rfl) rfl rfl rfl <| rn_aload_n (np := 31) F dX2_addPair_30 rfl rfl <| rn_getr (np := 34) F dX2_addPair_31 rfl fF_X2_24 (fs hF rfl rfl) rfl <| rn_iload_n (np := 35) F dX2_addPair_34 rfl rfl <| rn_ialdN (np := 36) F dX2_addPair_35 rfl (fs hF rfl rfl) rfl (by omega) <| rn_aload_n (np := 37) F dX2_addPair_36 rfl rfl <| rn_getr (np := 40) F dX2_addPair_37 rfl fF_X2_24 (fs hF rfl rfl) rfl <| rn_iload_n (np := 41) F dX2_addPair_40 rfl rfl <| rn_ialdN (np := 42) F dX2_addPair_41 rfl (fs hF rfl rfl) rfl (by omega) <| rn_mmin (np := 45) F dX2_addPair_42 rfl wM_X2_72 wT_yJ9_min_7cf53 wN_J9 wC_yJ9_min_7cf53 (Nat.le_of_ble_eq_true rfl) (Nat.le_of_ble_eq_true rfl) <| rn_istore_n (np := 46) F dX2_addPair_45 rfl hL rfl <| rn_aload_n (np := 47) F dX2_addPair_46 rfl rfl <| rn_getr (np := 50) F dX2_addPair_47 rfl fF_X2_24 (fs hF rfl rfl) rfl <| rn_iload_n (np := 51) F dX2_addPair_50 rfl rfl <| rn_ialdN (np := 52) F dX2_addPair_51 rfl (fs hF rfl rfl) rfl (by omega) <| rn_aload_n (np := 53) F dX2_addPair_52 rfl rfl <| rn_getr (np := 56) F dX2_addPair_53 rfl fF_X2_24 (fs hF rfl rfl) rfl <| rn_iload_n (np := 57) F dX2_addPair_56 rfl rfl <| rn_ialdN (np := 58) F dX2_addPair_57 rfl (fs hF rfl rfl) rfl (by omega) <| rn_mmax (np := 61) F dX2_addPair_58 rfl wM_X2_77 wT_yJ9_max_7cf53 wN_J9 wC_yJ9_max_7cf53 (Nat.le_of_ble_eq_true rfl) (Nat.le_of_ble_eq_true rfl) <| rn_istore (np := 63) F dX2_addPair_61 rfl hL rfl <| rn_iconst (np := 64) (v := 0) F dX2_addPair_63 rfl rfl <| rn_istore (np := 66) F dX2_addPair_64 rfl hL rfl <| ?_
  have z := l_X2_addPair (h := hs (hs (hs h 7 q (nI i)) 8 q (nI o)) 1 10 (nI (q + 1))) (a := if h 6 o < h 6 i then h 6 o else h 6 i) (b := if h 6 i < h 6 o then h 6 o else h 6 i) (i1 := nI i) (i2 := nI o) hF F Rr hL hn eh ⟨rfl, rfl⟩ (n + 1) 0 (by omega) (by omega)
  rw [mg_0, up_id] at z
  exact z
set_option maxRecDepth 20000 in
theorem l_X3_keep {X : XxT} {post : Option Value → HpT → Prop} (hF : Full X.1) (F : FxT X cX3_keep RX3 1) (Rr : RxT X none post) (hL : X.2.2.2.2.2.2.2.2.2.2.2.2.2.1 = 2) {h : HpT} {u : Nat} {l : Int32} (hu : u < 8) (e : h 21 0 = nI u) (hp : post none (hs (hs h 22 u l) 21 0 (nI (u + 1)))) : rn X 30 [(0, .ref (gad X.1 21)), (1, .int l)] [] h := by
  refine rn_aload_n (np := 31) F dX3_keep_30 rfl rfl <| rn_getr (np := 34) F dX3_keep_31 rfl fF_X3_9 (fs hF rfl rfl) rfl <| rn_aload_n (np := 35) F dX3_keep_34 rfl rfl <| rn_getfE (np := 38) F dX3_keep_35 rfl fF_X3_15 (fs hF rfl rfl) rfl e <| rn_iload_n (np := 39) F dX3_keep_38 rfl rfl <| rn_iastN (np := 40) F dX3_keep_39 rfl (fs hF rfl rfl) rfl (by omega) <| rn_aload_n (np := 41) F dX3_keep_40 rfl rfl <| rn_dup (np := 42) F dX3_keep_41 rfl rfl <| rn_getfE (np := 45) F dX3_keep_42 rfl fF_X3_15 (fs hF rfl rfl) rfl e <| rn_iconst (np := 46) (v := 1) F dX3_keep_45 rfl rfl <| rn_iadd (np := 47) F dX3_keep_46 rfl <| rn_topE (nI_1 u) <| rn_putf (np := 50) F dX3_keep_47 rfl fP_X3_15 (fs hF rfl rfl) rfl rfl rfl <| rn_vret F Rr dX3_keep_50 ?_
  exact hp
set_option maxRecDepth 20000 in
theorem c_X3_keep {G : GxT} (hF : Full G) {h : HpT} {u : Nat} {l : Int32} (hu : u ≤ 8) (e : h 21 0 = nI u) : mcv G yX3_keep cX3_keep 2 none 1 [.ref (gad G 21), .int l] h (keepC h u l) := by
  refine mc_of (by decide) (Nat.le_of_ble_eq_true rfl) (fun X hG F Rr hL => ?_)
  subst hG
  have F : FxT X cX3_keep RX3 1 := F
  show rn X 0 [(0, .ref (gad X.1 21)), (1, .int l)] [] h
  refine rn_aload_n (np := 1) F dX3_keep_0 rfl rfl <| rn_getfE (np := 4) F dX3_keep_1 rfl fF_X3_15 (fs hF rfl rfl) rfl e <| rn_bipush (np := 6) (v := 8) F dX3_keep_4 rfl rfl <| rn_Nlt (tg := 30) (np := 9) (b := 8) F dX3_keep_6 rfl rfl rfl rfl (by omega) (fun c6 => ?_) (fun c6 => rn_aload_n (np := 10) F dX3_keep_9 rfl rfl <| rn_getr (np := 13) F dX3_keep_10 rfl fF_X3_9 (fs hF rfl rfl) rfl <| rn_iconst (np := 14) (v := 1) F dX3_keep_13 rfl rfl <| rn_aload_n (np := 15) F dX3_keep_14 rfl rfl <| rn_getr (np := 18) F dX3_keep_15 rfl fF_X3_9 (fs hF rfl rfl) rfl <| rn_iconst (np := 19) (v := 0) F dX3_keep_18 rfl rfl <| rn_bipush (np := 21) (v := 7) F dX3_keep_19 rfl rfl <| rn_copy (np := 24) F dX3_keep_21 rfl wM_X3_19 wV_arraycopyName wT_arraycopyName wN_J10 (fs hF rfl rfl) (fs hF rfl rfl) (by decide) (by decide) (by decide) (by decide) (by decide) (Nat.le_of_ble_eq_true rfl) (Nat.le_of_ble_eq_true rfl) <| rn_aload_n (np := 25) F dX3_keep_24 rfl rfl <| rn_bipush (np := 27) (v := 7) F dX3_keep_25 rfl rfl <| rn_putf (np := 30) F dX3_keep_27 rfl fP_X3_15 (fs hF rfl rfl) rfl rfl rfl <| ?_)
  · exact l_X3_keep hF F Rr hL c6 e ⟨rfl, by rw [keepC, if_pos c6]⟩
  · exact l_X3_keep (u := 7) hF F Rr hL (by omega) (by rw [hs_at]; simp; rfl) ⟨rfl, by rw [keepC, if_neg c6]; rfl⟩
set_option maxRecDepth 20000 in
theorem c_X3_takeLast {G : GxT} (hF : Full G) {h : HpT} {u : Nat} (hu : u < 8) (e : h 21 0 = nI (u + 1)) : mci G yX3_takeLast cX3_takeLast 1 (some .int) 0 [.ref (gad G 21)] h (h 22 u) (hs h 21 0 (nI u)) := by
  refine mc_of (by decide) (Nat.le_of_ble_eq_true rfl) (fun X hG F Rr hL => ?_)
  subst hG
  have F : FxT X cX3_takeLast RX3 0 := F
  show rn X 0 [(0, .ref (gad X.1 21))] [] h
  refine rn_aload_n (np := 1) F dX3_takeLast_0 rfl rfl <| rn_dup (np := 2) F dX3_takeLast_1 rfl rfl <| rn_getfE (np := 5) F dX3_takeLast_2 rfl fF_X3_15 (fs hF rfl rfl) rfl e <| rn_iconst (np := 6) (v := 1) F dX3_takeLast_5 rfl rfl <| rn_isub (np := 7) F dX3_takeLast_6 rfl <| rn_topE (nI_pred u) <| rn_putf (np := 10) F dX3_takeLast_7 rfl fP_X3_15 (fs hF rfl rfl) rfl rfl rfl <| rn_aload_n (np := 11) F dX3_takeLast_10 rfl rfl <| rn_getr (np := 14) F dX3_takeLast_11 rfl fF_X3_9 (fs hF rfl rfl) rfl <| rn_aload_n (np := 15) F dX3_takeLast_14 rfl rfl <| rn_getfE (np := 18) F dX3_takeLast_15 rfl fF_X3_15 (fs hF rfl rfl) rfl (show _ = nI u by rw [hs_at]; simp) <| rn_ialdN (np := 19) F dX3_takeLast_18 rfl (fs hF rfl rfl) rfl (by omega) <| rn_iret F Rr dX3_takeLast_19 ?_
  · exact ⟨rfl, rfl⟩
set_option maxRecDepth 20000 in
theorem c_X4_phasesChange {G : GxT} (hF : Full G) {h : HpT} {n u : Nat} (hn : n ≤ 9) (eh : h 1 9 = nI n) (hu : u ≤ 8) (e : h 21 0 = nI u) : mcv G yX4_phasesChange cX4_phasesChange 1 none 2 [.ref (gad G 0)] h (hs (keepC h u (packF (h 4) n)) 11 13 0) := by
  refine mc_of (by decide) (Nat.le_of_ble_eq_true rfl) (fun X hG F Rr hL => ?_)
  subst hG
  have F : FxT X cX4_phasesChange RX4 2 := F
  show rn X 0 [(0, .ref (gad X.1 0))] [] h
  refine rn_aload_n (np := 1) F dX4_phasesChange_0 rfl rfl <| rn_getr (np := 4) F dX4_phasesChange_1 rfl fF_X4_35 (fs hF rfl rfl) rfl <| rn_aload_n (np := 5) F dX4_phasesChange_4 rfl rfl <| rn_getr (np := 8) F dX4_phasesChange_5 rfl fF_X4_10 (fs hF rfl rfl) rfl <| rn_cV0i (np := 11) F dX4_phasesChange_8 rfl cv_X2_packedPhases wM_X4_261 (fs hF rfl rfl) rfl (c_X2_packedPhases hF hn eh) (Nat.le_of_ble_eq_true rfl) (Nat.le_of_ble_eq_true rfl) <| rn_cV1v (np := 14) F dX4_phasesChange_11 rfl cv_X3_keep wM_X4_264 (fs hF rfl rfl) rfl (c_X3_keep hF hu e) (Nat.le_of_ble_eq_true rfl) (Nat.le_of_ble_eq_true rfl) <| rn_aload_n (np := 15) F dX4_phasesChange_14 rfl rfl <| rn_getr (np := 18) F dX4_phasesChange_15 rfl fF_X4_21 (fs hF rfl rfl) rfl <| rn_cV0v (np := 21) F dX4_phasesChange_18 rfl cv_X0_forget wM_X4_202 (fs hF rfl rfl) rfl (c_X0_forget hF) (Nat.le_of_ble_eq_true rfl) (Nat.le_of_ble_eq_true rfl) <| rn_vret F Rr dX4_phasesChange_21 ?_
  · exact ⟨rfl, rfl⟩
