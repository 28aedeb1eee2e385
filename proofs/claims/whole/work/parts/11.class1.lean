set_option maxRecDepth 20000 in
theorem c_X4_isIn {G : GxT} {h : HpT} {v a b : Int32}  : mci G yX4_isIn cX4_isIn 3 (some .boolean) 0 [.int v, .int a, .int b] h (bI (a ≤ v ∧ v ≤ b)) (h) := by
  refine mc_of (by decide) (Nat.le_of_ble_eq_true rfl) (fun X hG F Rr hL => ?_)
  subst hG
  have F : FxT X cX4_isIn RX4 0 := F
  show rn X 0 [(0, .int v), (1, .int a), (2, .int b)] [] h
  refine rn_iload_n (np := 1) F dX4_isIn_0 rfl rfl <| rn_iload_n (np := 2) F dX4_isIn_1 rfl rfl <| rn_icmp_lt (tg := 14) (np := 5) F dX4_isIn_2 rfl rfl (fun c2 => rn_iconst (np := 15) (v := 0) F dX4_isIn_14 rfl rfl <| rn_zret F Rr dX4_isIn_15 rfl ?_) (fun c2 => rn_iload_n (np := 6) F dX4_isIn_5 rfl rfl <| rn_iload_n (np := 7) F dX4_isIn_6 rfl rfl <| rn_icmp_gt (tg := 14) (np := 10) F dX4_isIn_7 rfl rfl (fun c7 => rn_iconst (np := 15) (v := 0) F dX4_isIn_14 rfl rfl <| rn_zret F Rr dX4_isIn_15 rfl ?_) (fun c7 => rn_iconst (np := 11) (v := 1) F dX4_isIn_10 rfl rfl <| rn_goto (np := 15) F dX4_isIn_11 rfl <| rn_zret F Rr dX4_isIn_15 rfl ?_))
  all_goals (refine rI ?_ rfl; grind [bI])
set_option maxRecDepth 20000 in
theorem c_X4_isSort {G : GxT} {h : HpT} {v : Int32}  : mci G yX4_isSort cX4_isSort 1 (some .boolean) 1 [.int v] h (bI (0 ≤ v ∧ v ≤ 5)) (h) := by
  refine mc_of (by decide) (Nat.le_of_ble_eq_true rfl) (fun X hG F Rr hL => ?_)
  subst hG
  have F : FxT X cX4_isSort RX4 1 := F
  show rn X 0 [(0, .int v)] [] h
  refine rn_iload_n (np := 1) F dX4_isSort_0 rfl rfl <| rn_iconst (np := 2) (v := 0) F dX4_isSort_1 rfl rfl <| rn_iconst (np := 3) (v := 5) F dX4_isSort_2 rfl rfl <| rn_cS3i (np := 6) F dX4_isSort_3 rfl cs_X4_isIn wM_X4_77 (c_X4_isIn) (Nat.le_of_ble_eq_true rfl) (Nat.le_of_ble_eq_true rfl) <| rn_zret F Rr dX4_isSort_6 bI_nar ?_
  · exact rI rfl rfl
set_option maxRecDepth 20000 in
theorem c_X4_isSize {G : GxT} {h : HpT} {v : Int32}  : mci G yX4_isSize cX4_isSize 1 (some .boolean) 1 [.int v] h (bI (1 ≤ v ∧ v ≤ 20)) (h) := by
  refine mc_of (by decide) (Nat.le_of_ble_eq_true rfl) (fun X hG F Rr hL => ?_)
  subst hG
  have F : FxT X cX4_isSize RX4 1 := F
  show rn X 0 [(0, .int v)] [] h
  refine rn_iload_n (np := 1) F dX4_isSize_0 rfl rfl <| rn_iconst (np := 2) (v := 1) F dX4_isSize_1 rfl rfl <| rn_bipush (np := 4) (v := 20) F dX4_isSize_2 rfl rfl <| rn_cS3i (np := 7) F dX4_isSize_4 rfl cs_X4_isIn wM_X4_77 (c_X4_isIn) (Nat.le_of_ble_eq_true rfl) (Nat.le_of_ble_eq_true rfl) <| rn_zret F Rr dX4_isSize_7 bI_nar ?_
  · exact rI rfl rfl
set_option maxRecDepth 20000 in
theorem c_X4_isPhase {G : GxT} {h : HpT} {v : Int32}  : mci G yX4_isPhase cX4_isPhase 1 (some .boolean) 1 [.int v] h (bI (0 ≤ v ∧ v ≤ 2)) (h) := by
  refine mc_of (by decide) (Nat.le_of_ble_eq_true rfl) (fun X hG F Rr hL => ?_)
  subst hG
  have F : FxT X cX4_isPhase RX4 1 := F
  show rn X 0 [(0, .int v)] [] h
  refine rn_iload_n (np := 1) F dX4_isPhase_0 rfl rfl <| rn_iconst (np := 2) (v := 0) F dX4_isPhase_1 rfl rfl <| rn_iconst (np := 3) (v := 2) F dX4_isPhase_2 rfl rfl <| rn_cS3i (np := 6) F dX4_isPhase_3 rfl cs_X4_isIn wM_X4_77 (c_X4_isIn) (Nat.le_of_ble_eq_true rfl) (Nat.le_of_ble_eq_true rfl) <| rn_zret F Rr dX4_isPhase_6 bI_nar ?_
  · exact rI rfl rfl
set_option maxRecDepth 20000 in
theorem c_X4_isHour {G : GxT} {h : HpT} {v : Int32}  : mci G yX4_isHour cX4_isHour 1 (some .boolean) 1 [.int v] h (bI (0 ≤ v ∧ v ≤ 5)) (h) := by
  refine mc_of (by decide) (Nat.le_of_ble_eq_true rfl) (fun X hG F Rr hL => ?_)
  subst hG
  have F : FxT X cX4_isHour RX4 1 := F
  show rn X 0 [(0, .int v)] [] h
  refine rn_iload_n (np := 1) F dX4_isHour_0 rfl rfl <| rn_iconst (np := 2) (v := 0) F dX4_isHour_1 rfl rfl <| rn_iconst (np := 3) (v := 5) F dX4_isHour_2 rfl rfl <| rn_cS3i (np := 6) F dX4_isHour_3 rfl cs_X4_isIn wM_X4_77 (c_X4_isIn) (Nat.le_of_ble_eq_true rfl) (Nat.le_of_ble_eq_true rfl) <| rn_zret F Rr dX4_isHour_6 bI_nar ?_
  · exact rI rfl rfl
set_option maxRecDepth 20000 in
theorem c_X4_isHouse {G : GxT} (hF : Full G) {h : HpT} {v : Int32}  : mci G yX4_isHouse cX4_isHouse 2 (some .boolean) 1 [.ref (gad G 0), .int v] h (bI (0 ≤ v ∧ v ≤ h 1 9 - 1)) (h) := by
  refine mc_of (by decide) (Nat.le_of_ble_eq_true rfl) (fun X hG F Rr hL => ?_)
  subst hG
  have F : FxT X cX4_isHouse RX4 1 := F
  show rn X 0 [(0, .ref (gad X.1 0)), (1, .int v)] [] h
  refine rn_iload_n (np := 1) F dX4_isHouse_0 rfl rfl <| rn_iconst (np := 2) (v := 0) F dX4_isHouse_1 rfl rfl <| rn_aload_n (np := 3) F dX4_isHouse_2 rfl rfl <| rn_getr (np := 6) F dX4_isHouse_3 rfl fF_X4_10 (fs hF rfl rfl) rfl <| rn_getf (np := 9) F dX4_isHouse_6 rfl fF_X4_53 (fs hF rfl rfl) rfl <| rn_iconst (np := 10) (v := 1) F dX4_isHouse_9 rfl rfl <| rn_isub (np := 11) F dX4_isHouse_10 rfl <| rn_cS3i (np := 14) F dX4_isHouse_11 rfl cs_X4_isIn wM_X4_77 (c_X4_isIn) (Nat.le_of_ble_eq_true rfl) (Nat.le_of_ble_eq_true rfl) <| rn_zret F Rr dX4_isHouse_14 bI_nar ?_
  · exact rI rfl rfl
set_option maxRecDepth 20000 in
theorem c_X4_areTwoHouses {G : GxT} (hF : Full G) {h : HpT} {v u : Int32}  : mci G yX4_areTwoHouses cX4_areTwoHouses 3 (some .boolean) 2 [.ref (gad G 0), .int v, .int u] h (bI ((0 ≤ v ∧ v ≤ h 1 9 - 1) ∧ (0 ≤ u ∧ u ≤ h 1 9 - 1) ∧ v ≠ u)) (h) := by
  refine mc_of (by decide) (Nat.le_of_ble_eq_true rfl) (fun X hG F Rr hL => ?_)
  subst hG
  have F : FxT X cX4_areTwoHouses RX4 2 := F
  show rn X 0 [(0, .ref (gad X.1 0)), (1, .int v), (2, .int u)] [] h
  refine rn_aload_n (np := 1) F dX4_areTwoHouses_0 rfl rfl <| rn_iload_n (np := 2) F dX4_areTwoHouses_1 rfl rfl <| rn_cV1i (np := 5) F dX4_areTwoHouses_2 rfl cv_X4_isHouse wM_X4_64 (fs hF rfl rfl) rfl (c_X4_isHouse hF) (Nat.le_of_ble_eq_true rfl) (Nat.le_of_ble_eq_true rfl) <| rn_if_eq (tg := 25) (np := 8) F dX4_areTwoHouses_5 rfl rfl (fun c5 => rn_iconst (np := 26) (v := 0) F dX4_areTwoHouses_25 rfl rfl <| rn_zret F Rr dX4_areTwoHouses_26 rfl ?_) (fun c5 => rn_aload_n (np := 9) F dX4_areTwoHouses_8 rfl rfl <| rn_iload_n (np := 10) F dX4_areTwoHouses_9 rfl rfl <| rn_cV1i (np := 13) F dX4_areTwoHouses_10 rfl cv_X4_isHouse wM_X4_64 (fs hF rfl rfl) rfl (c_X4_isHouse hF) (Nat.le_of_ble_eq_true rfl) (Nat.le_of_ble_eq_true rfl) <| rn_if_eq (tg := 25) (np := 16) F dX4_areTwoHouses_13 rfl rfl (fun c13 => rn_iconst (np := 26) (v := 0) F dX4_areTwoHouses_25 rfl rfl <| rn_zret F Rr dX4_areTwoHouses_26 rfl ?_) (fun c13 => rn_iload_n (np := 17) F dX4_areTwoHouses_16 rfl rfl <| rn_iload_n (np := 18) F dX4_areTwoHouses_17 rfl rfl <| rn_icmp_eq (tg := 25) (np := 21) F dX4_areTwoHouses_18 rfl rfl (fun c18 => rn_iconst (np := 26) (v := 0) F dX4_areTwoHouses_25 rfl rfl <| rn_zret F Rr dX4_areTwoHouses_26 rfl ?_) (fun c18 => rn_iconst (np := 22) (v := 1) F dX4_areTwoHouses_21 rfl rfl <| rn_goto (np := 26) F dX4_areTwoHouses_22 rfl <| rn_zret F Rr dX4_areTwoHouses_26 rfl ?_)))
  all_goals (refine rI ?_ rfl; grind [bI])
set_option maxRecDepth 20000 in
theorem c_X4_refuse {G : GxT} (hF : Full G) {h : HpT} {v : Int32}  : mci G yX4_refuse cX4_refuse 2 (some .int) 0 [.ref (gad G 0), .int v] h (v) (refC h v) := by
  refine mc_of (by decide) (Nat.le_of_ble_eq_true rfl) (fun X hG F Rr hL => ?_)
  subst hG
  have F : FxT X cX4_refuse RX4 0 := F
  show rn X 0 [(0, .ref (gad X.1 0)), (1, .int v)] [] h
  refine rn_iload_n (np := 1) F dX4_refuse_0 rfl rfl <| rn_bipush (np := 3) (v := (-2)) F dX4_refuse_1 rfl rfl <| rn_icmp_ne (tg := 19) (np := 6) F dX4_refuse_3 rfl rfl (fun c3 => rn_iload_n (np := 20) F dX4_refuse_19 rfl rfl <| rn_bipush (np := 22) (v := (-3)) F dX4_refuse_20 rfl rfl <| rn_icmp_ne (tg := 38) (np := 25) F dX4_refuse_22 rfl rfl (fun c22 => rn_aload_n (np := 39) F dX4_refuse_38 rfl rfl <| rn_dup (np := 40) F dX4_refuse_39 rfl rfl <| rn_getf (np := 43) F dX4_refuse_40 rfl fF_X4_255 (fs hF rfl rfl) rfl <| rn_iconst (np := 44) (v := 1) F dX4_refuse_43 rfl rfl <| rn_iadd (np := 45) F dX4_refuse_44 rfl <| rn_putf (np := 48) F dX4_refuse_45 rfl fP_X4_255 (fs hF rfl rfl) rfl rfl rfl <| rn_iload_n (np := 49) F dX4_refuse_48 rfl rfl <| rn_iret F Rr dX4_refuse_49 ?_) (fun c22 => rn_aload_n (np := 26) F dX4_refuse_25 rfl rfl <| rn_dup (np := 27) F dX4_refuse_26 rfl rfl <| rn_getf (np := 30) F dX4_refuse_27 rfl fF_X4_252 (fs hF rfl rfl) rfl <| rn_iconst (np := 31) (v := 1) F dX4_refuse_30 rfl rfl <| rn_iadd (np := 32) F dX4_refuse_31 rfl <| rn_putf (np := 35) F dX4_refuse_32 rfl fP_X4_252 (fs hF rfl rfl) rfl rfl rfl <| rn_goto (np := 48) F dX4_refuse_35 rfl <| rn_iload_n (np := 49) F dX4_refuse_48 rfl rfl <| rn_iret F Rr dX4_refuse_49 ?_)) (fun c3 => rn_aload_n (np := 7) F dX4_refuse_6 rfl rfl <| rn_dup (np := 8) F dX4_refuse_7 rfl rfl <| rn_getf (np := 11) F dX4_refuse_8 rfl fF_X4_249 (fs hF rfl rfl) rfl <| rn_iconst (np := 12) (v := 1) F dX4_refuse_11 rfl rfl <| rn_iadd (np := 13) F dX4_refuse_12 rfl <| rn_putf (np := 16) F dX4_refuse_13 rfl fP_X4_249 (fs hF rfl rfl) rfl rfl rfl <| rn_goto (np := 48) F dX4_refuse_16 rfl <| rn_iload_n (np := 49) F dX4_refuse_48 rfl rfl <| rn_iret F Rr dX4_refuse_49 ?_)
  all_goals (refine rI rfl ?_; simp_all [refC])
set_option maxRecDepth 20000 in
theorem c_X4_phaseIn {G : GxT} {h : HpT} {l v : Int32}  : mci G yX4_phaseIn cX4_phaseIn 2 (some .int) 0 [.int l, .int v] h (phF l v) (h) := by
  refine mc_of (by decide) (Nat.le_of_ble_eq_true rfl) (fun X hG F Rr hL => ?_)
  subst hG
  have F : FxT X cX4_phaseIn RX4 0 := F
  show rn X 0 [(0, .int l), (1, .int v)] [] h
  refine rn_iload_n (np := 1) F dX4_phaseIn_0 rfl rfl <| rn_iconst (np := 2) (v := 2) F dX4_phaseIn_1 rfl rfl <| rn_iload_n (np := 3) F dX4_phaseIn_2 rfl rfl <| rn_imul (np := 4) F dX4_phaseIn_3 rfl <| rn_iushr (np := 5) F dX4_phaseIn_4 rfl <| rn_iconst (np := 6) (v := 3) F dX4_phaseIn_5 rfl rfl <| rn_iand (np := 7) F dX4_phaseIn_6 rfl <| rn_iret F Rr dX4_phaseIn_7 ?_
  · exact rI rfl rfl
set_option maxRecDepth 20000 in
theorem c_X4_isSetting {G : GxT} {h : HpT} {u v : Int32}  : mci G yX4_isSetting cX4_isSetting 2 (some .boolean) 2 [.int u, .int v] h (bI ((u = 0 ∧ 0 ≤ v ∧ v ≤ 5) ∨ (u = 1 ∧ 1 ≤ v ∧ v ≤ 20) ∨ (u = 2 ∧ 0 ≤ v ∧ v ≤ 1))) (h) := by
  refine mc_of (by decide) (Nat.le_of_ble_eq_true rfl) (fun X hG F Rr hL => ?_)
  subst hG
  have F : FxT X cX4_isSetting RX4 2 := F
  show rn X 0 [(0, .int u), (1, .int v)] [] h
  refine rn_iload_n (np := 1) F dX4_isSetting_0 rfl rfl <| sw_X4_isSetting_1 F (fun c1 => rn_iload_n (np := 29) F dX4_isSetting_28 rfl rfl <| rn_cS1i (np := 32) F dX4_isSetting_29 rfl cs_X4_isSort wM_X4_39 (c_X4_isSort) (Nat.le_of_ble_eq_true rfl) (Nat.le_of_ble_eq_true rfl) <| rn_zret F Rr dX4_isSetting_32 bI_nar ?_) (fun c1 => rn_iload_n (np := 34) F dX4_isSetting_33 rfl rfl <| rn_cS1i (np := 37) F dX4_isSetting_34 rfl cs_X4_isSize wM_X4_43 (c_X4_isSize) (Nat.le_of_ble_eq_true rfl) (Nat.le_of_ble_eq_true rfl) <| rn_zret F Rr dX4_isSetting_37 bI_nar ?_) (fun c1 => rn_iload_n (np := 39) F dX4_isSetting_38 rfl rfl <| rn_iconst (np := 40) (v := 0) F dX4_isSetting_39 rfl rfl <| rn_iconst (np := 41) (v := 1) F dX4_isSetting_40 rfl rfl <| rn_cS3i (np := 44) F dX4_isSetting_41 rfl cs_X4_isIn wM_X4_77 (c_X4_isIn) (Nat.le_of_ble_eq_true rfl) (Nat.le_of_ble_eq_true rfl) <| rn_zret F Rr dX4_isSetting_44 bI_nar ?_) (fun c1_0 c1_1 c1_2 => rn_iconst (np := 46) (v := 0) F dX4_isSetting_45 rfl rfl <| rn_zret F Rr dX4_isSetting_46 rfl ?_)
  all_goals (refine rI ?_ rfl; grind [bI])
set_option maxRecDepth 20000 in
theorem c_X0_forget {G : GxT} (hF : Full G) {h : HpT}   : mcv G yX0_forget cX0_forget 1 none 0 [.ref (gad G 11)] h (hs h 11 13 0) := by
  refine mc_of (by decide) (Nat.le_of_ble_eq_true rfl) (fun X hG F Rr hL => ?_)
  subst hG
  have F : FxT X cX0_forget RX0 0 := F
  show rn X 0 [(0, .ref (gad X.1 11))] [] h
  refine rn_aload_n (np := 1) F dX0_forget_0 rfl rfl <| rn_iconst (np := 2) (v := 0) F dX0_forget_1 rfl rfl <| rn_putf (np := 5) F dX0_forget_2 rfl fP_X0_40 (fs hF rfl rfl) rfl rfl rfl <| rn_vret F Rr dX0_forget_5 ?_
  · exact ⟨rfl, rfl⟩
set_option maxRecDepth 20000 in
theorem c_X4_streetChanges {G : GxT} (hF : Full G) {h : HpT}   : mcv G yX4_streetChanges cX4_streetChanges 1 none 1 [.ref (gad G 0)] h (hs (hs h 21 0 0) 11 13 0) := by
  refine mc_of (by decide) (Nat.le_of_ble_eq_true rfl) (fun X hG F Rr hL => ?_)
  subst hG
  have F : FxT X cX4_streetChanges RX4 1 := F
  show rn X 0 [(0, .ref (gad X.1 0))] [] h
  refine rn_aload_n (np := 1) F dX4_streetChanges_0 rfl rfl <| rn_getr (np := 4) F dX4_streetChanges_1 rfl fF_X4_35 (fs hF rfl rfl) rfl <| rn_iconst (np := 5) (v := 0) F dX4_streetChanges_4 rfl rfl <| rn_putf (np := 8) F dX4_streetChanges_5 rfl fP_X4_196 (fs hF rfl rfl) rfl rfl rfl <| rn_aload_n (np := 9) F dX4_streetChanges_8 rfl rfl <| rn_getr (np := 12) F dX4_streetChanges_9 rfl fF_X4_21 (fs hF rfl rfl) rfl <| rn_cV0v (np := 15) F dX4_streetChanges_12 rfl cv_X0_forget wM_X4_202 (fs hF rfl rfl) rfl (c_X0_forget hF) (Nat.le_of_ble_eq_true rfl) (Nat.le_of_ble_eq_true rfl) <| rn_vret F Rr dX4_streetChanges_15 ?_
  · exact ⟨rfl, rfl⟩
set_option maxRecDepth 20000 in
theorem c_X2_takenBy {G : GxT} (hF : Full G) {h : HpT} {i t a : Nat} (hi : i < 9) (ht : t < 6) (ha : a < 6) (e : h 2 i = nI a) : mci G yX2_takenBy cX2_takenBy 3 (some .int) 0 [.ref (gad G 1), .int (nI i), .int (nI t)] h (tkV (h 2 i) (h 3 i) t) (h) := by
  refine mc_of (by decide) (Nat.le_of_ble_eq_true rfl) (fun X hG F Rr hL => ?_)
  subst hG
  have F : FxT X cX2_takenBy RX2 0 := F
  show rn X 0 [(0, .ref (gad X.1 1)), (1, .int (nI i)), (2, .int (nI t))] [] h
  refine rn_aload_n (np := 1) F dX2_takenBy_0 rfl rfl <| rn_getr (np := 4) F dX2_takenBy_1 rfl fF_X2_15 (fs hF rfl rfl) rfl <| rn_iload_n (np := 5) F dX2_takenBy_4 rfl rfl <| rn_ialdN (np := 6) F dX2_takenBy_5 rfl (fs hF rfl rfl) rfl (by omega) <| rn_times (np := 9) F dX2_takenBy_6 rfl <| rn_aload_n (np := 10) F dX2_takenBy_9 rfl rfl <| rn_getr (np := 13) F dX2_takenBy_10 rfl fF_X2_9 (fs hF rfl rfl) rfl <| rn_iload_n (np := 14) F dX2_takenBy_13 rfl rfl <| rn_ialdN (np := 15) F dX2_takenBy_14 rfl (fs hF rfl rfl) rfl (by omega) <| rn_bipush (np := 17) (v := 6) F dX2_takenBy_15 rfl rfl <| rn_imul (np := 18) F dX2_takenBy_17 rfl <| rn_iload_n (np := 19) F dX2_takenBy_18 rfl rfl <| rn_iadd (np := 20) F dX2_takenBy_19 rfl <| rn_tald (np := 21) F dX2_takenBy_20 rfl ?_ <| rn_imul (np := 22) F dX2_takenBy_21 rfl <| rn_iret F Rr dX2_takenBy_22 ?_
  · rw [e, ix6]; exact vp_in_nI (by omega) (by omega)
  · refine rI ?_ rfl
    rw [e, ix6, nI_clamp (by omega), tkV, nI_clamp (by omega)]
