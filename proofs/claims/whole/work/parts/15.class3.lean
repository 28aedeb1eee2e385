set_option maxRecDepth 20000 in
theorem c_X2_setPhase {G : GxT} (hF : Full G) {h : HpT} {n i p : Nat} {x : Int32} (hS : SI n h) (hi : i < n) (hp : p < 3) (hx : x = nI p) : mcv G yX2_setPhase cX2_setPhase 3 none 2 [.ref (gad G 1), .int (nI i), .int x] h (cano n (hs h 4 i x)) := by
  refine mc_of (by decide) (Nat.le_of_ble_eq_true rfl) (fun X hG F Rr hL => ?_)
  subst hG
  have F : FxT X cX2_setPhase RX2 2 := F
  show rn X 0 [(0, .ref (gad X.1 1)), (1, .int (nI i)), (2, .int x)] [] h
  have hn := hS.1
  obtain ⟨p0, h0, e0⟩ := hS.2.2.2.1 i (by omega)
  obtain ⟨a, ha, ea⟩ := hS.2.2.1 i (by omega)
  refine rn_aload_n (np := 1) F dX2_setPhase_0 rfl rfl <| rn_iload_n (np := 2) F dX2_setPhase_1 rfl rfl <| rn_iconst (np := 3) (v := (-1)) F dX2_setPhase_2 rfl rfl <| rn_cV2v (np := 6) F dX2_setPhase_3 rfl cv_X2_addLoads wM_X2_55 (fs hF rfl rfl) rfl (c_X2_addLoads hF (by omega) h0 e0 ha ea) (Nat.le_of_ble_eq_true rfl) (Nat.le_of_ble_eq_true rfl) <| rn_aload_n (np := 7) F dX2_setPhase_6 rfl rfl <| rn_getr (np := 10) F dX2_setPhase_7 rfl fF_X2_18 (fs hF rfl rfl) rfl <| rn_iload_n (np := 11) F dX2_setPhase_10 rfl rfl <| rn_iload_n (np := 12) F dX2_setPhase_11 rfl rfl <| rn_iastN (np := 13) F dX2_setPhase_12 rfl (fs hF rfl rfl) rfl (by omega) <| rn_aload_n (np := 14) F dX2_setPhase_13 rfl rfl <| rn_iload_n (np := 15) F dX2_setPhase_14 rfl rfl <| rn_iconst (np := 16) (v := 1) F dX2_setPhase_15 rfl rfl <| rn_cV2v (np := 19) F dX2_setPhase_16 rfl cv_X2_addLoads wM_X2_55 (fs hF rfl rfl) rfl (c_X2_addLoads (p := p) hF (by omega) hp (by rw [hs_at]; simp [hx]) ha ea) (Nat.le_of_ble_eq_true rfl) (Nat.le_of_ble_eq_true rfl) <| rn_vret F Rr dX2_setPhase_19 ?_
  · subst hx
    exact ⟨rfl, sp_heap hS hi h0 hp e0⟩
set_option maxRecDepth 20000 in
theorem c_X2_swapPhases {G : GxT} (hF : Full G) {h : HpT} {n i o : Nat} (hS : SI n h) (hi : i < n) (ho : o < n) : mcv G yX2_swapPhases cX2_swapPhases 4 none 3 [.ref (gad G 1), .int (nI i), .int (nI o)] h (cano n (va_up h 4 (upd (upd (h 4) i (h 4 o)) o (h 4 i)))) := by
  refine mc_of (by decide) (Nat.le_of_ble_eq_true rfl) (fun X hG F Rr hL => ?_)
  subst hG
  have F : FxT X cX2_swapPhases RX2 3 := F
  show rn X 0 [(0, .ref (gad X.1 1)), (1, .int (nI i)), (2, .int (nI o))] [] h
  have hn := hS.1
  obtain ⟨p0, h0, e0⟩ := hS.2.2.2.1 i (by omega)
  obtain ⟨p1, h1, e1⟩ := hS.2.2.2.1 o (by omega)
  have hS2 : SI n (cano n (hs h 4 i (h 4 o))) := SI_ph hS (fun j hj => by
    by_cases e : j = i
    · subst e; exact ⟨p1, h1, by rw [pk_us]; exact e1⟩
    · rw [pk_un e]; exact hS.2.2.2.1 j hj)
  refine rn_aload_n (np := 1) F dX2_swapPhases_0 rfl rfl <| rn_getr (np := 4) F dX2_swapPhases_1 rfl fF_X2_18 (fs hF rfl rfl) rfl <| rn_iload_n (np := 5) F dX2_swapPhases_4 rfl rfl <| rn_ialdN (np := 6) F dX2_swapPhases_5 rfl (fs hF rfl rfl) rfl (by omega) <| rn_istore_n (np := 7) F dX2_swapPhases_6 rfl hL rfl <| rn_aload_n (np := 8) F dX2_swapPhases_7 rfl rfl <| rn_iload_n (np := 9) F dX2_swapPhases_8 rfl rfl <| rn_aload_n (np := 10) F dX2_swapPhases_9 rfl rfl <| rn_getr (np := 13) F dX2_swapPhases_10 rfl fF_X2_18 (fs hF rfl rfl) rfl <| rn_iload_n (np := 14) F dX2_swapPhases_13 rfl rfl <| rn_ialdN (np := 15) F dX2_swapPhases_14 rfl (fs hF rfl rfl) rfl (by omega) <| rn_cV2v (np := 18) F dX2_swapPhases_15 rfl cv_X2_setPhase wM_X2_62 (fs hF rfl rfl) rfl (c_X2_setPhase hF hS hi h1 e1) (Nat.le_of_ble_eq_true rfl) (Nat.le_of_ble_eq_true rfl) <| rn_aload_n (np := 19) F dX2_swapPhases_18 rfl rfl <| rn_iload_n (np := 20) F dX2_swapPhases_19 rfl rfl <| rn_iload_n (np := 21) F dX2_swapPhases_20 rfl rfl <| rn_cV2v (np := 24) F dX2_swapPhases_21 rfl cv_X2_setPhase wM_X2_62 (fs hF rfl rfl) rfl (c_X2_setPhase hF hS2 ho h0 e0) (Nat.le_of_ble_eq_true rfl) (Nat.le_of_ble_eq_true rfl) <| rn_vret F Rr dX2_swapPhases_24 ?_
  · refine ⟨rfl, ?_⟩
    show cano n (va_up (cano n (va_up h 4 (upd (h 4) i (h 4 o)))) 4 (upd (upd (h 4) i (h 4 o)) o (h 4 i))) = _
    rw [cano_up (by decide), up_up]
set_option maxRecDepth 20000 in
theorem c_X2_setHouse0 {G : GxT} (hF : Full G) {h : HpT} {n i : Nat} {v : Int32} (hS : SI n h) (hi : i < n) {b : Nat} (hb : b < 6) (hv : v = nI b) : mci G yX2_setHouse cX2_setHouse 6 (some .int) 2 [.ref (gad G 1), .int (nI i), .int 0, .int v] h (h 2 i) (cano n (hs h 2 i v)) := by
  refine mc_of (by decide) (Nat.le_of_ble_eq_true rfl) (fun X hG F Rr hL => ?_)
  subst hG
  have F : FxT X cX2_setHouse RX2 2 := F
  show rn X 0 [(0, .ref (gad X.1 1)), (1, .int (nI i)), (2, .int 0), (3, .int v)] [] h
  have hn := hS.1
  obtain ⟨p0, h0, e0⟩ := hS.2.2.2.1 i (by omega)
  obtain ⟨a, ha, ea⟩ := hS.2.2.1 i (by omega)
  refine rn_iload_n (np := 1) F dX2_setHouse_0 rfl rfl <| rn_if_ne (tg := 11) (np := 4) F dX2_setHouse_1 rfl rfl (fun q => absurd q ((by decide))) (fun _ => rn_aload_n (np := 5) F dX2_setHouse_4 rfl rfl <| rn_getr (np := 8) F dX2_setHouse_5 rfl fF_X2_9 (fs hF rfl rfl) rfl <| rn_goto (np := 27) F dX2_setHouse_8 rfl <| rn_astore (np := 29) F dX2_setHouse_27 rfl hL rfl <| rn_aload (np := 31) F dX2_setHouse_29 rfl rfl <| rn_iload_n (np := 32) F dX2_setHouse_31 rfl rfl <| rn_ialdN (np := 33) F dX2_setHouse_32 rfl (fs hF rfl rfl) rfl (by omega) <| rn_istore (np := 35) F dX2_setHouse_33 rfl hL rfl <| rn_aload_n (np := 36) F dX2_setHouse_35 rfl rfl <| rn_iload_n (np := 37) F dX2_setHouse_36 rfl rfl <| rn_iconst (np := 38) (v := (-1)) F dX2_setHouse_37 rfl rfl <| rn_cV2v (np := 41) F dX2_setHouse_38 rfl cv_X2_addLoads wM_X2_55 (fs hF rfl rfl) rfl (c_X2_addLoads hF (by omega) h0 e0 ha ea) (Nat.le_of_ble_eq_true rfl) (Nat.le_of_ble_eq_true rfl) <| rn_aload (np := 43) F dX2_setHouse_41 rfl rfl <| rn_iload_n (np := 44) F dX2_setHouse_43 rfl rfl <| rn_iload_n (np := 45) F dX2_setHouse_44 rfl rfl <| rn_iastN (np := 46) F dX2_setHouse_45 rfl (fs hF rfl rfl) rfl (by omega) <| rn_aload_n (np := 47) F dX2_setHouse_46 rfl rfl <| rn_iload_n (np := 48) F dX2_setHouse_47 rfl rfl <| rn_iconst (np := 49) (v := 1) F dX2_setHouse_48 rfl rfl <| rn_cV2v (np := 52) F dX2_setHouse_49 rfl cv_X2_addLoads wM_X2_55 (fs hF rfl rfl) rfl (c_X2_addLoads (p := p0) (a := b) hF (by omega) h0 e0 hb (by rw [hs_at]; simp [hv])) (Nat.le_of_ble_eq_true rfl) (Nat.le_of_ble_eq_true rfl) <| rn_iload (np := 54) F dX2_setHouse_52 rfl rfl <| rn_iret F Rr dX2_setHouse_54 ?_)
  · refine ⟨rfl, ?_⟩
    exact sh_heap (c := 2) hS hi (by decide) h0 e0
set_option maxRecDepth 20000 in
theorem c_X2_setHouse1 {G : GxT} (hF : Full G) {h : HpT} {n i : Nat} {v : Int32} (hS : SI n h) (hi : i < n) : mci G yX2_setHouse cX2_setHouse 6 (some .int) 2 [.ref (gad G 1), .int (nI i), .int 1, .int v] h (h 3 i) (cano n (hs h 3 i v)) := by
  refine mc_of (by decide) (Nat.le_of_ble_eq_true rfl) (fun X hG F Rr hL => ?_)
  subst hG
  have F : FxT X cX2_setHouse RX2 2 := F
  show rn X 0 [(0, .ref (gad X.1 1)), (1, .int (nI i)), (2, .int 1), (3, .int v)] [] h
  have hn := hS.1
  obtain ⟨p0, h0, e0⟩ := hS.2.2.2.1 i (by omega)
  obtain ⟨a, ha, ea⟩ := hS.2.2.1 i (by omega)
  refine rn_iload_n (np := 1) F dX2_setHouse_0 rfl rfl <| rn_if_ne (tg := 11) (np := 4) F dX2_setHouse_1 rfl rfl (fun _ => rn_iload_n (np := 12) F dX2_setHouse_11 rfl rfl <| rn_iconst (np := 13) (v := 1) F dX2_setHouse_12 rfl rfl <| rn_icmp_ne (tg := 23) (np := 16) F dX2_setHouse_13 rfl rfl (fun q => absurd q ((by decide))) (fun _ => rn_aload_n (np := 17) F dX2_setHouse_16 rfl rfl <| rn_getr (np := 20) F dX2_setHouse_17 rfl fF_X2_15 (fs hF rfl rfl) rfl <| rn_goto (np := 27) F dX2_setHouse_20 rfl <| rn_astore (np := 29) F dX2_setHouse_27 rfl hL rfl <| rn_aload (np := 31) F dX2_setHouse_29 rfl rfl <| rn_iload_n (np := 32) F dX2_setHouse_31 rfl rfl <| rn_ialdN (np := 33) F dX2_setHouse_32 rfl (fs hF rfl rfl) rfl (by omega) <| rn_istore (np := 35) F dX2_setHouse_33 rfl hL rfl <| rn_aload_n (np := 36) F dX2_setHouse_35 rfl rfl <| rn_iload_n (np := 37) F dX2_setHouse_36 rfl rfl <| rn_iconst (np := 38) (v := (-1)) F dX2_setHouse_37 rfl rfl <| rn_cV2v (np := 41) F dX2_setHouse_38 rfl cv_X2_addLoads wM_X2_55 (fs hF rfl rfl) rfl (c_X2_addLoads hF (by omega) h0 e0 ha ea) (Nat.le_of_ble_eq_true rfl) (Nat.le_of_ble_eq_true rfl) <| rn_aload (np := 43) F dX2_setHouse_41 rfl rfl <| rn_iload_n (np := 44) F dX2_setHouse_43 rfl rfl <| rn_iload_n (np := 45) F dX2_setHouse_44 rfl rfl <| rn_iastN (np := 46) F dX2_setHouse_45 rfl (fs hF rfl rfl) rfl (by omega) <| rn_aload_n (np := 47) F dX2_setHouse_46 rfl rfl <| rn_iload_n (np := 48) F dX2_setHouse_47 rfl rfl <| rn_iconst (np := 49) (v := 1) F dX2_setHouse_48 rfl rfl <| rn_cV2v (np := 52) F dX2_setHouse_49 rfl cv_X2_addLoads wM_X2_55 (fs hF rfl rfl) rfl (c_X2_addLoads hF (by omega) h0 e0 ha ea) (Nat.le_of_ble_eq_true rfl) (Nat.le_of_ble_eq_true rfl) <| rn_iload (np := 54) F dX2_setHouse_52 rfl rfl <| rn_iret F Rr dX2_setHouse_54 ?_)) (fun q => absurd q ((by decide)))
  · refine ⟨rfl, ?_⟩
    exact sh_heap (c := 3) hS hi (by decide) h0 e0
set_option maxRecDepth 20000 in
theorem c_X2_setHouse2 {G : GxT} (hF : Full G) {h : HpT} {n i : Nat} {v : Int32} (hS : SI n h) (hi : i < n) : mci G yX2_setHouse cX2_setHouse 6 (some .int) 2 [.ref (gad G 1), .int (nI i), .int 2, .int v] h (h 5 i) (cano n (hs h 5 i v)) := by
  refine mc_of (by decide) (Nat.le_of_ble_eq_true rfl) (fun X hG F Rr hL => ?_)
  subst hG
  have F : FxT X cX2_setHouse RX2 2 := F
  show rn X 0 [(0, .ref (gad X.1 1)), (1, .int (nI i)), (2, .int 2), (3, .int v)] [] h
  have hn := hS.1
  obtain ⟨p0, h0, e0⟩ := hS.2.2.2.1 i (by omega)
  obtain ⟨a, ha, ea⟩ := hS.2.2.1 i (by omega)
  refine rn_iload_n (np := 1) F dX2_setHouse_0 rfl rfl <| rn_if_ne (tg := 11) (np := 4) F dX2_setHouse_1 rfl rfl (fun _ => rn_iload_n (np := 12) F dX2_setHouse_11 rfl rfl <| rn_iconst (np := 13) (v := 1) F dX2_setHouse_12 rfl rfl <| rn_icmp_ne (tg := 23) (np := 16) F dX2_setHouse_13 rfl rfl (fun _ => rn_aload_n (np := 24) F dX2_setHouse_23 rfl rfl <| rn_getr (np := 27) F dX2_setHouse_24 rfl fF_X2_21 (fs hF rfl rfl) rfl <| rn_astore (np := 29) F dX2_setHouse_27 rfl hL rfl <| rn_aload (np := 31) F dX2_setHouse_29 rfl rfl <| rn_iload_n (np := 32) F dX2_setHouse_31 rfl rfl <| rn_ialdN (np := 33) F dX2_setHouse_32 rfl (fs hF rfl rfl) rfl (by omega) <| rn_istore (np := 35) F dX2_setHouse_33 rfl hL rfl <| rn_aload_n (np := 36) F dX2_setHouse_35 rfl rfl <| rn_iload_n (np := 37) F dX2_setHouse_36 rfl rfl <| rn_iconst (np := 38) (v := (-1)) F dX2_setHouse_37 rfl rfl <| rn_cV2v (np := 41) F dX2_setHouse_38 rfl cv_X2_addLoads wM_X2_55 (fs hF rfl rfl) rfl (c_X2_addLoads hF (by omega) h0 e0 ha ea) (Nat.le_of_ble_eq_true rfl) (Nat.le_of_ble_eq_true rfl) <| rn_aload (np := 43) F dX2_setHouse_41 rfl rfl <| rn_iload_n (np := 44) F dX2_setHouse_43 rfl rfl <| rn_iload_n (np := 45) F dX2_setHouse_44 rfl rfl <| rn_iastN (np := 46) F dX2_setHouse_45 rfl (fs hF rfl rfl) rfl (by omega) <| rn_aload_n (np := 47) F dX2_setHouse_46 rfl rfl <| rn_iload_n (np := 48) F dX2_setHouse_47 rfl rfl <| rn_iconst (np := 49) (v := 1) F dX2_setHouse_48 rfl rfl <| rn_cV2v (np := 52) F dX2_setHouse_49 rfl cv_X2_addLoads wM_X2_55 (fs hF rfl rfl) rfl (c_X2_addLoads hF (by omega) h0 e0 ha ea) (Nat.le_of_ble_eq_true rfl) (Nat.le_of_ble_eq_true rfl) <| rn_iload (np := 54) F dX2_setHouse_52 rfl rfl <| rn_iret F Rr dX2_setHouse_54 ?_) (fun q => absurd q ((by decide)))) (fun q => absurd q ((by decide)))
  · refine ⟨rfl, ?_⟩
    exact sh_heap (c := 5) hS hi (by decide) h0 e0
set_option maxRecDepth 20000 in
theorem c_X2_addHouse {G : GxT} (hF : Full G) {h : HpT} {n a p : Nat} {z : Int32} (hS : SI n h) (hn : n < 9) (ha : a < 6) (hp : p < 3) : mci G yX2_addHouse cX2_addHouse 5 (some .int) 2 [.ref (gad G 1), .int (nI a), .int z, .int (nI p)] h (nI n) (cano (n + 1) (newC h n (nI a) z (nI p))) := by
  refine mc_of (by decide) (Nat.le_of_ble_eq_true rfl) (fun X hG F Rr hL => ?_)
  subst hG
  have F : FxT X cX2_addHouse RX2 2 := F
  show rn X 0 [(0, .ref (gad X.1 1)), (1, .int (nI a)), (2, .int z), (3, .int (nI p))] [] h
  refine rn_aload_n (np := 1) F dX2_addHouse_0 rfl rfl <| rn_getfE (np := 4) F dX2_addHouse_1 rfl fF_X2_52 (fs hF rfl rfl) rfl hS.2.1 <| rn_istore (np := 6) F dX2_addHouse_4 rfl hL rfl <| rn_aload_n (np := 7) F dX2_addHouse_6 rfl rfl <| rn_dup (np := 8) F dX2_addHouse_7 rfl rfl <| rn_getfE (np := 11) F dX2_addHouse_8 rfl fF_X2_52 (fs hF rfl rfl) rfl hS.2.1 <| rn_iconst (np := 12) (v := 1) F dX2_addHouse_11 rfl rfl <| rn_iadd (np := 13) F dX2_addHouse_12 rfl <| rn_topE (nI_1 n) <| rn_putf (np := 16) F dX2_addHouse_13 rfl fP_X2_52 (fs hF rfl rfl) rfl rfl rfl <| rn_aload_n (np := 17) F dX2_addHouse_16 rfl rfl <| rn_getr (np := 20) F dX2_addHouse_17 rfl fF_X2_9 (fs hF rfl rfl) rfl <| rn_iload (np := 22) F dX2_addHouse_20 rfl rfl <| rn_iload_n (np := 23) F dX2_addHouse_22 rfl rfl <| rn_iastN (np := 24) F dX2_addHouse_23 rfl (fs hF rfl rfl) rfl (by omega) <| rn_aload_n (np := 25) F dX2_addHouse_24 rfl rfl <| rn_getr (np := 28) F dX2_addHouse_25 rfl fF_X2_15 (fs hF rfl rfl) rfl <| rn_iload (np := 30) F dX2_addHouse_28 rfl rfl <| rn_iload_n (np := 31) F dX2_addHouse_30 rfl rfl <| rn_iastN (np := 32) F dX2_addHouse_31 rfl (fs hF rfl rfl) rfl (by omega) <| rn_aload_n (np := 33) F dX2_addHouse_32 rfl rfl <| rn_getr (np := 36) F dX2_addHouse_33 rfl fF_X2_18 (fs hF rfl rfl) rfl <| rn_iload (np := 38) F dX2_addHouse_36 rfl rfl <| rn_iload_n (np := 39) F dX2_addHouse_38 rfl rfl <| rn_iastN (np := 40) F dX2_addHouse_39 rfl (fs hF rfl rfl) rfl (by omega) <| rn_aload_n (np := 41) F dX2_addHouse_40 rfl rfl <| rn_getr (np := 44) F dX2_addHouse_41 rfl fF_X2_21 (fs hF rfl rfl) rfl <| rn_iload (np := 46) F dX2_addHouse_44 rfl rfl <| rn_iconst (np := 47) (v := 0) F dX2_addHouse_46 rfl rfl <| rn_iastN (np := 48) F dX2_addHouse_47 rfl (fs hF rfl rfl) rfl (by omega) <| rn_aload_n (np := 49) F dX2_addHouse_48 rfl rfl <| rn_getr (np := 52) F dX2_addHouse_49 rfl fF_X2_24 (fs hF rfl rfl) rfl <| rn_iload (np := 54) F dX2_addHouse_52 rfl rfl <| rn_iload (np := 56) F dX2_addHouse_54 rfl rfl <| rn_iastN (np := 57) F dX2_addHouse_56 rfl (fs hF rfl rfl) rfl (by omega) <| rn_aload_n (np := 58) F dX2_addHouse_57 rfl rfl <| rn_iload (np := 60) F dX2_addHouse_58 rfl rfl <| rn_iconst (np := 61) (v := 1) F dX2_addHouse_60 rfl rfl <| rn_cV2v (np := 64) F dX2_addHouse_61 rfl cv_X2_addLoads wM_X2_55 (fs hF rfl rfl) rfl (c_X2_addLoads (i := n) (p := p) (a := a) hF hn hp (by rw [hs_at, hs_at, hs_at]; simp) ha (by simp [hs_at])) (Nat.le_of_ble_eq_true rfl) (Nat.le_of_ble_eq_true rfl) <| rn_iload (np := 66) F dX2_addHouse_64 rfl rfl <| rn_iret F Rr dX2_addHouse_66 ?_
  · refine ⟨rfl, ?_⟩
    have e1 : newC h n (nI a) z (nI p) 2 n = nI a := by unfold newC; simp [hs_at]
    have e2 : newC h n (nI a) z (nI p) 3 n = z := by unfold newC; simp [hs_at]
    show va_up (newC h n (nI a) z (nI p)) 10 (alF (h 10) p (fun t => 1 * tkV (newC h n (nI a) z (nI p) 2 n) (newC h n (nI a) z (nI p) 3 n) t) 6) = _
    rw [e1, e2]
    exact ah_heap hS hn hp
