def fa5 (h : HpT) : HpT := hs (hs (hs (va_up (hs h 11 13 1) 12 (fillF (h 12) 10 (-1))) 11 11 0) 11 2 0) 11 12 (-1)
def fa6 (h : HpT) (n : Nat) : HpT := va_up (fa5 h) 15 (rtF (fa5 h) (n * 6))
def fab (h : HpT) (n : Nat) : Nat → Bool := tgB (rtF (fa5 h) (n * 6)) (h 1 11) n
def fa7 (h : HpT) (n : Nat) : HpT := tgh (fa6 h n) (fab h n) 6
def fa8 (h : HpT) (n : Nat) : HpT := va_up (fa7 h n) 16 (mpF (fa7 h n) n 0)
theorem lyh_self (h : HpT) : lyh h (h 11, h 12, h 13) (h 14) (h 17) (h 18) = h := by
  unfold lyh
  funext q
  simp only [va_up]
  by_cases h1 : q = 11 <;> by_cases h2 : q = 12 <;> by_cases h3 : q = 13 <;> by_cases h4 : q = 14 <;> by_cases h5 : q = 17 <;> by_cases h6 : q = 18 <;> simp_all
/-- what a search leaves: raw -/
def FaR (h : HpT) (n : Nat) (lt : Nat → Nat) (h' : HpT) : Prop := (¬ h 11 13 = 0 ∧ h' = h) ∨ (h 11 13 = 0 ∧ ∃ a' m', h' = lyh (fa8 h n) (plF (fab h n) (h 4) (h 5) (rtF (fa5 h) (n * 6)) (mpF (fa7 h n) n 0) lt (h 1 11) n n 0 (h 14) (h 18) (gaF (mpF (fa7 h n) n 0) n) 0 (fa8 h n 11, fa8 h n 12, h 13)) a' m' (h 18))
theorem fa5_cell {h : HpT} {k : Nat} (h1 : k ≠ 11) (h2 : k ≠ 12) : fa5 h k = h k := by unfold fa5 hs; simp only [va_up, h1, h2, if_false]
theorem fa8_cell {h : HpT} {n k : Nat} (h1 : k ≠ 11) (h2 : k ≠ 12) (h3 : k ≠ 15) (h4 : k ≠ 16) (h5 : k ≠ 19) : fa8 h n k = h k := by
  unfold fa8 fa7 tgh fa6
  rw [va_up_ne _ _ h4, va_up_ne _ _ h5, va_up_ne _ _ h1, va_up_ne _ _ h3, fa5_cell h1 h2]
theorem fa8_19 (h : HpT) (n : Nat) : fa8 h n 19 = thF (fab h n) (fa6 h n 19) 6 := by
  unfold fa8 fa7 tgh
  rw [va_up_ne _ _ (by decide), va_up_self]
theorem fa8_11 (h : HpT) (n : Nat) : fa8 h n 11 = upd (fa6 h n 11) 10 (nI (tcN (fab h n) 6)) := by
  unfold fa8 fa7 tgh
  rw [va_up_ne _ _ (by decide), va_up_ne _ _ (by decide), va_up_self]
theorem fa8_10 (h : HpT) (n : Nat) : fa8 h n 11 10 = nI (tcN (fab h n) 6) := by rw [fa8_11, pk_us]
theorem PB_fa {h : HpT} {n : Nat} {lt : Nat → Nat} (hS : SI n h) (hlt : ∀ i, i < n → lt i ≤ i ∧ h 6 i = nI (lt i)) : PB (fa8 h n) n (fab h n) lt := by
  unfold PB
  rw [fa8_cell (k := 1) (by decide) (by decide) (by decide) (by decide) (by decide), fa8_cell (k := 6) (by decide) (by decide) (by decide) (by decide) (by decide), fa8_cell (k := 4) (by decide) (by decide) (by decide) (by decide) (by decide), fa8_19]
  exact ⟨hS.1, hS.2.1, hlt, ⟨_, rfl⟩, hS.2.2.2.1⟩
set_option maxRecDepth 20000 in
theorem c_X0_findAll {G : GxT} (hF : Full G) {h : HpT} {n : Nat} {lt : Nat → Nat} (hS : SI n h) (hlt : ∀ i, i < n → lt i ≤ i ∧ h 6 i = nI (lt i)) : mc G yX0_findAll cX0_findAll 1 none 13 [.ref (gad G 11)] h (fun r h' => r = none ∧ FaR h n lt h') := by
  have hn := hS.1
  refine mc_of (by decide) (Nat.le_of_ble_eq_true rfl) (fun X hG F Rr hL => ?_)
  subst hG
  have F : FxT X cX0_findAll RX0 13 := F
  show rn X 0 [(0, .ref (gad X.1 11))] [] h
  refine rn_aload_n (np := 1) F dX0_findAll_0 rfl rfl <| rn_getf (np := 4) F dX0_findAll_1 rfl fF_X0_40 (fs hF rfl rfl) rfl <| rn_if_eq (tg := 8) (np := 7) F dX0_findAll_4 rfl rfl (fun c4 => ?_) (fun c4 => rn_vret F Rr dX0_findAll_7 ?_)
  · have hS5 : SI n (fa5 h) := ⟨hS.1, hS.2.1, hS.2.2.1, hS.2.2.2.1, hS.2.2.2.2⟩
    refine rn_aload_n (np := 9) F dX0_findAll_8 rfl rfl <| rn_iconst (np := 10) (v := 1) F dX0_findAll_9 rfl rfl <| rn_putf (np := 13) F dX0_findAll_10 rfl fP_X0_40 (fs hF rfl rfl) rfl rfl rfl <| rn_aload_n (np := 14) F dX0_findAll_13 rfl rfl <| rn_getr (np := 17) F dX0_findAll_14 rfl fF_X0_9 (fs hF rfl rfl) rfl <| rn_iconst (np := 18) (v := (-1)) F dX0_findAll_17 rfl rfl <| rn_cS2v (np := 21) F dX0_findAll_18 rfl cs_J7_fill_53178 wM_X0_51 (c_J7_fill_53178 hF (fs hF rfl rfl) (by decide)) (by omega) (Nat.le_of_ble_eq_true rfl) <| rn_aload_n (np := 22) F dX0_findAll_21 rfl rfl <| rn_iconst (np := 23) (v := 0) F dX0_findAll_22 rfl rfl <| rn_putf (np := 26) F dX0_findAll_23 rfl fP_X0_47 (fs hF rfl rfl) rfl rfl rfl <| rn_aload_n (np := 27) F dX0_findAll_26 rfl rfl <| rn_iconst (np := 28) (v := 0) F dX0_findAll_27 rfl rfl <| rn_putf (np := 31) F dX0_findAll_28 rfl fP_X0_57 (fs hF rfl rfl) rfl rfl rfl <| rn_aload_n (np := 32) F dX0_findAll_31 rfl rfl <| rn_iconst (np := 33) (v := (-1)) F dX0_findAll_32 rfl rfl <| rn_putf (np := 36) F dX0_findAll_33 rfl fP_X0_60 (fs hF rfl rfl) rfl rfl rfl <| rn_aload_n (np := 37) F dX0_findAll_36 rfl rfl <| rn_cV0v (np := 40) F dX0_findAll_37 rfl cv_X0_readTakings wM_X0_63 (fs hF rfl rfl) rfl (c_X0_readTakings (n := n) hF hS5) (by omega) (Nat.le_of_ble_eq_true rfl) <| rn_aload_n (np := 41) F dX0_findAll_40 rfl rfl <| rn_cV0v (np := 44) F dX0_findAll_41 rfl cv_X0_findTightHours wM_X0_66 (fs hF rfl rfl) rfl (c_X0_findTightHours (n := n) hF hn hS.2.1) (by omega) (Nat.le_of_ble_eq_true rfl) <| rn_aload_n (np := 45) F dX0_findAll_44 rfl rfl <| rn_cV0v (np := 48) F dX0_findAll_45 rfl cv_X0_multiplyTakings wM_X0_69 (fs hF rfl rfl) rfl (c_X0_multiplyTakings (n := n) hF hn hS.2.1) (by omega) (Nat.le_of_ble_eq_true rfl) <| rn_aload_n (np := 49) F dX0_findAll_48 rfl rfl <| rn_iconst (np := 50) (v := nI 0) F dX0_findAll_49 rfl rfl <| rn_aload_n (np := 51) F dX0_findAll_50 rfl rfl <| rn_cV0i (np := 54) F dX0_findAll_51 rfl cv_X0_griefApart wM_X0_72 (fs hF rfl rfl) rfl (c_X0_griefApart (n := n) hF hn hS.2.1) (by omega) (Nat.le_of_ble_eq_true rfl) <| rn_hpE (show _ = lyh (fa8 h n) (fa8 h n 11, fa8 h n 12, h 13) (h 14) (h 17) (h 18) from (lyh_self (fa8 h n)).symm) <| rn_iconst (np := 55) (v := nI 0) F dX0_findAll_54 rfl rfl <| rn_cV3p (np := 58) F dX0_findAll_55 rfl cv_X0_place wM_X0_76 (fs hF rfl rfl) rfl (c_X0_place (n := n) hF (PB_fa hS hlt) n 0 (by omega) (h 14) _ _ _ _ _ 0 (fun _ _ => rfl) (fun o ho => absurd ho (Nat.not_lt_zero _)) (fa8_10 h n) (Nat.le_refl 0)) (by omega) (Nat.le_of_ble_eq_true rfl) ?_
    rintro h2 ⟨a', m', e, -, -⟩
    refine rn_vret F Rr dX0_findAll_58 ⟨rfl, Or.inr ⟨c4, a', m', e⟩⟩
  · exact ⟨rfl, Or.inl ⟨c4, rfl⟩⟩
