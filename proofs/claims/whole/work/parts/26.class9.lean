set_option maxRecDepth 20000 in
theorem l_X0_addLoads {X : XxT} {post : Option Value → HpT → Prop} (hF : Full X.1) (F : FxT X cX0_addLoads RX0 0) (Rr : RxT X none post) (hL : X.2.2.2.2.2.2.2.2.2.2.2.2.2.1 = 6) {h : HpT} {b : Nat → Bool} {i p : Nat} {tm : Int32} (hi : i < 9) (hpp : p < 3) (hT : TG b h) (hp : post none (va_up h 18 (alT b (h 18) p (fun t => tm * h 15 (i * 6 + t)) (tcN b 6)))) : ∀ (k : Nat) (j : Nat), tcN b 6 - j < k → j ≤ tcN b 6 → rn X 3 [(0, .ref (gad X.1 11)), (1, .int (nI i)), (2, .int (nI p)), (3, .int tm), (4, .int (nI j))] [] (va_up h 18 (alT b (h 18) p (fun t => tm * h 15 (i * 6 + t)) j)) := by
  intro k
  induction k with
  | zero => intro j hk; exact absurd hk (Nat.not_lt_zero _)
  | succ k ih =>
    intro j hk hj
    have h6 := tcN_le b 6
    refine rn_iload (np := 5) F dX0_addLoads_3 rfl rfl <| rn_aload_n (np := 6) F dX0_addLoads_5 rfl rfl <| rn_getfE (np := 9) F dX0_addLoads_6 rfl fF_X0_89 (fs hF rfl rfl) rfl hT.1 <| rn_Nge (tg := 56) (np := 12) F dX0_addLoads_9 rfl rfl rfl rfl (by omega) (fun c9 => rn_vret F Rr dX0_addLoads_56 ?_) (fun c9 => ?_)
    · rw [show j = tcN b 6 by omega]; exact hp
    · obtain ⟨f, ef⟩ := hT.2
      obtain ⟨q, hq, hb, e1, e2⟩ := thF_in b f 6 j (by omega)
      subst e2
      refine rn_aload_n (np := 13) F dX0_addLoads_12 rfl rfl <| rn_getr (np := 16) F dX0_addLoads_13 rfl fF_X0_33 (fs hF rfl rfl) rfl <| rn_iload (np := 18) F dX0_addLoads_16 rfl rfl <| rn_ialdE (np := 19) F dX0_addLoads_18 rfl (fs hF rfl rfl) rfl (by omega) (show h 19 (tcN b q) = nI q by rw [ef]; exact e1) <| rn_istore (np := 21) F dX0_addLoads_19 rfl hL rfl <| rn_aload_n (np := 22) F dX0_addLoads_21 rfl rfl <| rn_getr (np := 25) F dX0_addLoads_22 rfl fF_X0_30 (fs hF rfl rfl) rfl <| rn_iload_n (np := 26) F dX0_addLoads_25 rfl rfl <| rn_bipush (np := 28) (v := 6) F dX0_addLoads_26 rfl rfl <| rn_imul (np := 29) F dX0_addLoads_28 rfl <| rn_iload (np := 31) F dX0_addLoads_29 rfl rfl <| rn_iadd (np := 32) F dX0_addLoads_31 rfl <| rn_dup2 (np := 33) F dX0_addLoads_32 rfl rfl rfl <| rn_ialdN (np := 34) F dX0_addLoads_33 rfl (fs hF rfl rfl) (ix6 p q) (by omega) <| rn_iload_n (np := 35) F dX0_addLoads_34 rfl rfl <| rn_aload_n (np := 36) F dX0_addLoads_35 rfl rfl <| rn_getr (np := 39) F dX0_addLoads_36 rfl fF_X0_21 (fs hF rfl rfl) rfl <| rn_iload_n (np := 40) F dX0_addLoads_39 rfl rfl <| rn_bipush (np := 42) (v := 6) F dX0_addLoads_40 rfl rfl <| rn_imul (np := 43) F dX0_addLoads_42 rfl <| rn_iload (np := 45) F dX0_addLoads_43 rfl rfl <| rn_iadd (np := 46) F dX0_addLoads_45 rfl <| rn_ialdN (np := 47) F dX0_addLoads_46 rfl (fs hF rfl rfl) (ix6 i q) (by omega) <| rn_imul (np := 48) F dX0_addLoads_47 rfl <| rn_iadd (np := 49) F dX0_addLoads_48 rfl <| rn_iastN (np := 50) F dX0_addLoads_49 rfl (fs hF rfl rfl) (ix6 p q) (by omega) <| rn_iincN (np := 53) F dX0_addLoads_50 rfl rfl hL rfl <| rn_goto (np := 3) F dX0_addLoads_53 rfl <| ?_
      have z := ih (tcN b q + 1) (by omega) (by omega)
      rw [← alT_step b h (h 18) p q (fun t => tm * h 15 (i * 6 + t)) hq hb] at z
      exact rn_pick [0, 1, 2, 3, 4] rfl z
set_option maxRecDepth 20000 in
theorem c_X0_addLoads {G : GxT} (hF : Full G) {h : HpT} {b : Nat → Bool} {i p : Nat} {tm : Int32} (hi : i < 9) (hpp : p < 3) (hT : TG b h) : mcv G yX0_addLoads cX0_addLoads 6 none 0 [.ref (gad G 11), .int (nI i), .int (nI p), .int tm] h (va_up h 18 (alT b (h 18) p (fun t => tm * h 15 (i * 6 + t)) (tcN b 6))) := by
  refine mc_of (by decide) (Nat.le_of_ble_eq_true rfl) (fun X hG F Rr hL => ?_)
  subst hG
  have F : FxT X cX0_addLoads RX0 0 := F
  show rn X 0 [(0, .ref (gad X.1 11)), (1, .int (nI i)), (2, .int (nI p)), (3, .int tm)] [] h
  refine rn_iconst (np := 1) (v := 0) F dX0_addLoads_0 rfl rfl <| rn_istore (np := 3) F dX0_addLoads_1 rfl hL rfl <| ?_
  have z := l_X0_addLoads (h := h) hF F Rr hL hi hpp hT ⟨rfl, rfl⟩ (tcN b 6 + 1) 0 (by omega) (by omega)
  rw [alT_0, up_id] at z
  exact z
set_option maxRecDepth 20000 in
theorem l_X0_isLaidSafe {X : XxT} {post : Option Value → HpT → Prop} (hF : Full X.1) (F : FxT X cX0_isLaidSafe RX0 1) (Rr : RxT X (some .boolean) post) (hL : X.2.2.2.2.2.2.2.2.2.2.2.2.2.1 = 3) {h : HpT} {b : Nat → Bool} (hT : TG b h) (h1 : sfT b (h 18) (h 1 11) → post (some (.int 1)) h) (h0 : ¬ sfT b (h 18) (h 1 11) → post (some (.int 0)) h) : ∀ (k : Nat) (j p : Nat), 4 * tcN b 6 - (4 * j + p) < k → j < tcN b 6 → p ≤ 3 → (∀ t, t < 6 → b t = true → (tcN b t < j ∨ tcN b t = j) → ∀ x, x < 3 → (tcN b t = j → x < p) → absI (h 18 (x * 6 + t)) ≤ h 1 11) → rn X 12 [(0, .ref (gad X.1 11)), (1, .int (nI j)), (2, .int (nI p))] [] h := by
  intro k
  induction k with
  | zero => intro j p hk; exact absurd hk (Nat.not_lt_zero _)
  | succ k ih =>
    intro j p hk hj hpp hall
    have h6 := tcN_le b 6
    obtain ⟨f, ef⟩ := hT.2
    obtain ⟨q, hq, hbq, e1, e2⟩ := thF_in b f 6 j (by omega)
    refine rn_iload_n (np := 13) F dX0_isLaidSafe_12 rfl rfl <| rn_iconst (np := 14) (v := 3) F dX0_isLaidSafe_13 rfl rfl <| rn_Nge (tg := 54) (np := 17) (b := 3) F dX0_isLaidSafe_14 rfl rfl rfl rfl (by omega) (fun c14 => rn_iincN (np := 57) F dX0_isLaidSafe_54 rfl rfl hL rfl <| rn_goto (np := 2) F dX0_isLaidSafe_57 rfl <| rn_iload_n (np := 3) F dX0_isLaidSafe_2 rfl rfl <| rn_aload_n (np := 4) F dX0_isLaidSafe_3 rfl rfl <| rn_getfE (np := 7) F dX0_isLaidSafe_4 rfl fF_X0_89 (fs hF rfl rfl) rfl hT.1 <| rn_Nge (tg := 60) (np := 10) F dX0_isLaidSafe_7 rfl rfl rfl rfl (by omega) (fun c7 => rn_iconst (np := 61) (v := 1) F dX0_isLaidSafe_60 rfl rfl <| rn_zret F Rr dX0_isLaidSafe_61 rfl ?_) (fun c7 => rn_iconst (np := 11) (v := 0) F dX0_isLaidSafe_10 rfl rfl <| rn_istore_n (np := 12) F dX0_isLaidSafe_11 rfl hL rfl <| ?_)) (fun c14 => rn_aload_n (np := 18) F dX0_isLaidSafe_17 rfl rfl <| rn_getr (np := 21) F dX0_isLaidSafe_18 rfl fF_X0_30 (fs hF rfl rfl) rfl <| rn_iload_n (np := 22) F dX0_isLaidSafe_21 rfl rfl <| rn_bipush (np := 24) (v := 6) F dX0_isLaidSafe_22 rfl rfl <| rn_imul (np := 25) F dX0_isLaidSafe_24 rfl <| rn_aload_n (np := 26) F dX0_isLaidSafe_25 rfl rfl <| rn_getr (np := 29) F dX0_isLaidSafe_26 rfl fF_X0_33 (fs hF rfl rfl) rfl <| rn_iload_n (np := 30) F dX0_isLaidSafe_29 rfl rfl <| rn_ialdE (np := 31) F dX0_isLaidSafe_30 rfl (fs hF rfl rfl) rfl (by omega) (show h 19 j = nI q by rw [ef]; exact e1) <| rn_iadd (np := 32) F dX0_isLaidSafe_31 rfl <| rn_ialdN (np := 33) F dX0_isLaidSafe_32 rfl (fs hF rfl rfl) (ix6 p q) (by omega) <| rn_mabs (np := 36) F dX0_isLaidSafe_33 rfl wM_X0_130 wT_yJ9_abs_0f7a4 wN_J9 wC_yJ9_abs_0f7a4 (Nat.le_of_ble_eq_true rfl) (Nat.le_of_ble_eq_true rfl) <| rn_aload_n (np := 37) F dX0_isLaidSafe_36 rfl rfl <| rn_getr (np := 40) F dX0_isLaidSafe_37 rfl fF_X0_36 (fs hF rfl rfl) rfl <| rn_getf (np := 43) F dX0_isLaidSafe_40 rfl fF_X0_97 (fs hF rfl rfl) rfl <| rn_icmp_le (tg := 48) (np := 46) F dX0_isLaidSafe_43 rfl rfl (fun c43 => rn_iincN (np := 51) F dX0_isLaidSafe_48 rfl rfl hL rfl <| rn_goto (np := 12) F dX0_isLaidSafe_51 rfl <| ?_) (fun c43 => rn_iconst (np := 47) (v := 0) F dX0_isLaidSafe_46 rfl rfl <| rn_zret F Rr dX0_isLaidSafe_47 rfl ?_))
    · refine h1 (fun t ht hb x hx => ?_)
      have := (thF_at b f 6 t ht hb).2
      exact hall t ht hb (by omega) x hx (by omega)
    · refine ih (j + 1) 0 (by omega) (by omega) (by omega) (fun t ht hb ho x hx hy => ?_)
      exact hall t ht hb (by omega) x hx (by omega)
    · refine ih j (p + 1) (by omega) (by omega) (by omega) (fun t ht hb ho x hx hy => ?_)
      by_cases e : tcN b t = j ∧ x = p
      · obtain ⟨e, rfl⟩ := e
        have : t = q := tcN_inj b hb hbq (by omega)
        subst this
        exact c43
      · exact hall t ht hb ho x hx (by omega)
    · exact h0 (fun z => c43 (z q hq hbq p (by omega)))
set_option maxRecDepth 20000 in
theorem c_X0_isLaidSafe {G : GxT} (hF : Full G) {h : HpT} {b : Nat → Bool} (hT : TG b h) : mci G yX0_isLaidSafe cX0_isLaidSafe 3 (some .boolean) 1 [.ref (gad G 11)] h (bP (sfT b (h 18) (h 1 11))) (h) := by
  refine mc_of (by decide) (Nat.le_of_ble_eq_true rfl) (fun X hG F Rr hL => ?_)
  subst hG
  have F : FxT X cX0_isLaidSafe RX0 1 := F
  show rn X 0 [(0, .ref (gad X.1 11))] [] h
  have h6 := tcN_le b 6
  obtain ⟨f, ef⟩ := hT.2
  refine rn_iconst (np := 1) (v := 0) F dX0_isLaidSafe_0 rfl rfl <| rn_istore_n (np := 2) F dX0_isLaidSafe_1 rfl hL rfl <| rn_iload_n (np := 3) F dX0_isLaidSafe_2 rfl rfl <| rn_aload_n (np := 4) F dX0_isLaidSafe_3 rfl rfl <| rn_getfE (np := 7) F dX0_isLaidSafe_4 rfl fF_X0_89 (fs hF rfl rfl) rfl hT.1 <| rn_Nge (tg := 60) (np := 10) F dX0_isLaidSafe_7 rfl rfl (show (0 : Int32) = nI 0 from rfl) rfl (by omega) (fun c7 => rn_iconst (np := 61) (v := 1) F dX0_isLaidSafe_60 rfl rfl <| rn_zret F Rr dX0_isLaidSafe_61 rfl ?_) (fun c7 => rn_iconst (np := 11) (v := 0) F dX0_isLaidSafe_10 rfl rfl <| rn_istore_n (np := 12) F dX0_isLaidSafe_11 rfl hL rfl <| ?_)
  · refine ⟨?_, rfl⟩
    rw [bP_t]
    intro t ht hb
    have := (thF_at b f 6 t ht hb).2
    omega
  · exact l_X0_isLaidSafe hF F Rr hL hT (fun q => ⟨by rw [bP_t q], rfl⟩) (fun q => ⟨by rw [bP_f q], rfl⟩) (4 * tcN b 6 + 1) 0 0 (by omega) (by omega) (by omega) (fun t _ _ _ x _ _ => by omega)
set_option maxRecDepth 20000 in
theorem c_X0_mayLie {G : GxT} (hF : Full G) {h : HpT} {i p a : Nat} (hi : i < 9) (hp : p < 3) (ha : a ≤ i) (e6 : h 6 i = nI a) : mci G yX0_mayLie cX0_mayLie 4 (some .boolean) 0 [.ref (gad G 11), .int (nI i), .int (nI p)] h (bP ((h 5 i = 1 → nI p = h 4 i) ∧ (a = i ∨ nI p = h 14 a))) (h) := by
  refine mc_of (by decide) (Nat.le_of_ble_eq_true rfl) (fun X hG F Rr hL => ?_)
  subst hG
  have F : FxT X cX0_mayLie RX0 0 := F
  show rn X 0 [(0, .ref (gad X.1 11)), (1, .int (nI i)), (2, .int (nI p))] [] h
  refine rn_aload_n (np := 1) F dX0_mayLie_0 rfl rfl <| rn_getr (np := 4) F dX0_mayLie_1 rfl fF_X0_36 (fs hF rfl rfl) rfl <| rn_getr (np := 7) F dX0_mayLie_4 rfl fF_X0_124 (fs hF rfl rfl) rfl <| rn_iload_n (np := 8) F dX0_mayLie_7 rfl rfl <| rn_ialdN (np := 9) F dX0_mayLie_8 rfl (fs hF rfl rfl) rfl (by omega) <| rn_iconst (np := 10) (v := 1) F dX0_mayLie_9 rfl rfl <| rn_icmp_ne (tg := 28) (np := 13) F dX0_mayLie_10 rfl rfl (fun c10 => rn_aload_n (np := 29) F dX0_mayLie_28 rfl rfl <| rn_getr (np := 32) F dX0_mayLie_29 rfl fF_X0_36 (fs hF rfl rfl) rfl <| rn_getr (np := 35) F dX0_mayLie_32 rfl fF_X0_127 (fs hF rfl rfl) rfl <| rn_iload_n (np := 36) F dX0_mayLie_35 rfl rfl <| rn_ialdE (np := 37) F dX0_mayLie_36 rfl (fs hF rfl rfl) rfl (by omega) e6 <| rn_istore_n (np := 38) F dX0_mayLie_37 rfl hL rfl <| rn_iload_n (np := 39) F dX0_mayLie_38 rfl rfl <| rn_iload_n (np := 40) F dX0_mayLie_39 rfl rfl <| rn_Neq (tg := 53) (np := 43) F dX0_mayLie_40 rfl rfl rfl rfl (by omega) (fun c40 => rn_iconst (np := 54) (v := 1) F dX0_mayLie_53 rfl rfl <| rn_goto (np := 58) F dX0_mayLie_54 rfl <| rn_zret F Rr dX0_mayLie_58 rfl ?_) (fun c40 => rn_iload_n (np := 44) F dX0_mayLie_43 rfl rfl <| rn_aload_n (np := 45) F dX0_mayLie_44 rfl rfl <| rn_getr (np := 48) F dX0_mayLie_45 rfl fF_X0_18 (fs hF rfl rfl) rfl <| rn_iload_n (np := 49) F dX0_mayLie_48 rfl rfl <| rn_ialdN (np := 50) F dX0_mayLie_49 rfl (fs hF rfl rfl) rfl (by omega) <| rn_icmp_ne (tg := 57) (np := 53) F dX0_mayLie_50 rfl rfl (fun c50 => rn_iconst (np := 58) (v := 0) F dX0_mayLie_57 rfl rfl <| rn_zret F Rr dX0_mayLie_58 rfl ?_) (fun c50 => rn_iconst (np := 54) (v := 1) F dX0_mayLie_53 rfl rfl <| rn_goto (np := 58) F dX0_mayLie_54 rfl <| rn_zret F Rr dX0_mayLie_58 rfl ?_))) (fun c10 => rn_iload_n (np := 14) F dX0_mayLie_13 rfl rfl <| rn_aload_n (np := 15) F dX0_mayLie_14 rfl rfl <| rn_getr (np := 18) F dX0_mayLie_15 rfl fF_X0_36 (fs hF rfl rfl) rfl <| rn_getr (np := 21) F dX0_mayLie_18 rfl fF_X0_121 (fs hF rfl rfl) rfl <| rn_iload_n (np := 22) F dX0_mayLie_21 rfl rfl <| rn_ialdN (np := 23) F dX0_mayLie_22 rfl (fs hF rfl rfl) rfl (by omega) <| rn_icmp_eq (tg := 28) (np := 26) F dX0_mayLie_23 rfl rfl (fun c23 => rn_aload_n (np := 29) F dX0_mayLie_28 rfl rfl <| rn_getr (np := 32) F dX0_mayLie_29 rfl fF_X0_36 (fs hF rfl rfl) rfl <| rn_getr (np := 35) F dX0_mayLie_32 rfl fF_X0_127 (fs hF rfl rfl) rfl <| rn_iload_n (np := 36) F dX0_mayLie_35 rfl rfl <| rn_ialdE (np := 37) F dX0_mayLie_36 rfl (fs hF rfl rfl) rfl (by omega) e6 <| rn_istore_n (np := 38) F dX0_mayLie_37 rfl hL rfl <| rn_iload_n (np := 39) F dX0_mayLie_38 rfl rfl <| rn_iload_n (np := 40) F dX0_mayLie_39 rfl rfl <| rn_Neq (tg := 53) (np := 43) F dX0_mayLie_40 rfl rfl rfl rfl (by omega) (fun c40 => rn_iconst (np := 54) (v := 1) F dX0_mayLie_53 rfl rfl <| rn_goto (np := 58) F dX0_mayLie_54 rfl <| rn_zret F Rr dX0_mayLie_58 rfl ?_) (fun c40 => rn_iload_n (np := 44) F dX0_mayLie_43 rfl rfl <| rn_aload_n (np := 45) F dX0_mayLie_44 rfl rfl <| rn_getr (np := 48) F dX0_mayLie_45 rfl fF_X0_18 (fs hF rfl rfl) rfl <| rn_iload_n (np := 49) F dX0_mayLie_48 rfl rfl <| rn_ialdN (np := 50) F dX0_mayLie_49 rfl (fs hF rfl rfl) rfl (by omega) <| rn_icmp_ne (tg := 57) (np := 53) F dX0_mayLie_50 rfl rfl (fun c50 => rn_iconst (np := 58) (v := 0) F dX0_mayLie_57 rfl rfl <| rn_zret F Rr dX0_mayLie_58 rfl ?_) (fun c50 => rn_iconst (np := 54) (v := 1) F dX0_mayLie_53 rfl rfl <| rn_goto (np := 58) F dX0_mayLie_54 rfl <| rn_zret F Rr dX0_mayLie_58 rfl ?_))) (fun c23 => rn_iconst (np := 27) (v := 0) F dX0_mayLie_26 rfl rfl <| rn_zret F Rr dX0_mayLie_27 rfl ?_))
  · exact ⟨by rw [bP_t ⟨fun z => absurd z c10, Or.inl c40⟩], rfl⟩
  · exact ⟨by rw [bP_f (fun z => z.2.elim c40 c50)], rfl⟩
  · exact ⟨by rw [bP_t ⟨fun z => absurd z c10, Or.inr c50⟩], rfl⟩
  · exact ⟨by rw [bP_t ⟨fun _ => c23, Or.inl c40⟩], rfl⟩
  · exact ⟨by rw [bP_f (fun z => z.2.elim c40 c50)], rfl⟩
  · exact ⟨by rw [bP_t ⟨fun _ => c23, Or.inr c50⟩], rfl⟩
  · exact ⟨by rw [bP_f (fun z => c23 (z.1 c10))], rfl⟩
set_option maxRecDepth 20000 in
theorem l2_X0_meetEarlier {X : XxT} {post : Option Value → HpT → Prop} (hF : Full X.1) (F : FxT X cX0_meetEarlier RX0 0) (Rr : RxT X none post) (hL : X.2.2.2.2.2.2.2.2.2.2.2.2.2.1 = 4) {h : HpT} {i : Nat} {f0 : Nat → Int32} (hi : i < 9) (hr : ∀ o, o < i → ∃ p, p < 3 ∧ h 14 o = nI p) (hp : post none (va_up h 17 (meF f0 (h 14) (h 16) i i))) : ∀ (k : Nat) (o : Nat), i - o < k → o ≤ i → rn X 28 [(0, .ref (gad X.1 11)), (1, .int (nI i)), (2, .int (nI (i * 3))), (3, .int (nI o))] [] (va_up h 17 (meF f0 (h 14) (h 16) i o)) := by
  intro k
  induction k with
  | zero => intro o hk; exact absurd hk (Nat.not_lt_zero _)
  | succ k ih =>
    intro o hk ho
    refine rn_iload_n (np := 29) F dX0_meetEarlier_28 rfl rfl <| rn_iload_n (np := 30) F dX0_meetEarlier_29 rfl rfl <| rn_Nge (tg := 66) (np := 33) F dX0_meetEarlier_30 rfl rfl rfl rfl (by omega) (fun c30 => rn_vret F Rr dX0_meetEarlier_66 ?_) (fun c30 => ?_)
    · rw [show o = i by omega]; exact hp
    · obtain ⟨p, hpp, ep⟩ := hr o (by omega)
      refine rn_aload_n (np := 34) F dX0_meetEarlier_33 rfl rfl <| rn_getr (np := 37) F dX0_meetEarlier_34 rfl fF_X0_27 (fs hF rfl rfl) rfl <| rn_iload_n (np := 38) F dX0_meetEarlier_37 rfl rfl <| rn_aload_n (np := 39) F dX0_meetEarlier_38 rfl rfl <| rn_getr (np := 42) F dX0_meetEarlier_39 rfl fF_X0_18 (fs hF rfl rfl) rfl <| rn_iload_n (np := 43) F dX0_meetEarlier_42 rfl rfl <| rn_ialdE (np := 44) F dX0_meetEarlier_43 rfl (fs hF rfl rfl) rfl (by omega) ep <| rn_iadd (np := 45) F dX0_meetEarlier_44 rfl <| rn_dup2 (np := 46) F dX0_meetEarlier_45 rfl rfl rfl <| rn_ialdN (np := 47) F dX0_meetEarlier_46 rfl (fs hF rfl rfl) (nI_add (i * 3) p) (by omega) <| rn_aload_n (np := 48) F dX0_meetEarlier_47 rfl rfl <| rn_getr (np := 51) F dX0_meetEarlier_48 rfl fF_X0_24 (fs hF rfl rfl) rfl <| rn_iload_n (np := 52) F dX0_meetEarlier_51 rfl rfl <| rn_bipush (np := 54) (v := 9) F dX0_meetEarlier_52 rfl rfl <| rn_imul (np := 55) F dX0_meetEarlier_54 rfl <| rn_iload_n (np := 56) F dX0_meetEarlier_55 rfl rfl <| rn_iadd (np := 57) F dX0_meetEarlier_56 rfl <| rn_ialdN (np := 58) F dX0_meetEarlier_57 rfl (fs hF rfl rfl) (ix9 i o) (by omega) <| rn_iadd (np := 59) F dX0_meetEarlier_58 rfl <| rn_iastN (np := 60) F dX0_meetEarlier_59 rfl (fs hF rfl rfl) (nI_add (i * 3) p) (by omega) <| rn_iincN (np := 63) F dX0_meetEarlier_60 rfl rfl hL rfl <| rn_goto (np := 28) F dX0_meetEarlier_63 rfl <| ?_
      have z := ih (o + 1) (by omega) (by omega)
      rw [← me_step h f0 (h 14) (h 16) i o p hpp ep] at z
      exact z
set_option maxRecDepth 20000 in
theorem l1_X0_meetEarlier {X : XxT} {post : Option Value → HpT → Prop} (hF : Full X.1) (F : FxT X cX0_meetEarlier RX0 0) (Rr : RxT X none post) (hL : X.2.2.2.2.2.2.2.2.2.2.2.2.2.1 = 4) {h : HpT} {i : Nat} (hi : i < 9) (hr : ∀ o, o < i → ∃ p, p < 3 ∧ h 14 o = nI p) (hp : post none (va_up h 17 (meF (h 17) (h 14) (h 16) i i))) : ∀ (k : Nat) (p : Nat), 3 - p < k → p ≤ 3 → rn X 6 [(0, .ref (gad X.1 11)), (1, .int (nI i)), (2, .int (nI (i * 3))), (3, .int (nI p))] [] (va_up h 17 (mzF (h 17) i p)) := by
  intro k
  induction k with
  | zero => intro p hk; exact absurd hk (Nat.not_lt_zero _)
  | succ k ih =>
    intro p hk hpp
    refine rn_iload_n (np := 7) F dX0_meetEarlier_6 rfl rfl <| rn_iconst (np := 8) (v := 3) F dX0_meetEarlier_7 rfl rfl <| rn_Nge (tg := 26) (np := 11) (b := 3) F dX0_meetEarlier_8 rfl rfl rfl rfl (by omega) (fun c8 => rn_iconst (np := 27) (v := 0) F dX0_meetEarlier_26 rfl rfl <| rn_istore_n (np := 28) F dX0_meetEarlier_27 rfl hL rfl <| ?_) (fun c8 => rn_aload_n (np := 12) F dX0_meetEarlier_11 rfl rfl <| rn_getr (np := 15) F dX0_meetEarlier_12 rfl fF_X0_27 (fs hF rfl rfl) rfl <| rn_iload_n (np := 16) F dX0_meetEarlier_15 rfl rfl <| rn_iload_n (np := 17) F dX0_meetEarlier_16 rfl rfl <| rn_iadd (np := 18) F dX0_meetEarlier_17 rfl <| rn_iconst (np := 19) (v := 0) F dX0_meetEarlier_18 rfl rfl <| rn_iastN (np := 20) F dX0_meetEarlier_19 rfl (fs hF rfl rfl) (nI_add (i * 3) p) (by omega) <| rn_iincN (np := 23) F dX0_meetEarlier_20 rfl rfl hL rfl <| rn_goto (np := 6) F dX0_meetEarlier_23 rfl <| ?_)
    · rw [show p = 3 by omega, mz_me (h 17) (h 14) (h 16) i]
      exact l2_X0_meetEarlier (h := h) hF F Rr hL hi hr hp (i + 1) 0 (by omega) (by omega)
    · rw [mz_step]; exact ih (p + 1) (by omega) (by omega)
set_option maxRecDepth 20000 in
theorem c_X0_meetEarlier {G : GxT} (hF : Full G) {h : HpT} {i : Nat} (hi : i < 9) (hr : ∀ o, o < i → ∃ p, p < 3 ∧ h 14 o = nI p) : mcv G yX0_meetEarlier cX0_meetEarlier 4 none 0 [.ref (gad G 11), .int (nI i)] h (va_up h 17 (meF (h 17) (h 14) (h 16) i i)) := by
  refine mc_of (by decide) (Nat.le_of_ble_eq_true rfl) (fun X hG F Rr hL => ?_)
  subst hG
  have F : FxT X cX0_meetEarlier RX0 0 := F
  show rn X 0 [(0, .ref (gad X.1 11)), (1, .int (nI i))] [] h
  refine rn_iload_n (np := 1) F dX0_meetEarlier_0 rfl rfl <| rn_iconst (np := 2) (v := 3) F dX0_meetEarlier_1 rfl rfl <| rn_imul (np := 3) F dX0_meetEarlier_2 rfl <| rn_topE (pk_mul i 3) <| rn_istore_n (np := 4) F dX0_meetEarlier_3 rfl hL rfl <| rn_iconst (np := 5) (v := 0) F dX0_meetEarlier_4 rfl rfl <| rn_istore_n (np := 6) F dX0_meetEarlier_5 rfl hL rfl <| ?_
  have z := l1_X0_meetEarlier (h := h) hF F Rr hL hi hr ⟨rfl, rfl⟩ 4 0 (by omega) (by omega)
  rw [mz_0, up_id] at z
  exact z
