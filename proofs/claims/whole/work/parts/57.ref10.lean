set_option maxRecDepth 20000 in
theorem l_X5_bestBy {X : XxT} {post : Option Value → HpT → Prop} (hF : Full X.1) (F : FxT X cX5_bestBy RX5 0) (Rr : RxT X (some .int) post) (hL : X.2.2.2.2.2.2.2.2.2.2.2.2.2.1 = 4) {h : HpT} {n : Nat} (hn : n ≤ 9) (hp : post (some (.int (ov (bbN (h 36) (n + 1))))) h) : ∀ (k : Nat) (j : Nat), n + 1 - j < k → j ≤ n + 1 → rn X 4 [(0, .ref (gad X.1 23)), (1, .int (nI n)), (2, .int (ov (bbN (h 36) j))), (3, .int (nI j))] [] h := by
  intro k
  induction k with
  | zero => intro j hk; exact absurd hk (Nat.not_lt_zero _)
  | succ k ih =>
    intro j hk hj
    refine rn_iload_n (np := 5) F dX5_bestBy_4 rfl rfl <| rn_iload_n (np := 6) F dX5_bestBy_5 rfl rfl <| rn_Ngt (tg := 50) (np := 9) F dX5_bestBy_6 rfl rfl rfl rfl (by omega) (fun c6 => rn_iload_n (np := 51) F dX5_bestBy_50 rfl rfl <| rn_iret F Rr dX5_bestBy_51 ?_) (fun c6 => rn_aload_n (np := 10) F dX5_bestBy_9 rfl rfl <| rn_getr (np := 13) F dX5_bestBy_10 rfl fF_X5_50 (fs hF rfl rfl) rfl <| rn_iload_n (np := 14) F dX5_bestBy_13 rfl rfl <| rn_ialdN (np := 15) F dX5_bestBy_14 rfl (fs hF rfl rfl) rfl (by omega) <| rn_if_lt (tg := 42) (np := 18) F dX5_bestBy_15 rfl rfl (fun c15 => rn_iload_n (np := 43) F dX5_bestBy_42 rfl rfl <| rn_istore_n (np := 44) F dX5_bestBy_43 rfl hL rfl <| rn_iincN (np := 47) F dX5_bestBy_44 rfl rfl hL rfl <| rn_goto (np := 4) F dX5_bestBy_47 rfl <| ?_) (fun c15 => rn_iload_n (np := 19) F dX5_bestBy_18 rfl rfl <| rn_iconst (np := 20) (v := (-1)) F dX5_bestBy_19 rfl rfl <| rn_icmp_eq (tg := 38) (np := 23) F dX5_bestBy_20 rfl rfl (fun c20 => rn_iload_n (np := 39) F dX5_bestBy_38 rfl rfl <| rn_goto (np := 43) F dX5_bestBy_39 rfl <| rn_istore_n (np := 44) F dX5_bestBy_43 rfl hL rfl <| rn_iincN (np := 47) F dX5_bestBy_44 rfl rfl hL rfl <| rn_goto (np := 4) F dX5_bestBy_47 rfl <| ?_) (fun c20 => ?_)))
    · rw [show j = n + 1 by omega]; exact hp
    · have e : bbN (h 36) (j + 1) = bbN (h 36) j := by rw [bbN]; exact if_pos c15
      exact e ▸ ih (j + 1) (by omega) (by omega)
    · have e0 : bbN (h 36) j = none := by
        cases hq : bbN (h 36) j with
        | none => rfl
        | some q => rw [hq] at c20; exact absurd c20 (nI_m1 (by have := bbN_lt _ _ _ hq; omega))
      have e : bbN (h 36) (j + 1) = some j := by rw [bbN, if_neg c15, e0]
      have z := ih (j + 1) (by omega) (by omega)
      rw [e] at z
      exact z
    · obtain ⟨q, hq⟩ : ∃ q, bbN (h 36) j = some q := by
        cases hq : bbN (h 36) j with
        | none => rw [hq] at c20; exact absurd rfl c20
        | some q => exact ⟨q, rfl⟩
      have hqj := bbN_lt _ _ _ hq
      rw [hq]
      refine rn_aload_n (np := 24) F dX5_bestBy_23 rfl rfl <| rn_getr (np := 27) F dX5_bestBy_24 rfl fF_X5_50 (fs hF rfl rfl) rfl <| rn_iload_n (np := 28) F dX5_bestBy_27 rfl rfl <| rn_ialdN (np := 29) F dX5_bestBy_28 rfl (fs hF rfl rfl) rfl (by omega) <| rn_aload_n (np := 30) F dX5_bestBy_29 rfl rfl <| rn_getr (np := 33) F dX5_bestBy_30 rfl fF_X5_50 (fs hF rfl rfl) rfl <| rn_iload_n (np := 34) F dX5_bestBy_33 rfl rfl <| rn_ialdN (np := 35) F dX5_bestBy_34 rfl (fs hF rfl rfl) rfl (by omega) <| rn_icmp_ge (tg := 42) (np := 38) F dX5_bestBy_35 rfl rfl (fun c35 => rn_iload_n (np := 43) F dX5_bestBy_42 rfl rfl <| rn_istore_n (np := 44) F dX5_bestBy_43 rfl hL rfl <| rn_iincN (np := 47) F dX5_bestBy_44 rfl rfl hL rfl <| rn_goto (np := 4) F dX5_bestBy_47 rfl <| ?_) (fun c35 => rn_iload_n (np := 39) F dX5_bestBy_38 rfl rfl <| rn_goto (np := 43) F dX5_bestBy_39 rfl <| rn_istore_n (np := 44) F dX5_bestBy_43 rfl hL rfl <| rn_iincN (np := 47) F dX5_bestBy_44 rfl rfl hL rfl <| rn_goto (np := 4) F dX5_bestBy_47 rfl <| ?_)
      · have e : bbN (h 36) (j + 1) = some q := by rw [bbN, if_neg c15, hq]; exact if_neg (Int32.not_lt.mpr c35)
        have z := ih (j + 1) (by omega) (by omega)
        rw [e] at z
        exact z
      · have e : bbN (h 36) (j + 1) = some j := by rw [bbN, if_neg c15, hq]; exact if_pos (Int32.not_le.mp c35)
        have z := ih (j + 1) (by omega) (by omega)
        rw [e] at z
        exact z
set_option maxRecDepth 20000 in
theorem c_X5_bestBy {G : GxT} (hF : Full G) {h : HpT} {n : Nat} (hn : n ≤ 9) : mci G yX5_bestBy cX5_bestBy 4 (some .int) 0 [.ref (gad G 23), .int (nI n)] h (ov (bbN (h 36) (n + 1))) (h) := by
  refine mc_of (by decide) (Nat.le_of_ble_eq_true rfl) (fun X hG F Rr hL => ?_)
  subst hG
  have F : FxT X cX5_bestBy RX5 0 := F
  show rn X 0 [(0, .ref (gad X.1 23)), (1, .int (nI n))] [] h
  refine rn_iconst (np := 1) (v := (-1)) F dX5_bestBy_0 rfl rfl <| rn_istore_n (np := 2) F dX5_bestBy_1 rfl hL rfl <| rn_iconst (np := 3) (v := 0) F dX5_bestBy_2 rfl rfl <| rn_istore_n (np := 4) F dX5_bestBy_3 rfl hL rfl <| ?_
  exact l_X5_bestBy hF F Rr hL hn ⟨rfl, rfl⟩ (n + 2) 0 (by omega) (by omega)
def fwR (f : Nat → Int32) (g : Int32) : Nat → Option Nat
  | 0 => none
  | j + 1 => match fwR f g j with
    | some q => some q
    | none => if f j < 0 ∨ g < f j then none else some j
theorem fwR_up (f : Nat → Int32) (g : Int32) {j q : Nat} (h : fwR f g j = some q) : ∀ m, fwR f g (j + m) = some q
  | 0 => h
  | m + 1 => by
    show fwR f g (j + m + 1) = _
    rw [fwR, fwR_up f g h m]
theorem goR_o {h : HpT} {n q : Nat} {tx ty : Nat → Nat} {j : Nat} (h1 : j ≠ 17) (h2 : j ≠ 18) (h3 : j ≠ 19) : (goR h n q tx ty).1 j = h 23 j := by
  unfold goR
  rw [goF_o (fun a r => kmR_o h1 h2 h3)]
  show gs23 (h 23) j = _
  unfold gs23; rw [pk_un h3, pk_un h2, pk_un h1]
theorem bb_lt {f : Nat → Int32} {k q : Nat} (h : bbN f k = some q) (hk : k ≤ 10) : q < 10 := by have := bbN_lt _ _ _ h; omega
set_option maxRecDepth 20000 in
theorem b_X5_best {G : GxT} (hF : Full G) {h : HpT} {u : Int32} (hu : ¬ (0 ≤ u ∧ u ≤ 2)) : mci G yX5_best cX5_best 3 (some .int) 4 [.ref (gad G 23), .int u] h (-2) (hs h 31 0 (h 31 0 + 1)) := by
  refine mc_of (by decide) (Nat.le_of_ble_eq_true rfl) (fun X hG F Rr hL => ?_)
  subst hG
  have F : FxT X cX5_best RX5 4 := F
  show rn X 0 [(0, .ref (gad X.1 23)), (1, .int u)] [] h
  refine rn_iload_n (np := 1) F dX5_best_0 rfl rfl <| rn_iconst (np := 2) (v := 0) F dX5_best_1 rfl rfl <| rn_iconst (np := 3) (v := 2) F dX5_best_2 rfl rfl <| rn_cS3i (np := 6) F dX5_best_3 rfl cs_X5_in wM_X5_59 (c_X5_in) (Nat.le_of_ble_eq_true rfl) (Nat.le_of_ble_eq_true rfl) <| rn_if_ne (tg := 16) (np := 9) F dX5_best_6 rfl rfl (fun c6 => ?_) (fun c6 => rn_aload_n (np := 10) F dX5_best_9 rfl rfl <| rn_bipush (np := 12) (v := (-2)) F dX5_best_10 rfl rfl <| rn_cV1i (np := 15) F dX5_best_12 rfl cv_X5_refuses wM_X5_63 (fs hF rfl rfl) rfl (c_X5_refuses (k := 0) hF rfl (by decide)) (Nat.le_of_ble_eq_true rfl) (Nat.le_of_ble_eq_true rfl) <| rn_iret F Rr dX5_best_15 ?_)
  all_goals first | exact ⟨rfl, rfl⟩ | exact absurd (bI_1 c6) hu
set_option maxRecDepth 20000 in
theorem o0_X5_best {G : GxT} (hF : Full G) {h : HpT} {n q : Nat} {tx ty : Nat → Nat} (hS : RI n h) (hT : TI2 q tx ty h) : mc G yX5_best cX5_best 3 (some .int) 4 [.ref (gad G 23), .int 0] h (fun r h2 => ∃ x, r = some (.int x) ∧ ∃ l g, (bbN (goR h n q tx ty).2.1 (9 + 1) = none ∧ x = -3 ∧ h2 = hs (gwh (va_up h 32 (rtR h (n * 6))) l g (goR h n q tx ty)) 31 1 (h 31 1 + 1)) ∨ ∃ b, bbN (goR h n q tx ty).2.1 (9 + 1) = some b ∧ x = (goR h n q tx ty).1 18 ∧ h2 = (gwh (va_up h 32 (rtR h (n * 6))) l g (goR h n q tx ty))) := by
  refine mc_of (by decide) (Nat.le_of_ble_eq_true rfl) (fun X hG F Rr hL => ?_)
  subst hG
  have F : FxT X cX5_best RX5 4 := F
  show rn X 0 [(0, .ref (gad X.1 23)), (1, .int 0)] [] h
  have hn := hS.1
  refine rn_iload_n (np := 1) F dX5_best_0 rfl rfl <| rn_iconst (np := 2) (v := 0) F dX5_best_1 rfl rfl <| rn_iconst (np := 3) (v := 2) F dX5_best_2 rfl rfl <| rn_cS3i (np := 6) F dX5_best_3 rfl cs_X5_in wM_X5_59 (c_X5_in) (Nat.le_of_ble_eq_true rfl) (Nat.le_of_ble_eq_true rfl) <| rn_if_ne (tg := 16) (np := 9) F dX5_best_6 rfl rfl (fun _ => rn_aload_n (np := 17) F dX5_best_16 rfl rfl <| rn_cV0p (np := 20) F dX5_best_17 rfl cv_X5_goes wM_X5_173 (fs hF rfl rfl) rfl (c_X5_goes (n := n) (q := q) (tx := tx) (ty := ty) hF hS hT) (Nat.le_of_ble_eq_true rfl) (Nat.le_of_ble_eq_true rfl) ?_) (fun q => absurd q ((fun q => bI_0 q (by decide))))
  rintro h2 ⟨l, g, rfl⟩
  refine rn_aload_n (np := 21) F dX5_best_20 rfl rfl <| rn_bipush (np := 23) (v := 9) F dX5_best_21 rfl rfl <| rn_cV1i (np := 26) F dX5_best_23 rfl cv_X5_bestBy wM_X5_176 (fs hF rfl rfl) rfl (c_X5_bestBy (n := 9) hF (Nat.le_refl 9)) (Nat.le_of_ble_eq_true rfl) (Nat.le_of_ble_eq_true rfl) <| ?_
  cases hb : bbN (goR h n q tx ty).2.1 (9 + 1) with
  | none =>
    refine rn_topE (v := -1) (congrArg ov hb) ?_
    refine rn_istore_n (np := 27) F dX5_best_26 rfl hL rfl <| rn_iload_n (np := 28) F dX5_best_27 rfl rfl <| rn_iconst (np := 29) (v := (-1)) F dX5_best_28 rfl rfl <| rn_icmp_ne (tg := 41) (np := 32) F dX5_best_29 rfl rfl (fun q => absurd q ((fun z => z rfl))) (fun _ => rn_aload_n (np := 33) F dX5_best_32 rfl rfl <| rn_bipush (np := 35) (v := (-3)) F dX5_best_33 rfl rfl <| rn_cV1i (np := 38) F dX5_best_35 rfl cv_X5_refuses wM_X5_63 (fs hF rfl rfl) rfl (c_X5_refuses (k := 1) hF rfl (by decide)) (Nat.le_of_ble_eq_true rfl) (Nat.le_of_ble_eq_true rfl) <| rn_goto (np := 65) F dX5_best_38 rfl <| rn_iret F Rr dX5_best_65 ?_)
    exact ⟨_, rfl, l, g, Or.inl ⟨hb, rfl, rfl⟩⟩
  | some b =>
    have hb10 := bb_lt hb (by omega)
    refine rn_topE (v := nI b) (congrArg ov hb) ?_
    refine rn_istore_n (np := 27) F dX5_best_26 rfl hL rfl <| rn_iload_n (np := 28) F dX5_best_27 rfl rfl <| rn_iconst (np := 29) (v := (-1)) F dX5_best_28 rfl rfl <| rn_icmp_ne (tg := 41) (np := 32) F dX5_best_29 rfl rfl (fun _ => rn_iload_n (np := 42) F dX5_best_41 rfl rfl <| rn_if_ne (tg := 52) (np := 45) F dX5_best_42 rfl rfl (fun q => absurd q ((by decide))) (fun _ => rn_aload_n (np := 46) F dX5_best_45 rfl rfl <| rn_getf (np := 49) F dX5_best_46 rfl fF_X5_164 (fs hF rfl rfl) rfl <| rn_goto (np := 65) F dX5_best_49 rfl <| rn_iret F Rr dX5_best_65 ?_)) (fun q => absurd q ((nI_m1 (by omega))))
    exact ⟨_, rfl, l, g, Or.inr ⟨b, hb, rfl, rfl⟩⟩
set_option maxRecDepth 20000 in
theorem o1_X5_best {G : GxT} (hF : Full G) {h : HpT} {n q : Nat} {tx ty : Nat → Nat} (hS : RI n h) (hT : TI2 q tx ty h) : mc G yX5_best cX5_best 3 (some .int) 4 [.ref (gad G 23), .int 1] h (fun r h2 => ∃ x, r = some (.int x) ∧ ∃ l g, (bbN (goR h n q tx ty).2.1 (9 + 1) = none ∧ x = -3 ∧ h2 = hs (gwh (va_up h 32 (rtR h (n * 6))) l g (goR h n q tx ty)) 31 1 (h 31 1 + 1)) ∨ ∃ b, bbN (goR h n q tx ty).2.1 (9 + 1) = some b ∧ x = nI b ∧ h2 = (gwh (va_up h 32 (rtR h (n * 6))) l g (goR h n q tx ty))) := by
  refine mc_of (by decide) (Nat.le_of_ble_eq_true rfl) (fun X hG F Rr hL => ?_)
  subst hG
  have F : FxT X cX5_best RX5 4 := F
  show rn X 0 [(0, .ref (gad X.1 23)), (1, .int 1)] [] h
  have hn := hS.1
  refine rn_iload_n (np := 1) F dX5_best_0 rfl rfl <| rn_iconst (np := 2) (v := 0) F dX5_best_1 rfl rfl <| rn_iconst (np := 3) (v := 2) F dX5_best_2 rfl rfl <| rn_cS3i (np := 6) F dX5_best_3 rfl cs_X5_in wM_X5_59 (c_X5_in) (Nat.le_of_ble_eq_true rfl) (Nat.le_of_ble_eq_true rfl) <| rn_if_ne (tg := 16) (np := 9) F dX5_best_6 rfl rfl (fun _ => rn_aload_n (np := 17) F dX5_best_16 rfl rfl <| rn_cV0p (np := 20) F dX5_best_17 rfl cv_X5_goes wM_X5_173 (fs hF rfl rfl) rfl (c_X5_goes (n := n) (q := q) (tx := tx) (ty := ty) hF hS hT) (Nat.le_of_ble_eq_true rfl) (Nat.le_of_ble_eq_true rfl) ?_) (fun q => absurd q ((fun q => bI_0 q (by decide))))
  rintro h2 ⟨l, g, rfl⟩
  refine rn_aload_n (np := 21) F dX5_best_20 rfl rfl <| rn_bipush (np := 23) (v := 9) F dX5_best_21 rfl rfl <| rn_cV1i (np := 26) F dX5_best_23 rfl cv_X5_bestBy wM_X5_176 (fs hF rfl rfl) rfl (c_X5_bestBy (n := 9) hF (Nat.le_refl 9)) (Nat.le_of_ble_eq_true rfl) (Nat.le_of_ble_eq_true rfl) <| ?_
  cases hb : bbN (goR h n q tx ty).2.1 (9 + 1) with
  | none =>
    refine rn_topE (v := -1) (congrArg ov hb) ?_
    refine rn_istore_n (np := 27) F dX5_best_26 rfl hL rfl <| rn_iload_n (np := 28) F dX5_best_27 rfl rfl <| rn_iconst (np := 29) (v := (-1)) F dX5_best_28 rfl rfl <| rn_icmp_ne (tg := 41) (np := 32) F dX5_best_29 rfl rfl (fun q => absurd q ((fun z => z rfl))) (fun _ => rn_aload_n (np := 33) F dX5_best_32 rfl rfl <| rn_bipush (np := 35) (v := (-3)) F dX5_best_33 rfl rfl <| rn_cV1i (np := 38) F dX5_best_35 rfl cv_X5_refuses wM_X5_63 (fs hF rfl rfl) rfl (c_X5_refuses (k := 1) hF rfl (by decide)) (Nat.le_of_ble_eq_true rfl) (Nat.le_of_ble_eq_true rfl) <| rn_goto (np := 65) F dX5_best_38 rfl <| rn_iret F Rr dX5_best_65 ?_)
    exact ⟨_, rfl, l, g, Or.inl ⟨hb, rfl, rfl⟩⟩
  | some b =>
    have hb10 := bb_lt hb (by omega)
    refine rn_topE (v := nI b) (congrArg ov hb) ?_
    refine rn_istore_n (np := 27) F dX5_best_26 rfl hL rfl <| rn_iload_n (np := 28) F dX5_best_27 rfl rfl <| rn_iconst (np := 29) (v := (-1)) F dX5_best_28 rfl rfl <| rn_icmp_ne (tg := 41) (np := 32) F dX5_best_29 rfl rfl (fun _ => rn_iload_n (np := 42) F dX5_best_41 rfl rfl <| rn_if_ne (tg := 52) (np := 45) F dX5_best_42 rfl rfl (fun _ => rn_iload_n (np := 53) F dX5_best_52 rfl rfl <| rn_iconst (np := 54) (v := 1) F dX5_best_53 rfl rfl <| rn_icmp_ne (tg := 61) (np := 57) F dX5_best_54 rfl rfl (fun q => absurd q ((by decide))) (fun _ => rn_iload_n (np := 58) F dX5_best_57 rfl rfl <| rn_goto (np := 65) F dX5_best_58 rfl <| rn_iret F Rr dX5_best_65 ?_)) (fun q => absurd q ((by decide)))) (fun q => absurd q ((nI_m1 (by omega))))
    exact ⟨_, rfl, l, g, Or.inr ⟨b, hb, rfl, rfl⟩⟩
set_option maxRecDepth 20000 in
theorem o2_X5_best {G : GxT} (hF : Full G) {h : HpT} {n q : Nat} {tx ty : Nat → Nat} (hS : RI n h) (hT : TI2 q tx ty h) : mc G yX5_best cX5_best 3 (some .int) 4 [.ref (gad G 23), .int 2] h (fun r h2 => ∃ x, r = some (.int x) ∧ ∃ l g, (bbN (goR h n q tx ty).2.1 (9 + 1) = none ∧ x = -3 ∧ h2 = hs (gwh (va_up h 32 (rtR h (n * 6))) l g (goR h n q tx ty)) 31 1 (h 31 1 + 1)) ∨ ∃ b, bbN (goR h n q tx ty).2.1 (9 + 1) = some b ∧ x = (goR h n q tx ty).1 19 ∧ h2 = (gwh (va_up h 32 (rtR h (n * 6))) l g (goR h n q tx ty))) := by
  refine mc_of (by decide) (Nat.le_of_ble_eq_true rfl) (fun X hG F Rr hL => ?_)
  subst hG
  have F : FxT X cX5_best RX5 4 := F
  show rn X 0 [(0, .ref (gad X.1 23)), (1, .int 2)] [] h
  have hn := hS.1
  refine rn_iload_n (np := 1) F dX5_best_0 rfl rfl <| rn_iconst (np := 2) (v := 0) F dX5_best_1 rfl rfl <| rn_iconst (np := 3) (v := 2) F dX5_best_2 rfl rfl <| rn_cS3i (np := 6) F dX5_best_3 rfl cs_X5_in wM_X5_59 (c_X5_in) (Nat.le_of_ble_eq_true rfl) (Nat.le_of_ble_eq_true rfl) <| rn_if_ne (tg := 16) (np := 9) F dX5_best_6 rfl rfl (fun _ => rn_aload_n (np := 17) F dX5_best_16 rfl rfl <| rn_cV0p (np := 20) F dX5_best_17 rfl cv_X5_goes wM_X5_173 (fs hF rfl rfl) rfl (c_X5_goes (n := n) (q := q) (tx := tx) (ty := ty) hF hS hT) (Nat.le_of_ble_eq_true rfl) (Nat.le_of_ble_eq_true rfl) ?_) (fun q => absurd q ((fun q => bI_0 q (by decide))))
  rintro h2 ⟨l, g, rfl⟩
  refine rn_aload_n (np := 21) F dX5_best_20 rfl rfl <| rn_bipush (np := 23) (v := 9) F dX5_best_21 rfl rfl <| rn_cV1i (np := 26) F dX5_best_23 rfl cv_X5_bestBy wM_X5_176 (fs hF rfl rfl) rfl (c_X5_bestBy (n := 9) hF (Nat.le_refl 9)) (Nat.le_of_ble_eq_true rfl) (Nat.le_of_ble_eq_true rfl) <| ?_
  cases hb : bbN (goR h n q tx ty).2.1 (9 + 1) with
  | none =>
    refine rn_topE (v := -1) (congrArg ov hb) ?_
    refine rn_istore_n (np := 27) F dX5_best_26 rfl hL rfl <| rn_iload_n (np := 28) F dX5_best_27 rfl rfl <| rn_iconst (np := 29) (v := (-1)) F dX5_best_28 rfl rfl <| rn_icmp_ne (tg := 41) (np := 32) F dX5_best_29 rfl rfl (fun q => absurd q ((fun z => z rfl))) (fun _ => rn_aload_n (np := 33) F dX5_best_32 rfl rfl <| rn_bipush (np := 35) (v := (-3)) F dX5_best_33 rfl rfl <| rn_cV1i (np := 38) F dX5_best_35 rfl cv_X5_refuses wM_X5_63 (fs hF rfl rfl) rfl (c_X5_refuses (k := 1) hF rfl (by decide)) (Nat.le_of_ble_eq_true rfl) (Nat.le_of_ble_eq_true rfl) <| rn_goto (np := 65) F dX5_best_38 rfl <| rn_iret F Rr dX5_best_65 ?_)
    exact ⟨_, rfl, l, g, Or.inl ⟨hb, rfl, rfl⟩⟩
  | some b =>
    have hb10 := bb_lt hb (by omega)
    refine rn_topE (v := nI b) (congrArg ov hb) ?_
    refine rn_istore_n (np := 27) F dX5_best_26 rfl hL rfl <| rn_iload_n (np := 28) F dX5_best_27 rfl rfl <| rn_iconst (np := 29) (v := (-1)) F dX5_best_28 rfl rfl <| rn_icmp_ne (tg := 41) (np := 32) F dX5_best_29 rfl rfl (fun _ => rn_iload_n (np := 42) F dX5_best_41 rfl rfl <| rn_if_ne (tg := 52) (np := 45) F dX5_best_42 rfl rfl (fun _ => rn_iload_n (np := 53) F dX5_best_52 rfl rfl <| rn_iconst (np := 54) (v := 1) F dX5_best_53 rfl rfl <| rn_icmp_ne (tg := 61) (np := 57) F dX5_best_54 rfl rfl (fun _ => rn_aload_n (np := 62) F dX5_best_61 rfl rfl <| rn_getf (np := 65) F dX5_best_62 rfl fF_X5_167 (fs hF rfl rfl) rfl <| rn_iret F Rr dX5_best_65 ?_) (fun q => absurd q ((by decide)))) (fun q => absurd q ((by decide)))) (fun q => absurd q ((nI_m1 (by omega))))
    exact ⟨_, rfl, l, g, Or.inr ⟨b, hb, rfl, rfl⟩⟩
set_option maxRecDepth 20000 in
theorem b_X5_phase {G : GxT} (hF : Full G) {h : HpT} {n : Nat} {v : Int32} (hS : RI n h) (hv : ¬ inH n v) : mci G yX5_phase cX5_phase 3 (some .int) 4 [.ref (gad G 23), .int v] h (-2) (hs h 31 0 (h 31 0 + 1)) := by
  refine mc_of (by decide) (Nat.le_of_ble_eq_true rfl) (fun X hG F Rr hL => ?_)
  subst hG
  have F : FxT X cX5_phase RX5 4 := F
  show rn X 0 [(0, .ref (gad X.1 23)), (1, .int v)] [] h
  refine rn_aload_n (np := 1) F dX5_phase_0 rfl rfl <| rn_iload_n (np := 2) F dX5_phase_1 rfl rfl <| rn_cV1i (np := 5) F dX5_phase_2 rfl cv_X5_isHouse wM_X5_70 (fs hF rfl rfl) rfl (c_X5_isHouse hF) (Nat.le_of_ble_eq_true rfl) (Nat.le_of_ble_eq_true rfl) <| rn_if_ne (tg := 15) (np := 8) F dX5_phase_5 rfl rfl (fun c5 => ?_) (fun c5 => rn_aload_n (np := 9) F dX5_phase_8 rfl rfl <| rn_bipush (np := 11) (v := (-2)) F dX5_phase_9 rfl rfl <| rn_cV1i (np := 14) F dX5_phase_11 rfl cv_X5_refuses wM_X5_63 (fs hF rfl rfl) rfl (c_X5_refuses (k := 0) hF rfl (by decide)) (Nat.le_of_ble_eq_true rfl) (Nat.le_of_ble_eq_true rfl) <| rn_iret F Rr dX5_phase_14 ?_)
  all_goals first
    | exact ⟨rfl, rfl⟩
    | (have q1 := bI_1 c5
       rw [hS.2.1] at q1
       exact absurd q1 hv)
set_option maxRecDepth 20000 in
theorem o_X5_phase {G : GxT} (hF : Full G) {h : HpT} {n q : Nat} {tx ty : Nat → Nat} {i : Nat} (hS : RI n h) (hT : TI2 q tx ty h) (hi : i < n) : mc G yX5_phase cX5_phase 3 (some .int) 4 [.ref (gad G 23), .int (nI i)] h (fun r h2 => ∃ x, r = some (.int x) ∧ ∃ l g, (bbN (goR h n q tx ty).2.1 (9 + 1) = none ∧ x = -3 ∧ h2 = hs (gwh (va_up h 32 (rtR h (n * 6))) l g (goR h n q tx ty)) 31 1 (h 31 1 + 1)) ∨ ∃ b, bbN (goR h n q tx ty).2.1 (9 + 1) = some b ∧ x = (goR h n q tx ty).2.2 (9 * b + i) ∧ h2 = (gwh (va_up h 32 (rtR h (n * 6))) l g (goR h n q tx ty))) := by
  refine mc_of (by decide) (Nat.le_of_ble_eq_true rfl) (fun X hG F Rr hL => ?_)
  subst hG
  have F : FxT X cX5_phase RX5 4 := F
  show rn X 0 [(0, .ref (gad X.1 23)), (1, .int (nI i))] [] h
  have hn := hS.1
  refine rn_aload_n (np := 1) F dX5_phase_0 rfl rfl <| rn_iload_n (np := 2) F dX5_phase_1 rfl rfl <| rn_cV1i (np := 5) F dX5_phase_2 rfl cv_X5_isHouse wM_X5_70 (fs hF rfl rfl) rfl (c_X5_isHouse hF) (Nat.le_of_ble_eq_true rfl) (Nat.le_of_ble_eq_true rfl) <| rn_if_ne (tg := 15) (np := 8) F dX5_phase_5 rfl rfl (fun _ => rn_aload_n (np := 16) F dX5_phase_15 rfl rfl <| rn_cV0p (np := 19) F dX5_phase_16 rfl cv_X5_goes wM_X5_173 (fs hF rfl rfl) rfl (c_X5_goes (n := n) (q := q) (tx := tx) (ty := ty) hF hS hT) (Nat.le_of_ble_eq_true rfl) (Nat.le_of_ble_eq_true rfl) ?_) (fun q => absurd q ((fun q => bI_0 q (by rw [hS.2.1]; exact hsI hi hS.1))))
  rintro h2 ⟨l, g, rfl⟩
  refine rn_aload_n (np := 20) F dX5_phase_19 rfl rfl <| rn_bipush (np := 22) (v := 9) F dX5_phase_20 rfl rfl <| rn_cV1i (np := 25) F dX5_phase_22 rfl cv_X5_bestBy wM_X5_176 (fs hF rfl rfl) rfl (c_X5_bestBy (n := 9) hF (Nat.le_refl 9)) (Nat.le_of_ble_eq_true rfl) (Nat.le_of_ble_eq_true rfl) <| ?_
  cases hb : bbN (goR h n q tx ty).2.1 (9 + 1) with
  | none =>
    refine rn_topE (v := -1) (congrArg ov hb) ?_
    refine rn_istore_n (np := 26) F dX5_phase_25 rfl hL rfl <| rn_iload_n (np := 27) F dX5_phase_26 rfl rfl <| rn_iconst (np := 28) (v := (-1)) F dX5_phase_27 rfl rfl <| rn_icmp_ne (tg := 40) (np := 31) F dX5_phase_28 rfl rfl (fun q => absurd q ((fun z => z rfl))) (fun _ => rn_aload_n (np := 32) F dX5_phase_31 rfl rfl <| rn_bipush (np := 34) (v := (-3)) F dX5_phase_32 rfl rfl <| rn_cV1i (np := 37) F dX5_phase_34 rfl cv_X5_refuses wM_X5_63 (fs hF rfl rfl) rfl (c_X5_refuses (k := 1) hF rfl (by decide)) (Nat.le_of_ble_eq_true rfl) (Nat.le_of_ble_eq_true rfl) <| rn_goto (np := 51) F dX5_phase_37 rfl <| rn_iret F Rr dX5_phase_51 ?_)
    exact ⟨_, rfl, l, g, Or.inl ⟨hb, rfl, rfl⟩⟩
  | some b =>
    have hb10 := bb_lt hb (by omega)
    refine rn_topE (v := nI b) (congrArg ov hb) ?_
    refine rn_istore_n (np := 26) F dX5_phase_25 rfl hL rfl <| rn_iload_n (np := 27) F dX5_phase_26 rfl rfl <| rn_iconst (np := 28) (v := (-1)) F dX5_phase_27 rfl rfl <| rn_icmp_ne (tg := 40) (np := 31) F dX5_phase_28 rfl rfl (fun _ => rn_aload_n (np := 41) F dX5_phase_40 rfl rfl <| rn_getr (np := 44) F dX5_phase_41 rfl fF_X5_47 (fs hF rfl rfl) rfl <| rn_bipush (np := 46) (v := 9) F dX5_phase_44 rfl rfl <| rn_iload_n (np := 47) F dX5_phase_46 rfl rfl <| rn_imul (np := 48) F dX5_phase_47 rfl <| rn_iload_n (np := 49) F dX5_phase_48 rfl rfl <| rn_iadd (np := 50) F dX5_phase_49 rfl <| rn_ialdN (np := 51) F dX5_phase_50 rfl (fs hF rfl rfl) (ix9r b i) (by omega) <| rn_iret F Rr dX5_phase_51 ?_) (fun q => absurd q ((nI_m1 (by omega))))
    exact ⟨_, rfl, l, g, Or.inr ⟨b, hb, rfl, rfl⟩⟩
set_option maxRecDepth 20000 in
theorem b_X5_by {G : GxT} (hF : Full G) {h : HpT} {u : Int32} (hu : ¬ (0 ≤ u ∧ u ≤ 9)) : mci G yX5_by cX5_by 3 (some .int) 4 [.ref (gad G 23), .int u] h (-2) (hs h 31 0 (h 31 0 + 1)) := by
  refine mc_of (by decide) (Nat.le_of_ble_eq_true rfl) (fun X hG F Rr hL => ?_)
  subst hG
  have F : FxT X cX5_by RX5 4 := F
  show rn X 0 [(0, .ref (gad X.1 23)), (1, .int u)] [] h
  refine rn_iload_n (np := 1) F dX5_by_0 rfl rfl <| rn_iconst (np := 2) (v := 0) F dX5_by_1 rfl rfl <| rn_bipush (np := 4) (v := 9) F dX5_by_2 rfl rfl <| rn_cS3i (np := 7) F dX5_by_4 rfl cs_X5_in wM_X5_59 (c_X5_in) (Nat.le_of_ble_eq_true rfl) (Nat.le_of_ble_eq_true rfl) <| rn_if_ne (tg := 17) (np := 10) F dX5_by_7 rfl rfl (fun c7 => ?_) (fun c7 => rn_aload_n (np := 11) F dX5_by_10 rfl rfl <| rn_bipush (np := 13) (v := (-2)) F dX5_by_11 rfl rfl <| rn_cV1i (np := 16) F dX5_by_13 rfl cv_X5_refuses wM_X5_63 (fs hF rfl rfl) rfl (c_X5_refuses (k := 0) hF rfl (by decide)) (Nat.le_of_ble_eq_true rfl) (Nat.le_of_ble_eq_true rfl) <| rn_iret F Rr dX5_by_16 ?_)
  all_goals first | exact ⟨rfl, rfl⟩ | exact absurd (bI_1 c7) hu
set_option maxRecDepth 20000 in
theorem o_X5_by {G : GxT} (hF : Full G) {h : HpT} {n q : Nat} {tx ty : Nat → Nat} {k : Nat} (hS : RI n h) (hT : TI2 q tx ty h) (hk : k ≤ 9) : mc G yX5_by cX5_by 3 (some .int) 4 [.ref (gad G 23), .int (nI k)] h (fun r h2 => ∃ x, r = some (.int x) ∧ ∃ l g, (bbN (goR h n q tx ty).2.1 (k + 1) = none ∧ x = -3 ∧ h2 = hs (gwh (va_up h 32 (rtR h (n * 6))) l g (goR h n q tx ty)) 31 1 (h 31 1 + 1)) ∨ ∃ b, bbN (goR h n q tx ty).2.1 (k + 1) = some b ∧ x = (goR h n q tx ty).2.1 b ∧ h2 = (gwh (va_up h 32 (rtR h (n * 6))) l g (goR h n q tx ty))) := by
  refine mc_of (by decide) (Nat.le_of_ble_eq_true rfl) (fun X hG F Rr hL => ?_)
  subst hG
  have F : FxT X cX5_by RX5 4 := F
  show rn X 0 [(0, .ref (gad X.1 23)), (1, .int (nI k))] [] h
  have hn := hS.1
  refine rn_iload_n (np := 1) F dX5_by_0 rfl rfl <| rn_iconst (np := 2) (v := 0) F dX5_by_1 rfl rfl <| rn_bipush (np := 4) (v := 9) F dX5_by_2 rfl rfl <| rn_cS3i (np := 7) F dX5_by_4 rfl cs_X5_in wM_X5_59 (c_X5_in) (Nat.le_of_ble_eq_true rfl) (Nat.le_of_ble_eq_true rfl) <| rn_if_ne (tg := 17) (np := 10) F dX5_by_7 rfl rfl (fun _ => rn_aload_n (np := 18) F dX5_by_17 rfl rfl <| rn_cV0p (np := 21) F dX5_by_18 rfl cv_X5_goes wM_X5_173 (fs hF rfl rfl) rfl (c_X5_goes (n := n) (q := q) (tx := tx) (ty := ty) hF hS hT) (Nat.le_of_ble_eq_true rfl) (Nat.le_of_ble_eq_true rfl) ?_) (fun q => absurd q ((fun q => bI_0 q (rgI (m := 9) (by omega) (by decide)))))
  rintro h2 ⟨l, g, rfl⟩
  refine rn_aload_n (np := 22) F dX5_by_21 rfl rfl <| rn_iload_n (np := 23) F dX5_by_22 rfl rfl <| rn_cV1i (np := 26) F dX5_by_23 rfl cv_X5_bestBy wM_X5_176 (fs hF rfl rfl) rfl (c_X5_bestBy (n := k) hF hk) (Nat.le_of_ble_eq_true rfl) (Nat.le_of_ble_eq_true rfl) <| ?_
  cases hb : bbN (goR h n q tx ty).2.1 (k + 1) with
  | none =>
    refine rn_topE (v := -1) (congrArg ov hb) ?_
    refine rn_istore_n (np := 27) F dX5_by_26 rfl hL rfl <| rn_iload_n (np := 28) F dX5_by_27 rfl rfl <| rn_iconst (np := 29) (v := (-1)) F dX5_by_28 rfl rfl <| rn_icmp_ne (tg := 41) (np := 32) F dX5_by_29 rfl rfl (fun q => absurd q ((fun z => z rfl))) (fun _ => rn_aload_n (np := 33) F dX5_by_32 rfl rfl <| rn_bipush (np := 35) (v := (-3)) F dX5_by_33 rfl rfl <| rn_cV1i (np := 38) F dX5_by_35 rfl cv_X5_refuses wM_X5_63 (fs hF rfl rfl) rfl (c_X5_refuses (k := 1) hF rfl (by decide)) (Nat.le_of_ble_eq_true rfl) (Nat.le_of_ble_eq_true rfl) <| rn_goto (np := 47) F dX5_by_38 rfl <| rn_iret F Rr dX5_by_47 ?_)
    exact ⟨_, rfl, l, g, Or.inl ⟨hb, rfl, rfl⟩⟩
  | some b =>
    have hb10 := bb_lt hb (by omega)
    refine rn_topE (v := nI b) (congrArg ov hb) ?_
    refine rn_istore_n (np := 27) F dX5_by_26 rfl hL rfl <| rn_iload_n (np := 28) F dX5_by_27 rfl rfl <| rn_iconst (np := 29) (v := (-1)) F dX5_by_28 rfl rfl <| rn_icmp_ne (tg := 41) (np := 32) F dX5_by_29 rfl rfl (fun _ => rn_aload_n (np := 42) F dX5_by_41 rfl rfl <| rn_getr (np := 45) F dX5_by_42 rfl fF_X5_50 (fs hF rfl rfl) rfl <| rn_iload_n (np := 46) F dX5_by_45 rfl rfl <| rn_ialdN (np := 47) F dX5_by_46 rfl (fs hF rfl rfl) rfl (by omega) <| rn_iret F Rr dX5_by_47 ?_) (fun q => absurd q ((nI_m1 (by omega))))
    exact ⟨_, rfl, l, g, Or.inr ⟨b, hb, rfl, rfl⟩⟩
set_option maxRecDepth 20000 in
theorem b_X5_fewest {G : GxT} (hF : Full G) {h : HpT} {u : Int32} (hu : u < 0) : mci G yX5_fewest cX5_fewest 3 (some .int) 4 [.ref (gad G 23), .int u] h (-2) (hs h 31 0 (h 31 0 + 1)) := by
  refine mc_of (by decide) (Nat.le_of_ble_eq_true rfl) (fun X hG F Rr hL => ?_)
  subst hG
  have F : FxT X cX5_fewest RX5 4 := F
  show rn X 0 [(0, .ref (gad X.1 23)), (1, .int u)] [] h
  refine rn_iload_n (np := 1) F dX5_fewest_0 rfl rfl <| rn_if_ge (tg := 11) (np := 4) F dX5_fewest_1 rfl rfl (fun q => absurd q ((Int32.not_le.mpr hu))) (fun _ => rn_aload_n (np := 5) F dX5_fewest_4 rfl rfl <| rn_bipush (np := 7) (v := (-2)) F dX5_fewest_5 rfl rfl <| rn_cV1i (np := 10) F dX5_fewest_7 rfl cv_X5_refuses wM_X5_63 (fs hF rfl rfl) rfl (c_X5_refuses (k := 0) hF rfl (by decide)) (Nat.le_of_ble_eq_true rfl) (Nat.le_of_ble_eq_true rfl) <| rn_iret F Rr dX5_fewest_10 ?_)
  all_goals exact ⟨rfl, rfl⟩
set_option maxRecDepth 20000 in
theorem l_X5_fewest {X : XxT} {post : Option Value → HpT → Prop} (hF : Full X.1) (F : FxT X cX5_fewest RX5 4) (Rr : RxT X (some .int) post) (hL : X.2.2.2.2.2.2.2.2.2.2.2.2.2.1 = 3) {h : HpT} {g : Int32} (hp : post (some (.int (ov (fwR (h 36) g 10)))) h) : ∀ (k : Nat) (j : Nat), 10 - j < k → j ≤ 10 → fwR (h 36) g j = none → rn X 17 [(0, .ref (gad X.1 23)), (1, .int g), (2, .int (nI j))] [] h := by
  intro k
  induction k with
  | zero => intro j hk; exact absurd hk (Nat.not_lt_zero _)
  | succ k ih =>
    intro j hk hj hf
    refine rn_iload_n (np := 18) F dX5_fewest_17 rfl rfl <| rn_bipush (np := 20) (v := 10) F dX5_fewest_18 rfl rfl <| rn_Nge (tg := 48) (np := 23) (b := 10) F dX5_fewest_20 rfl rfl rfl rfl (by omega) (fun c20 => ?_) (fun c20 => rn_aload_n (np := 24) F dX5_fewest_23 rfl rfl <| rn_getr (np := 27) F dX5_fewest_24 rfl fF_X5_50 (fs hF rfl rfl) rfl <| rn_iload_n (np := 28) F dX5_fewest_27 rfl rfl <| rn_ialdN (np := 29) F dX5_fewest_28 rfl (fs hF rfl rfl) rfl (by omega) <| rn_if_lt (tg := 42) (np := 32) F dX5_fewest_29 rfl rfl (fun c29 => rn_iincN (np := 45) F dX5_fewest_42 rfl rfl hL rfl <| rn_goto (np := 17) F dX5_fewest_45 rfl <| ?_) (fun c29 => rn_aload_n (np := 33) F dX5_fewest_32 rfl rfl <| rn_getr (np := 36) F dX5_fewest_33 rfl fF_X5_50 (fs hF rfl rfl) rfl <| rn_iload_n (np := 37) F dX5_fewest_36 rfl rfl <| rn_ialdN (np := 38) F dX5_fewest_37 rfl (fs hF rfl rfl) rfl (by omega) <| rn_iload_n (np := 39) F dX5_fewest_38 rfl rfl <| rn_icmp_le (tg := 48) (np := 42) F dX5_fewest_39 rfl rfl (fun c39 => ?_) (fun c39 => rn_iincN (np := 45) F dX5_fewest_42 rfl rfl hL rfl <| rn_goto (np := 17) F dX5_fewest_45 rfl <| ?_)))
    · have e : fwR (h 36) g 10 = none := by rw [show 10 = j by omega]; exact hf
      rw [e] at hp
      refine rn_iload_n (np := 49) F dX5_fewest_48 rfl rfl <| rn_bipush (np := 51) (v := 10) F dX5_fewest_49 rfl rfl <| rn_Nge (tg := 58) (np := 54) (b := 10) F dX5_fewest_51 rfl rfl rfl rfl (by omega) (fun c51 => rn_iconst (np := 59) (v := (-1)) F dX5_fewest_58 rfl rfl <| rn_iret F Rr dX5_fewest_59 ?_) (fun c51 => rn_iload_n (np := 55) F dX5_fewest_54 rfl rfl <| rn_goto (np := 59) F dX5_fewest_55 rfl <| rn_iret F Rr dX5_fewest_59 ?_)
      · exact hp
      · exact absurd c51 (by omega)
    · exact ih (j + 1) (by omega) (by omega) (by rw [fwR, hf]; exact if_pos (Or.inl c29))
    · have e : fwR (h 36) g (j + 1) = some j := by rw [fwR, hf]; exact if_neg (fun z => z.elim c29 (fun z => Int32.not_lt.mpr c39 z))
      have e2 := fwR_up _ _ e (9 - j)
      rw [show j + 1 + (9 - j) = 10 by omega] at e2
      rw [e2] at hp
      refine rn_iload_n (np := 49) F dX5_fewest_48 rfl rfl <| rn_bipush (np := 51) (v := 10) F dX5_fewest_49 rfl rfl <| rn_Nge (tg := 58) (np := 54) (b := 10) F dX5_fewest_51 rfl rfl rfl rfl (by omega) (fun c51 => rn_iconst (np := 59) (v := (-1)) F dX5_fewest_58 rfl rfl <| rn_iret F Rr dX5_fewest_59 ?_) (fun c51 => rn_iload_n (np := 55) F dX5_fewest_54 rfl rfl <| rn_goto (np := 59) F dX5_fewest_55 rfl <| rn_iret F Rr dX5_fewest_59 ?_)
      · exact absurd c51 (by omega)
      · exact hp
    · exact ih (j + 1) (by omega) (by omega) (by rw [fwR, hf]; exact if_pos (Or.inr (Int32.not_le.mp c39)))
set_option maxRecDepth 20000 in
theorem c_X5_fewest {G : GxT} (hF : Full G) {h : HpT} {n q : Nat} {tx ty : Nat → Nat} {u : Int32} (hS : RI n h) (hT : TI2 q tx ty h) (hu : ¬ u < 0) : mc G yX5_fewest cX5_fewest 3 (some .int) 4 [.ref (gad G 23), .int u] h (fun r h2 => ∃ x, r = some (.int x) ∧ x = ov (fwR (goR h n q tx ty).2.1 u 10) ∧ ∃ l g, h2 = (gwh (va_up h 32 (rtR h (n * 6))) l g (goR h n q tx ty))) := by
  refine mc_of (by decide) (Nat.le_of_ble_eq_true rfl) (fun X hG F Rr hL => ?_)
  subst hG
  have F : FxT X cX5_fewest RX5 4 := F
  show rn X 0 [(0, .ref (gad X.1 23)), (1, .int u)] [] h
  refine rn_iload_n (np := 1) F dX5_fewest_0 rfl rfl <| rn_if_ge (tg := 11) (np := 4) F dX5_fewest_1 rfl rfl (fun _ => rn_aload_n (np := 12) F dX5_fewest_11 rfl rfl <| rn_cV0p (np := 15) F dX5_fewest_12 rfl cv_X5_goes wM_X5_173 (fs hF rfl rfl) rfl (c_X5_goes (n := n) (q := q) (tx := tx) (ty := ty) hF hS hT) (Nat.le_of_ble_eq_true rfl) (Nat.le_of_ble_eq_true rfl) ?_) (fun q => absurd q ((fun z => hu (Int32.not_le.mp z))))
  rintro h2 ⟨l, g, rfl⟩
  refine rn_iconst (np := 16) (v := nI 0) F dX5_fewest_15 rfl rfl <| rn_istore_n (np := 17) F dX5_fewest_16 rfl hL rfl <| ?_
  exact l_X5_fewest (h := (gwh (va_up h 32 (rtR h (n * 6))) l g (goR h n q tx ty))) hF F Rr hL ⟨_, rfl, rfl, l, g, rfl⟩ 11 0 (by omega) (by omega) rfl
set_option maxRecDepth 20000 in
theorem c_X5_many {G : GxT} (hF : Full G) {h : HpT} {n q : Nat} {tx ty : Nat → Nat} (hS : RI n h) (hT : TI2 q tx ty h) : mc G yX5_many cX5_many 1 (some .int) 4 [.ref (gad G 23)] h (fun r h2 => ∃ x, r = some (.int x) ∧ x = (goR h n q tx ty).1 17 ∧ ∃ l g, h2 = (gwh (va_up h 32 (rtR h (n * 6))) l g (goR h n q tx ty))) := by
  refine mc_of (by decide) (Nat.le_of_ble_eq_true rfl) (fun X hG F Rr hL => ?_)
  subst hG
  have F : FxT X cX5_many RX5 4 := F
  show rn X 0 [(0, .ref (gad X.1 23))] [] h
  refine rn_aload_n (np := 1) F dX5_many_0 rfl rfl <| rn_cV0p (np := 4) F dX5_many_1 rfl cv_X5_goes wM_X5_173 (fs hF rfl rfl) rfl (c_X5_goes (n := n) (q := q) (tx := tx) (ty := ty) hF hS hT) (Nat.le_of_ble_eq_true rfl) (Nat.le_of_ble_eq_true rfl) ?_
  rintro h2 ⟨l, g, rfl⟩
  refine rn_aload_n (np := 5) F dX5_many_4 rfl rfl <| rn_getf (np := 8) F dX5_many_5 rfl fF_X5_161 (fs hF rfl rfl) rfl <| rn_iret F Rr dX5_many_8 ?_
  exact ⟨_, rfl, rfl, l, g, rfl⟩
set_option maxRecDepth 20000 in
theorem l_X5_lay {X : XxT} {post : Option Value → HpT → Prop} (hF : Full X.1) (F : FxT X cX5_lay RX5 4) (Rr : RxT X (some .int) post) (hL : X.2.2.2.2.2.2.2.2.2.2.2.2.2.1 = 3) {h : HpT} {n b : Nat} (hn : n ≤ 9) (hb : b < 10) (eh : h 23 4 = nI n) (hp : post (some (.int (nI b))) (va_up h 26 (cpF (h 26) (fun i => h 35 (9 * b + i)) n))) : ∀ (k : Nat) (i : Nat), n - i < k → i ≤ n → rn X 29 [(0, .ref (gad X.1 23)), (1, .int (nI b)), (2, .int (nI i))] [] (va_up h 26 (cpF (h 26) (fun i => h 35 (9 * b + i)) i)) := by
  intro k
  induction k with
  | zero => intro i hk; exact absurd hk (Nat.not_lt_zero _)
  | succ k ih =>
    intro i hk hi
    refine rn_iload_n (np := 30) F dX5_lay_29 rfl rfl <| rn_aload_n (np := 31) F dX5_lay_30 rfl rfl <| rn_getfE (np := 34) F dX5_lay_31 rfl fF_X5_56 (fs hF rfl rfl) rfl eh <| rn_Nge (tg := 60) (np := 37) F dX5_lay_34 rfl rfl rfl rfl (by omega) (fun c34 => rn_iload_n (np := 61) F dX5_lay_60 rfl rfl <| rn_iret F Rr dX5_lay_61 ?_) (fun c34 => rn_aload_n (np := 38) F dX5_lay_37 rfl rfl <| rn_getr (np := 41) F dX5_lay_38 rfl fF_X5_16 (fs hF rfl rfl) rfl <| rn_iload_n (np := 42) F dX5_lay_41 rfl rfl <| rn_aload_n (np := 43) F dX5_lay_42 rfl rfl <| rn_getr (np := 46) F dX5_lay_43 rfl fF_X5_47 (fs hF rfl rfl) rfl <| rn_bipush (np := 48) (v := 9) F dX5_lay_46 rfl rfl <| rn_iload_n (np := 49) F dX5_lay_48 rfl rfl <| rn_imul (np := 50) F dX5_lay_49 rfl <| rn_iload_n (np := 51) F dX5_lay_50 rfl rfl <| rn_iadd (np := 52) F dX5_lay_51 rfl <| rn_ialdN (np := 53) F dX5_lay_52 rfl (fs hF rfl rfl) (ix9r b i) (by omega) <| rn_iastN (np := 54) F dX5_lay_53 rfl (fs hF rfl rfl) rfl (by omega) <| rn_iincN (np := 57) F dX5_lay_54 rfl rfl hL rfl <| rn_goto (np := 29) F dX5_lay_57 rfl <| ?_)
    · rw [show i = n by omega]; exact hp
    · exact (cp_step h 26 (h 26) (fun i => h 35 (9 * b + i)) i) ▸ ih (i + 1) (by omega) (by omega)
set_option maxRecDepth 20000 in
theorem c_X5_lay {G : GxT} (hF : Full G) {h : HpT} {n q u : Nat} {tx ty : Nat → Nat} (hS : RI n h) (hT : TI2 q tx ty h) (hu : u ≤ 8) (eu : h 23 10 = nI u) : mc G yX5_lay cX5_lay 3 (some .int) 4 [.ref (gad G 23)] h (fun r h2 => ∃ x, r = some (.int x) ∧ ∃ l g, (bbN (goR h n q tx ty).2.1 (9 + 1) = none ∧ x = -3 ∧ h2 = hs (gwh (va_up h 32 (rtR h (n * 6))) l g (goR h n q tx ty)) 31 1 (h 31 1 + 1)) ∨ ∃ b, bbN (goR h n q tx ty).2.1 (9 + 1) = some b ∧ x = nI b ∧ h2 = va_up (keepR (gwh (va_up h 32 (rtR h (n * 6))) l g (goR h n q tx ty)) u) 26 (cpF (h 26) (fun i => (goR h n q tx ty).2.2 (9 * b + i)) n)) := by
  refine mc_of (by decide) (Nat.le_of_ble_eq_true rfl) (fun X hG F Rr hL => ?_)
  subst hG
  have F : FxT X cX5_lay RX5 4 := F
  show rn X 0 [(0, .ref (gad X.1 23))] [] h
  have hn := hS.1
  refine rn_aload_n (np := 1) F dX5_lay_0 rfl rfl <| rn_cV0p (np := 4) F dX5_lay_1 rfl cv_X5_goes wM_X5_173 (fs hF rfl rfl) rfl (c_X5_goes (n := n) (q := q) (tx := tx) (ty := ty) hF hS hT) (Nat.le_of_ble_eq_true rfl) (Nat.le_of_ble_eq_true rfl) ?_
  rintro h2 ⟨l, g, rfl⟩
  refine rn_aload_n (np := 5) F dX5_lay_4 rfl rfl <| rn_bipush (np := 7) (v := 9) F dX5_lay_5 rfl rfl <| rn_cV1i (np := 10) F dX5_lay_7 rfl cv_X5_bestBy wM_X5_176 (fs hF rfl rfl) rfl (c_X5_bestBy (n := 9) hF (Nat.le_refl 9)) (Nat.le_of_ble_eq_true rfl) (Nat.le_of_ble_eq_true rfl) <| ?_
  cases hb : bbN (goR h n q tx ty).2.1 (9 + 1) with
  | none =>
    refine rn_topE (v := -1) (congrArg ov hb) ?_
    refine rn_istore_n (np := 11) F dX5_lay_10 rfl hL rfl <| rn_iload_n (np := 12) F dX5_lay_11 rfl rfl <| rn_iconst (np := 13) (v := (-1)) F dX5_lay_12 rfl rfl <| rn_icmp_ne (tg := 23) (np := 16) F dX5_lay_13 rfl rfl (fun q => absurd q ((fun z => z rfl))) (fun _ => rn_aload_n (np := 17) F dX5_lay_16 rfl rfl <| rn_bipush (np := 19) (v := (-3)) F dX5_lay_17 rfl rfl <| rn_cV1i (np := 22) F dX5_lay_19 rfl cv_X5_refuses wM_X5_63 (fs hF rfl rfl) rfl (c_X5_refuses (k := 1) hF rfl (by decide)) (Nat.le_of_ble_eq_true rfl) (Nat.le_of_ble_eq_true rfl) <| rn_iret F Rr dX5_lay_22 ?_)
    exact ⟨_, rfl, l, g, Or.inl ⟨hb, rfl, rfl⟩⟩
  | some b =>
    have hb10 := bb_lt hb (by omega)
    refine rn_topE (v := nI b) (congrArg ov hb) ?_
    have e26 : (keepR (gwh (va_up h 32 (rtR h (n * 6))) l g (goR h n q tx ty)) u) 26 = h 26 := keepR_cell (by decide) (by decide)
    have e35 : (keepR (gwh (va_up h 32 (rtR h (n * 6))) l g (goR h n q tx ty)) u) 35 = (goR h n q tx ty).2.2 := keepR_cell (by decide) (by decide)
    have e4 : (keepR (gwh (va_up h 32 (rtR h (n * 6))) l g (goR h n q tx ty)) u) 23 4 = nI n := by
      rw [keepR_23 (by decide)]
      exact (goR_o (by decide) (by decide) (by decide)).trans hS.2.1
    refine rn_istore_n (np := 11) F dX5_lay_10 rfl hL rfl <| rn_iload_n (np := 12) F dX5_lay_11 rfl rfl <| rn_iconst (np := 13) (v := (-1)) F dX5_lay_12 rfl rfl <| rn_icmp_ne (tg := 23) (np := 16) F dX5_lay_13 rfl rfl (fun _ => rn_aload_n (np := 24) F dX5_lay_23 rfl rfl <| rn_cV0v (np := 27) F dX5_lay_24 rfl cv_X5_keeps wM_X5_135 (fs hF rfl rfl) rfl (c_X5_keeps (u := u) hF hu ((goR_o (by decide) (by decide) (by decide)).trans eu)) (Nat.le_of_ble_eq_true rfl) (Nat.le_of_ble_eq_true rfl) <| rn_iconst (np := 28) (v := nI 0) F dX5_lay_27 rfl rfl <| rn_istore_n (np := 29) F dX5_lay_28 rfl hL rfl <| ?_) (fun q => absurd q ((nI_m1 (by omega))))
    have z := l_X5_lay (h := (keepR (gwh (va_up h 32 (rtR h (n * 6))) l g (goR h n q tx ty)) u)) (n := n) (b := b) hF F Rr hL hn hb10 e4 ⟨_, rfl, l, g, Or.inr ⟨b, hb, rfl, by rw [e26, e35]⟩⟩ (n + 1) 0 (by omega) (by omega)
    rw [cp_0, up_id] at z
    exact z
