def PB (h : HpT) (n : Nat) (b : Nat → Bool) (lt : Nat → Nat) : Prop := n ≤ 9 ∧ h 1 9 = nI n ∧ (∀ i, i < n → lt i ≤ i ∧ h 6 i = nI (lt i)) ∧ (∃ f, h 19 = thF b f 6) ∧ (∀ i, i < 9 → ∃ p, p < 3 ∧ h 4 i = nI p)
def PQ (h : HpT) (r : RsT) (a m l : Nat → Int32) (i : Nat) (h' : HpT) : Prop := ∃ a' m', h' = lyh h r a' m' l ∧ (∀ o, o < i → a' o = a o) ∧ (∀ x, x < i * 3 → m' x = m x)
def PM (G : GxT) (h : HpT) (n : Nat) (b : Nat → Bool) (lt : Nat → Nat) (d i : Nat) : Prop := ∀ (a a0 m l : Nat → Int32) (r : RsT) (g : Int32) (c : Nat), (∀ o, o < i → a0 o = a o) → (∀ o, o < i → ∃ p, p < 3 ∧ a o = nI p) → r.1 10 = nI (tcN b 6) → c ≤ i → mc G yX0_place cX0_place 5 none (3 + d) [.ref (gad G 11), .int (nI i), .int g, .int (nI c)] (lyh h r a0 m l) (fun rr h' => rr = none ∧ PQ h (plF b (h 4) (h 5) (h 15) (h 16) lt (h 1 11) n d i a l g c r) a m l i h')
theorem updag {a a1 : Nat → Int32} {i : Nat} {x : Int32} (hag : ∀ o, o < i → a1 o = a o) : ∀ o, o < i + 1 → upd a1 i x o = upd a i x o := by
  intro o ho
  by_cases e : o = i
  · subst e; rw [pk_us, pk_us]
  · rw [pk_un e, pk_un e]; exact hag o (by omega)
theorem upd_rgi {a : Nat → Int32} {i p : Nat} (hp : p < 3) (hr : ∀ o, o < i → ∃ p, p < 3 ∧ a o = nI p) : ∀ o, o < i + 1 → ∃ q, q < 3 ∧ upd a i (nI p) o = nI q := by
  intro o ho
  by_cases e : o = i
  · subst e; exact ⟨p, hp, pk_us⟩
  · rw [pk_un e]; exact hr o (by omega)
theorem foP_10 (b : Nat → Bool) (ph fx tk pr : Nat → Int32) (lt : Nat → Nat) (fu : Int32) (n d i : Nat) (a l : Nat → Int32) (g : Int32) (c : Nat) (r : RsT) : ∀ p, (foP (fun p r => if okC ph fx lt a i p = 0 then r else plF b ph fx tk pr lt fu n d (i + 1) (upd a i (nI p)) (alT b l p (fun t => 1 * tk (i * 6 + t)) (tcN b 6)) (g + 3 * mtF a pr i p i) (c + (if nI p = ph i then 0 else 1)) r) p r).1 10 = r.1 10
  | 0 => rfl
  | p + 1 => by
    rw [foP]
    split
    · exact foP_10 b ph fx tk pr lt fu n d i a l g c r p
    · rw [plF_10]; exact foP_10 b ph fx tk pr lt fu n d i a l g c r p
set_option maxRecDepth 20000 in
theorem l_X0_place {X : XxT} {post : Option Value → HpT → Prop} (hF : Full X.1) {d : Nat} (F : FxT X cX0_place RX0 (3 + (d + 1))) (Rr : RxT X none post) (hL : X.2.2.2.2.2.2.2.2.2.2.2.2.2.1 = 5) {h : HpT} {n i c : Nat} {b : Nat → Bool} {lt : Nat → Nat} {a l m0 : Nat → Int32} {g : Int32} {r0 : RsT} (hB : PB h n b lt) (hi : i < n) (hr : ∀ o, o < i → ∃ p, p < 3 ∧ a o = nI p) (hr10 : r0.1 10 = nI (tcN b 6)) (hc : c ≤ i) (IH : PM X.1 h n b lt d (i + 1)) (hp : ∀ a' m', (∀ o, o < i → a' o = a o) → (∀ x, x < i * 3 → m' x = m0 x) → post none (lyh h (plF b (h 4) (h 5) (h 15) (h 16) lt (h 1 11) n (d + 1) i a l g c r0) a' m' l)) :
    ∀ (k p : Nat) (a1 m1 : Nat → Int32), 3 - p < k → p ≤ 3 → (∀ o, o < i → a1 o = a o) → (∀ x, x < i * 3 → m1 x = m0 x) → (∀ q, q < 3 → m1 (i * 3 + q) = mtF a (h 16) i q i) → rn X 26 [(0, .ref (gad X.1 11)), (1, .int (nI i)), (2, .int g), (3, .int (nI c)), (4, .int (nI p))] [] (lyh h (foP (fun p r => if okC (h 4) (h 5) lt a i p = 0 then r else plF b (h 4) (h 5) (h 15) (h 16) lt (h 1 11) n d (i + 1) (upd a i (nI p)) (alT b l p (fun t => 1 * h 15 (i * 6 + t)) (tcN b 6)) (g + 3 * mtF a (h 16) i p i) (c + (if nI p = h 4 i then 0 else 1)) r) p r0) a1 m1 l) := by
  have hn := hB.1
  obtain ⟨p4, hp4, e4⟩ := hB.2.2.2.2 i (by omega)
  intro k
  induction k with
  | zero => intro p a1 m1 hk; exact absurd hk (Nat.not_lt_zero _)
  | succ k ih =>
    intro p a1 m1 hk hpp hag hmg hm
    have h10 : (foP (fun p r => if okC (h 4) (h 5) lt a i p = 0 then r else plF b (h 4) (h 5) (h 15) (h 16) lt (h 1 11) n d (i + 1) (upd a i (nI p)) (alT b l p (fun t => 1 * h 15 (i * 6 + t)) (tcN b 6)) (g + 3 * mtF a (h 16) i p i) (c + (if nI p = h 4 i then 0 else 1)) r) p r0).1 10 = nI (tcN b 6) := by rw [foP_10]; exact hr10
    have hla : lt i = i ∨ a1 (lt i) = a (lt i) := by
      have := (hB.2.2.1 i hi).1
      by_cases e : lt i = i
      · exact Or.inl e
      · exact Or.inr (hag _ (by omega))
    have hok : bP ((h 5 i = 1 → nI p = h 4 i) ∧ (lt i = i ∨ nI p = a1 (lt i))) = okC (h 4) (h 5) lt a i p := by
      unfold okC
      congr 1
      rcases hla with e | e
      · simp [e]
      · rw [e]
    refine rn_iload (np := 28) F dX0_place_26 rfl rfl <| rn_iconst (np := 29) (v := 3) F dX0_place_28 rfl rfl <| rn_Nge (tg := 115) (np := 32) (b := 3) F dX0_place_29 rfl rfl rfl rfl (by omega) (fun c29 => rn_vret F Rr dX0_place_115 ?_) (fun c29 => rn_aload_n (np := 33) F dX0_place_32 rfl rfl <| rn_iload_n (np := 34) F dX0_place_33 rfl rfl <| rn_iload (np := 36) F dX0_place_34 rfl rfl <| rn_cV2i (np := 39) F dX0_place_36 rfl cv_X0_mayLie wM_X0_114 (fs hF rfl rfl) rfl (c_X0_mayLie hF (by omega) (by omega) (hB.2.2.1 i hi).1 (hB.2.2.1 i hi).2) (by omega) (Nat.le_of_ble_eq_true rfl) <| rn_if_eq (tg := 109) (np := 42) F dX0_place_39 rfl rfl (fun c39 => rn_iincN (np := 112) F dX0_place_109 rfl rfl hL rfl <| rn_goto (np := 26) F dX0_place_112 rfl <| ?_) (fun c39 => rn_aload_n (np := 43) F dX0_place_42 rfl rfl <| rn_getr (np := 46) F dX0_place_43 rfl fF_X0_18 (fs hF rfl rfl) rfl <| rn_iload_n (np := 47) F dX0_place_46 rfl rfl <| rn_iload (np := 49) F dX0_place_47 rfl rfl <| rn_iastN (np := 50) F dX0_place_49 rfl (fs hF rfl rfl) rfl (by omega) <| rn_hpE ly_14 <| rn_aload_n (np := 51) F dX0_place_50 rfl rfl <| rn_iload_n (np := 52) F dX0_place_51 rfl rfl <| rn_iload (np := 54) F dX0_place_52 rfl rfl <| rn_iconst (np := 55) (v := 1) F dX0_place_54 rfl rfl <| rn_cV3v (np := 58) F dX0_place_55 rfl cv_X0_addLoads wM_X0_118 (fs hF rfl rfl) rfl (c_X0_addLoads (b := b) hF (by omega) (by omega) ⟨h10, hB.2.2.2.1⟩) (by omega) (Nat.le_of_ble_eq_true rfl) <| rn_hpE ly_18 <| rn_aload_n (np := 59) F dX0_place_58 rfl rfl <| rn_iload_n (np := 60) F dX0_place_59 rfl rfl <| rn_iconst (np := 61) (v := 1) F dX0_place_60 rfl rfl <| rn_iadd (np := 62) F dX0_place_61 rfl <| rn_topE (nI_1 i) <| rn_iload_n (np := 63) F dX0_place_62 rfl rfl <| rn_iconst (np := 64) (v := 3) F dX0_place_63 rfl rfl <| rn_aload_n (np := 65) F dX0_place_64 rfl rfl <| rn_getr (np := 68) F dX0_place_65 rfl fF_X0_27 (fs hF rfl rfl) rfl <| rn_iload_n (np := 69) F dX0_place_68 rfl rfl <| rn_iconst (np := 70) (v := 3) F dX0_place_69 rfl rfl <| rn_imul (np := 71) F dX0_place_70 rfl <| rn_iload (np := 73) F dX0_place_71 rfl rfl <| rn_iadd (np := 74) F dX0_place_73 rfl <| rn_ialdE (np := 75) F dX0_place_74 rfl (fs hF rfl rfl) (ix3 i p) (by omega) (hm p (by omega)) <| rn_imul (np := 76) F dX0_place_75 rfl <| rn_iadd (np := 77) F dX0_place_76 rfl <| rn_iload_n (np := 78) F dX0_place_77 rfl rfl <| rn_iload (np := 80) F dX0_place_78 rfl rfl <| rn_aload_n (np := 81) F dX0_place_80 rfl rfl <| rn_getr (np := 84) F dX0_place_81 rfl fF_X0_36 (fs hF rfl rfl) rfl <| rn_getr (np := 87) F dX0_place_84 rfl fF_X0_121 (fs hF rfl rfl) rfl <| rn_iload_n (np := 88) F dX0_place_87 rfl rfl <| rn_ialdE (np := 89) F dX0_place_88 rfl (fs hF rfl rfl) rfl (by omega) e4 <| rn_Nne (tg := 96) (np := 92) F dX0_place_89 rfl rfl rfl rfl (by omega) (fun c89 => rn_iconst (np := 97) (v := nI 1) F dX0_place_96 rfl rfl <| rn_iadd (np := 98) F dX0_place_97 rfl <| rn_topE (nI_add _ _) <| rn_cV3p (np := 101) F dX0_place_98 rfl cv_X0_place wM_X0_76 (fs hF rfl rfl) rfl (IH (upd a i (nI p)) _ _ _ _ _ _ (updag hag) (upd_rgi (by omega) hr) h10 (by omega)) (by omega) (Nat.le_of_ble_eq_true rfl) ?_) (fun c89 => rn_iconst (np := 93) (v := nI 0) F dX0_place_92 rfl rfl <| rn_goto (np := 97) F dX0_place_93 rfl <| rn_iadd (np := 98) F dX0_place_97 rfl <| rn_topE (nI_add _ _) <| rn_cV3p (np := 101) F dX0_place_98 rfl cv_X0_place wM_X0_76 (fs hF rfl rfl) rfl (IH (upd a i (nI p)) _ _ _ _ _ _ (updag hag) (upd_rgi (by omega) hr) h10 (by omega)) (by omega) (Nat.le_of_ble_eq_true rfl) ?_)))
    · rw [show p = 3 by omega]
      exact hp a1 m1 hag hmg
    · have e : foP (fun p r => if okC (h 4) (h 5) lt a i p = 0 then r else plF b (h 4) (h 5) (h 15) (h 16) lt (h 1 11) n d (i + 1) (upd a i (nI p)) (alT b l p (fun t => 1 * h 15 (i * 6 + t)) (tcN b 6)) (g + 3 * mtF a (h 16) i p i) (c + (if nI p = h 4 i then 0 else 1)) r) (p + 1) r0 = foP (fun p r => if okC (h 4) (h 5) lt a i p = 0 then r else plF b (h 4) (h 5) (h 15) (h 16) lt (h 1 11) n d (i + 1) (upd a i (nI p)) (alT b l p (fun t => 1 * h 15 (i * 6 + t)) (tcN b 6)) (g + 3 * mtF a (h 16) i p i) (c + (if nI p = h 4 i then 0 else 1)) r) p r0 := by rw [foP]; exact if_pos (hok ▸ c39)
      exact e ▸ ih (p + 1) a1 m1 (by omega) (by omega) hag hmg hm
    · rintro h2 ⟨a', m', rfl, hag2, hmg2⟩
      have h10b : (plF b (h 4) (h 5) (h 15) (h 16) lt (h 1 11) n d (i + 1) (upd a i (nI p)) (alT b l p (fun t => 1 * h 15 (i * 6 + t)) (tcN b 6)) (g + 3 * mtF a (h 16) i p i) (c + 1) (foP (fun p r => if okC (h 4) (h 5) lt a i p = 0 then r else plF b (h 4) (h 5) (h 15) (h 16) lt (h 1 11) n d (i + 1) (upd a i (nI p)) (alT b l p (fun t => 1 * h 15 (i * 6 + t)) (tcN b 6)) (g + 3 * mtF a (h 16) i p i) (c + (if nI p = h 4 i then 0 else 1)) r) p r0)).1 10 = nI (tcN b 6) := by rw [plF_10]; exact h10
      refine rn_aload_n (np := 102) F dX0_place_101 rfl rfl <| rn_iload_n (np := 103) F dX0_place_102 rfl rfl <| rn_iload (np := 105) F dX0_place_103 rfl rfl <| rn_iconst (np := 106) (v := (-1)) F dX0_place_105 rfl rfl <| rn_cV3v (np := 109) F dX0_place_106 rfl cv_X0_addLoads wM_X0_118 (fs hF rfl rfl) rfl (c_X0_addLoads (b := b) hF (by omega) (by omega) ⟨h10b, hB.2.2.2.1⟩) (by omega) (Nat.le_of_ble_eq_true rfl) <| rn_hpE ly_18 <| rn_iincN (np := 112) F dX0_place_109 rfl rfl hL rfl <| rn_goto (np := 26) F dX0_place_112 rfl <| ?_
      have e : foP (fun p r => if okC (h 4) (h 5) lt a i p = 0 then r else plF b (h 4) (h 5) (h 15) (h 16) lt (h 1 11) n d (i + 1) (upd a i (nI p)) (alT b l p (fun t => 1 * h 15 (i * 6 + t)) (tcN b 6)) (g + 3 * mtF a (h 16) i p i) (c + (if nI p = h 4 i then 0 else 1)) r) (p + 1) r0 = plF b (h 4) (h 5) (h 15) (h 16) lt (h 1 11) n d (i + 1) (upd a i (nI p)) (alT b l p (fun t => 1 * h 15 (i * 6 + t)) (tcN b 6)) (g + 3 * mtF a (h 16) i p i) (c + 1) (foP (fun p r => if okC (h 4) (h 5) lt a i p = 0 then r else plF b (h 4) (h 5) (h 15) (h 16) lt (h 1 11) n d (i + 1) (upd a i (nI p)) (alT b l p (fun t => 1 * h 15 (i * 6 + t)) (tcN b 6)) (g + 3 * mtF a (h 16) i p i) (c + (if nI p = h 4 i then 0 else 1)) r) p r0) := by
        rw [foP, if_neg (fun q => c39 (hok ▸ q)), if_neg (fun q => c89 (by rw [e4] at q; exact (nI_eqs (by omega) (by omega)).mp q))]
      have z := ih (p + 1) a' m' (by omega) (by omega) (fun o ho => by rw [hag2 o (by omega), pk_un (by omega)]) (fun x hx => by rw [hmg2 x (by omega)]; exact hmg x hx) (fun q hq => by rw [hmg2 _ (by omega)]; exact hm q hq)
      rw [e] at z
      show rn X 26 _ [] (lyh h _ a' m' (alT b (alT b l p (fun t => 1 * h 15 (i * 6 + t)) (tcN b 6)) p (fun t => -1 * h 15 (i * 6 + t)) (tcN b 6)))
      rw [alT_undo b l p (fun t => h 15 (i * 6 + t)) (tcN b 6)]
      exact z
    · rintro h2 ⟨a', m', rfl, hag2, hmg2⟩
      have h10b : (plF b (h 4) (h 5) (h 15) (h 16) lt (h 1 11) n d (i + 1) (upd a i (nI p)) (alT b l p (fun t => 1 * h 15 (i * 6 + t)) (tcN b 6)) (g + 3 * mtF a (h 16) i p i) (c + 0) (foP (fun p r => if okC (h 4) (h 5) lt a i p = 0 then r else plF b (h 4) (h 5) (h 15) (h 16) lt (h 1 11) n d (i + 1) (upd a i (nI p)) (alT b l p (fun t => 1 * h 15 (i * 6 + t)) (tcN b 6)) (g + 3 * mtF a (h 16) i p i) (c + (if nI p = h 4 i then 0 else 1)) r) p r0)).1 10 = nI (tcN b 6) := by rw [plF_10]; exact h10
      refine rn_aload_n (np := 102) F dX0_place_101 rfl rfl <| rn_iload_n (np := 103) F dX0_place_102 rfl rfl <| rn_iload (np := 105) F dX0_place_103 rfl rfl <| rn_iconst (np := 106) (v := (-1)) F dX0_place_105 rfl rfl <| rn_cV3v (np := 109) F dX0_place_106 rfl cv_X0_addLoads wM_X0_118 (fs hF rfl rfl) rfl (c_X0_addLoads (b := b) hF (by omega) (by omega) ⟨h10b, hB.2.2.2.1⟩) (by omega) (Nat.le_of_ble_eq_true rfl) <| rn_hpE ly_18 <| rn_iincN (np := 112) F dX0_place_109 rfl rfl hL rfl <| rn_goto (np := 26) F dX0_place_112 rfl <| ?_
      have e : foP (fun p r => if okC (h 4) (h 5) lt a i p = 0 then r else plF b (h 4) (h 5) (h 15) (h 16) lt (h 1 11) n d (i + 1) (upd a i (nI p)) (alT b l p (fun t => 1 * h 15 (i * 6 + t)) (tcN b 6)) (g + 3 * mtF a (h 16) i p i) (c + (if nI p = h 4 i then 0 else 1)) r) (p + 1) r0 = plF b (h 4) (h 5) (h 15) (h 16) lt (h 1 11) n d (i + 1) (upd a i (nI p)) (alT b l p (fun t => 1 * h 15 (i * 6 + t)) (tcN b 6)) (g + 3 * mtF a (h 16) i p i) (c + 0) (foP (fun p r => if okC (h 4) (h 5) lt a i p = 0 then r else plF b (h 4) (h 5) (h 15) (h 16) lt (h 1 11) n d (i + 1) (upd a i (nI p)) (alT b l p (fun t => 1 * h 15 (i * 6 + t)) (tcN b 6)) (g + 3 * mtF a (h 16) i p i) (c + (if nI p = h 4 i then 0 else 1)) r) p r0) := by
        rw [foP, if_neg (fun q => c39 (hok ▸ q)), if_pos (by rw [e4, c89])]
      have z := ih (p + 1) a' m' (by omega) (by omega) (fun o ho => by rw [hag2 o (by omega), pk_un (by omega)]) (fun x hx => by rw [hmg2 x (by omega)]; exact hmg x hx) (fun q hq => by rw [hmg2 _ (by omega)]; exact hm q hq)
      rw [e] at z
      show rn X 26 _ [] (lyh h _ a' m' (alT b (alT b l p (fun t => 1 * h 15 (i * 6 + t)) (tcN b 6)) p (fun t => -1 * h 15 (i * 6 + t)) (tcN b 6)))
      rw [alT_undo b l p (fun t => h 15 (i * 6 + t)) (tcN b 6)]
      exact z
set_option maxRecDepth 20000 in
/-- place: what lies below a beginning is counted -/
theorem c_X0_place {G : GxT} (hF : Full G) {h : HpT} {n : Nat} {b : Nat → Bool} {lt : Nat → Nat} (hB : PB h n b lt) : ∀ (d i : Nat), i + d = n → PM G h n b lt d i := by
  have hn := hB.1
  intro d
  induction d with
  | zero =>
    intro i hid a a0 m l r g c hag hr h10 hc
    refine mc_of (by decide) (Nat.le_of_ble_eq_true rfl) (fun X hG F Rr hL => ?_)
    subst hG
    have F : FxT X cX0_place RX0 3 := F
    show rn X 0 [(0, .ref (gad X.1 11)), (1, .int (nI i)), (2, .int g), (3, .int (nI c))] [] (lyh h r a0 m l)
    refine rn_iload_n (np := 1) F dX0_place_0 rfl rfl <| rn_aload_n (np := 2) F dX0_place_1 rfl rfl <| rn_getr (np := 5) F dX0_place_2 rfl fF_X0_36 (fs hF rfl rfl) rfl <| rn_getfE (np := 8) F dX0_place_5 rfl fF_X0_80 (fs hF rfl rfl) rfl hB.2.1 <| rn_Nlt (tg := 18) (np := 11) F dX0_place_8 rfl rfl rfl rfl (by omega) (fun c8 => rn_aload_n (np := 19) F dX0_place_18 rfl rfl <| rn_iload_n (np := 20) F dX0_place_19 rfl rfl <| rn_cV1v (np := 23) F dX0_place_20 rfl cv_X0_meetEarlier wM_X0_110 (fs hF rfl rfl) rfl (c_X0_meetEarlier hF (by omega) (fun o ho => by obtain ⟨q, h1, h2⟩ := hr o ho; exact ⟨q, h1, by rw [← h2]; exact hag o ho⟩)) (by omega) (Nat.le_of_ble_eq_true rfl) <| rn_hpE ly_17 <| rn_iconst (np := 24) (v := 0) F dX0_place_23 rfl rfl <| rn_istore (np := 26) F dX0_place_24 rfl hL rfl <| ?_) (fun c8 => rn_aload_n (np := 12) F dX0_place_11 rfl rfl <| rn_iload_n (np := 13) F dX0_place_12 rfl rfl <| rn_iload_n (np := 14) F dX0_place_13 rfl rfl <| rn_cV2v (np := 17) F dX0_place_14 rfl cv_X0_count wM_X0_106 (fs hF rfl rfl) rfl (c_X0_count (b := b) hF hn hB.2.1 (by omega) ⟨h10, hB.2.2.2.1⟩) (by omega) (Nat.le_of_ble_eq_true rfl) <| rn_vret F Rr dX0_place_17 ?_)
    · exact absurd c8 (by omega)
    · refine ⟨rfl, a0, m, ?_, hag, fun _ _ => rfl⟩
      rw [ly_cnt, plF]
      show lyh h (cnR r (bP (sfT b l (h 1 11))) g c (packF a0 n)) a0 m l = _
      rw [packF_cong (a2 := a) (fun o ho => hag o (by omega))]
  | succ d IH =>
    intro i hid a a0 m l r g c hag hr h10 hc
    refine mc_of (by decide) (Nat.le_of_ble_eq_true rfl) (fun X hG F Rr hL => ?_)
    subst hG
    have F : FxT X cX0_place RX0 (3 + (d + 1)) := F
    show rn X 0 [(0, .ref (gad X.1 11)), (1, .int (nI i)), (2, .int g), (3, .int (nI c))] [] (lyh h r a0 m l)
    refine rn_iload_n (np := 1) F dX0_place_0 rfl rfl <| rn_aload_n (np := 2) F dX0_place_1 rfl rfl <| rn_getr (np := 5) F dX0_place_2 rfl fF_X0_36 (fs hF rfl rfl) rfl <| rn_getfE (np := 8) F dX0_place_5 rfl fF_X0_80 (fs hF rfl rfl) rfl hB.2.1 <| rn_Nlt (tg := 18) (np := 11) F dX0_place_8 rfl rfl rfl rfl (by omega) (fun c8 => rn_aload_n (np := 19) F dX0_place_18 rfl rfl <| rn_iload_n (np := 20) F dX0_place_19 rfl rfl <| rn_cV1v (np := 23) F dX0_place_20 rfl cv_X0_meetEarlier wM_X0_110 (fs hF rfl rfl) rfl (c_X0_meetEarlier hF (by omega) (fun o ho => by obtain ⟨q, h1, h2⟩ := hr o ho; exact ⟨q, h1, by rw [← h2]; exact hag o ho⟩)) (by omega) (Nat.le_of_ble_eq_true rfl) <| rn_hpE ly_17 <| rn_iconst (np := 24) (v := 0) F dX0_place_23 rfl rfl <| rn_istore (np := 26) F dX0_place_24 rfl hL rfl <| ?_) (fun c8 => rn_aload_n (np := 12) F dX0_place_11 rfl rfl <| rn_iload_n (np := 13) F dX0_place_12 rfl rfl <| rn_iload_n (np := 14) F dX0_place_13 rfl rfl <| rn_cV2v (np := 17) F dX0_place_14 rfl cv_X0_count wM_X0_106 (fs hF rfl rfl) rfl (c_X0_count (b := b) hF hn hB.2.1 (by omega) ⟨h10, hB.2.2.2.1⟩) (by omega) (Nat.le_of_ble_eq_true rfl) <| rn_vret F Rr dX0_place_17 ?_)
    · have z := l_X0_place (a := a) (m0 := m) (r0 := r) (l := l) (g := g) hF F Rr hL hB c8 hr h10 hc (IH (i + 1) (by omega)) (fun a' m' h1 h2 => ⟨rfl, a', m', rfl, h1, h2⟩) 4 0 a0 (meF m a0 (h 16) i i) (by omega) (by omega) hag (fun x hx => by unfold meF; rw [if_neg (by omega)]) (fun q hq => by
        unfold meF
        rw [if_pos (by omega), Nat.add_sub_cancel_left]
        exact mtF_cong hag)
      exact z
    · exact absurd (by omega) c8
