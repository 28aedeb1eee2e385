set_option maxRecDepth 20000 in
theorem a_X5_goes {X : XxT} {post : Option Value → HpT → Prop} (hF : Full X.1) (F : FxT X cX5_goes RX5 3) (Rr : RxT X none post) (hL : X.2.2.2.2.2.2.2.2.2.2.2.2.2.1 = 3) {h : HpT} {n q : Nat} {tx ty : Nat → Nat} {fu : Int32} (hn : n ≤ 9) (hq : q ≤ 6) (ht : ∀ k, k < q → tx k < 9 ∧ ty k < 9 ∧ h 29 (2 * k) = nI (tx k) ∧ h 29 (2 * k + 1) = nI (ty k)) {l g : Nat → Int32} {r : RsT} (e4 : r.1 4 = nI n) (e6 : r.1 6 = fu) (e8 : r.1 8 = nI q) (hg : (∀ j, j < n → ∃ p, p < 3 ∧ g j = nI p)) (k : ∀ l2, rn X 106 [(0, .ref (gad X.1 23)), (1, .int 1), (2, .int (nI n - 1))] [] (gwh h l2 g ((kmR q tx ty (h 32) (h 28) (h 26) fu n) g r))) : rn X 84 [(0, .ref (gad X.1 23)), (1, .int 1)] [] (gwh h l g r) := by
  have k99 : ∀ l2 (r2 : RsT), r2.1 4 = nI n → (rn X 106 [(0, .ref (gad X.1 23)), (1, .int 1), (2, .int (nI n - 1))] [] (gwh h l2 g r2)) → rn X 99 [(0, .ref (gad X.1 23)), (1, .int 1)] [] (gwh h l2 g r2) := by
    intro l2 r2 e4 kk
    refine rn_aload_n (np := 100) F dX5_goes_99 rfl rfl <| rn_getfE (np := 103) F dX5_goes_100 rfl fF_X5_56 (fs hF rfl rfl) rfl e4 <| rn_iconst (np := 104) (v := 1) F dX5_goes_103 rfl rfl <| rn_isub (np := 105) F dX5_goes_104 rfl <| rn_istore_n (np := 106) F dX5_goes_105 rfl hL rfl <| ?_
    exact kk
  refine rn_iload_n (np := 85) F dX5_goes_84 rfl rfl <| rn_if_eq (tg := 189) (np := 88) F dX5_goes_85 rfl rfl (fun q => absurd q ((by decide))) (fun _ => rn_aload_n (np := 89) F dX5_goes_88 rfl rfl <| rn_cV0i (np := 92) F dX5_goes_89 rfl cv_X5_isKept wM_X5_129 (fs hF rfl rfl) rfl (c_X5_isKept (q := q) (tx := tx) (ty := ty) hF ⟨hq, e8, ht⟩) (Nat.le_of_ble_eq_true rfl) (Nat.le_of_ble_eq_true rfl) <| rn_if_eq (tg := 99) (np := 95) F dX5_goes_92 rfl rfl (fun c92 => ?_) (fun c92 => rn_aload_n (np := 96) F dX5_goes_95 rfl rfl <| rn_cV0v (np := 99) F dX5_goes_96 rfl cv_X5_meets wM_X5_170 (fs hF rfl rfl) rfl (c_X5_meets (fu := fu) hF hn e4 e6 hg) (Nat.le_of_ble_eq_true rfl) (Nat.le_of_ble_eq_true rfl) <| ?_))
  · have e : (kmR q tx ty (h 32) (h 28) (h 26) fu n) g r = r := if_pos c92
    exact k99 l r e4 (e ▸ k l)
  · have e : (kmR q tx ty (h 32) (h 28) (h 26) fu n) g r = mtR (h 32) (h 28) (h 26) fu n g r := if_neg c92
    have k2 := k (lnF (gwh h l g r) n)
    rw [e] at k2
    exact k99 _ _ (by rw [mtR_o (by decide) (by decide) (by decide)]; exact e4) k2
set_option maxRecDepth 20000 in
theorem nI_nn {i : Nat} (hi : i < 2147483648) : ¬ nI i < 0 := by
  rw [Int32.lt_iff_toInt_lt, nI_toInt hi]
  show ¬ (i : Int) < 0
  omega
theorem s1_X5_goes {X : XxT} {post : Option Value → HpT → Prop} (hF : Full X.1) (F : FxT X cX5_goes RX5 3) (Rr : RxT X none post) (hL : X.2.2.2.2.2.2.2.2.2.2.2.2.2.1 = 3) {h : HpT} {l g : Nat → Int32} {r : RsT} {i : Nat} (hi : i < 9) (hf : h 27 i = 1) (k : rn X 106 [(0, .ref (gad X.1 23)), (1, .int 1), (2, .int (nI i - 1))] [] (gwh h l g r)) : rn X 106 [(0, .ref (gad X.1 23)), (1, .int 1), (2, .int (nI (i + 1) - 1))] [] (gwh h l g r) := by
  rw [nI_pred]
  refine rn_iload_n (np := 107) F dX5_goes_106 rfl rfl <| rn_if_lt (tg := 162) (np := 110) F dX5_goes_107 rfl rfl (fun q => absurd q ((show ¬ nI i < 0 from nI_nn (by omega)))) (fun _ => rn_aload_n (np := 111) F dX5_goes_110 rfl rfl <| rn_getr (np := 114) F dX5_goes_111 rfl fF_X5_19 (fs hF rfl rfl) rfl <| rn_iload_n (np := 115) F dX5_goes_114 rfl rfl <| rn_ialdN (np := 116) F dX5_goes_115 rfl (fs hF rfl rfl) rfl (by omega) <| rn_iconst (np := 117) (v := 1) F dX5_goes_116 rfl rfl <| rn_icmp_eq (tg := 130) (np := 120) F dX5_goes_117 rfl rfl (fun _ => rn_aload_n (np := 131) F dX5_goes_130 rfl rfl <| rn_getr (np := 134) F dX5_goes_131 rfl fF_X5_44 (fs hF rfl rfl) rfl <| rn_iload_n (np := 135) F dX5_goes_134 rfl rfl <| rn_aload_n (np := 136) F dX5_goes_135 rfl rfl <| rn_getr (np := 139) F dX5_goes_136 rfl fF_X5_19 (fs hF rfl rfl) rfl <| rn_iload_n (np := 140) F dX5_goes_139 rfl rfl <| rn_ialdN (np := 141) F dX5_goes_140 rfl (fs hF rfl rfl) rfl (by omega) <| rn_iconst (np := 142) (v := 1) F dX5_goes_141 rfl rfl <| rn_icmp_ne (tg := 154) (np := 145) F dX5_goes_142 rfl rfl (fun q => absurd q ((fun z => z hf))) (fun _ => rn_aload_n (np := 146) F dX5_goes_145 rfl rfl <| rn_getr (np := 149) F dX5_goes_146 rfl fF_X5_44 (fs hF rfl rfl) rfl <| rn_iload_n (np := 150) F dX5_goes_149 rfl rfl <| rn_ialdN (np := 151) F dX5_goes_150 rfl (fs hF rfl rfl) rfl (by omega) <| rn_goto (np := 155) F dX5_goes_151 rfl <| rn_iastN (np := 156) F dX5_goes_155 rfl (fs hF rfl rfl) rfl (by omega) <| rn_hpE (show hs (gwh h l g r) 34 i (g i) = gwh h l g r by rw [gw_34, upd_id]) <| rn_iinc (np := 159) (v := (-1)) F dX5_goes_156 rfl rfl rfl hL rfl <| rn_goto (np := 106) F dX5_goes_159 rfl <| ?_)) (fun q => absurd q ((fun z => z hf))))
  have e : nI i - 1 = nI i + (-1) := by grind
  rw [e] at k
  exact k
set_option maxRecDepth 20000 in
theorem s2_X5_goes {X : XxT} {post : Option Value → HpT → Prop} (hF : Full X.1) (F : FxT X cX5_goes RX5 3) (Rr : RxT X none post) (hL : X.2.2.2.2.2.2.2.2.2.2.2.2.2.1 = 3) {h : HpT} {l g : Nat → Int32} {r : RsT} {i : Nat} (hi : i < 9) (hf : ¬ h 27 i = 1) (h2 : ¬ g i = 2) (k : rn X 84 [(0, .ref (gad X.1 23)), (1, .int 1)] [] (gwh h l (upd g i (g i + 1)) r)) : rn X 106 [(0, .ref (gad X.1 23)), (1, .int 1), (2, .int (nI (i + 1) - 1))] [] (gwh h l g r) := by
  rw [nI_pred]
  refine rn_iload_n (np := 107) F dX5_goes_106 rfl rfl <| rn_if_lt (tg := 162) (np := 110) F dX5_goes_107 rfl rfl (fun q => absurd q ((show ¬ nI i < 0 from nI_nn (by omega)))) (fun _ => rn_aload_n (np := 111) F dX5_goes_110 rfl rfl <| rn_getr (np := 114) F dX5_goes_111 rfl fF_X5_19 (fs hF rfl rfl) rfl <| rn_iload_n (np := 115) F dX5_goes_114 rfl rfl <| rn_ialdN (np := 116) F dX5_goes_115 rfl (fs hF rfl rfl) rfl (by omega) <| rn_iconst (np := 117) (v := 1) F dX5_goes_116 rfl rfl <| rn_icmp_eq (tg := 130) (np := 120) F dX5_goes_117 rfl rfl (fun q => absurd q (hf)) (fun _ => rn_aload_n (np := 121) F dX5_goes_120 rfl rfl <| rn_getr (np := 124) F dX5_goes_121 rfl fF_X5_44 (fs hF rfl rfl) rfl <| rn_iload_n (np := 125) F dX5_goes_124 rfl rfl <| rn_ialdN (np := 126) F dX5_goes_125 rfl (fs hF rfl rfl) rfl (by omega) <| rn_iconst (np := 127) (v := 2) F dX5_goes_126 rfl rfl <| rn_icmp_ne (tg := 162) (np := 130) F dX5_goes_127 rfl rfl (fun _ => rn_iload_n (np := 163) F dX5_goes_162 rfl rfl <| rn_if_lt (tg := 170) (np := 166) F dX5_goes_163 rfl rfl (fun q => absurd q ((show ¬ nI i < 0 from nI_nn (by omega)))) (fun _ => rn_iconst (np := 167) (v := 1) F dX5_goes_166 rfl rfl <| rn_goto (np := 171) F dX5_goes_167 rfl <| rn_istore_n (np := 172) F dX5_goes_171 rfl hL rfl <| rn_iload_n (np := 173) F dX5_goes_172 rfl rfl <| rn_if_eq (tg := 186) (np := 176) F dX5_goes_173 rfl rfl (fun q => absurd q ((by decide))) (fun _ => rn_aload_n (np := 177) F dX5_goes_176 rfl rfl <| rn_getr (np := 180) F dX5_goes_177 rfl fF_X5_44 (fs hF rfl rfl) rfl <| rn_iload_n (np := 181) F dX5_goes_180 rfl rfl <| rn_dup2 (np := 182) F dX5_goes_181 rfl rfl rfl <| rn_ialdN (np := 183) F dX5_goes_182 rfl (fs hF rfl rfl) rfl (by omega) <| rn_iconst (np := 184) (v := 1) F dX5_goes_183 rfl rfl <| rn_iadd (np := 185) F dX5_goes_184 rfl <| rn_iastN (np := 186) F dX5_goes_185 rfl (fs hF rfl rfl) rfl (by omega) <| rn_hpE gw_34 <| rn_goto (np := 84) F dX5_goes_186 rfl <| ?_))) (fun q => absurd q (h2))))
  exact rn_pick [0, 1] rfl k
set_option maxRecDepth 20000 in
theorem s3_X5_goes {X : XxT} {post : Option Value → HpT → Prop} (hF : Full X.1) (F : FxT X cX5_goes RX5 3) (Rr : RxT X none post) (hL : X.2.2.2.2.2.2.2.2.2.2.2.2.2.1 = 3) {h : HpT} {l g : Nat → Int32} {r : RsT} {i : Nat} (hi : i < 9) (hf : ¬ h 27 i = 1) (h2 : g i = 2) (k : rn X 106 [(0, .ref (gad X.1 23)), (1, .int 1), (2, .int (nI i - 1))] [] (gwh h l (upd g i 0) r)) : rn X 106 [(0, .ref (gad X.1 23)), (1, .int 1), (2, .int (nI (i + 1) - 1))] [] (gwh h l g r) := by
  rw [nI_pred]
  refine rn_iload_n (np := 107) F dX5_goes_106 rfl rfl <| rn_if_lt (tg := 162) (np := 110) F dX5_goes_107 rfl rfl (fun q => absurd q ((show ¬ nI i < 0 from nI_nn (by omega)))) (fun _ => rn_aload_n (np := 111) F dX5_goes_110 rfl rfl <| rn_getr (np := 114) F dX5_goes_111 rfl fF_X5_19 (fs hF rfl rfl) rfl <| rn_iload_n (np := 115) F dX5_goes_114 rfl rfl <| rn_ialdN (np := 116) F dX5_goes_115 rfl (fs hF rfl rfl) rfl (by omega) <| rn_iconst (np := 117) (v := 1) F dX5_goes_116 rfl rfl <| rn_icmp_eq (tg := 130) (np := 120) F dX5_goes_117 rfl rfl (fun q => absurd q (hf)) (fun _ => rn_aload_n (np := 121) F dX5_goes_120 rfl rfl <| rn_getr (np := 124) F dX5_goes_121 rfl fF_X5_44 (fs hF rfl rfl) rfl <| rn_iload_n (np := 125) F dX5_goes_124 rfl rfl <| rn_ialdN (np := 126) F dX5_goes_125 rfl (fs hF rfl rfl) rfl (by omega) <| rn_iconst (np := 127) (v := 2) F dX5_goes_126 rfl rfl <| rn_icmp_ne (tg := 162) (np := 130) F dX5_goes_127 rfl rfl (fun q => absurd q ((fun z => z h2))) (fun _ => rn_aload_n (np := 131) F dX5_goes_130 rfl rfl <| rn_getr (np := 134) F dX5_goes_131 rfl fF_X5_44 (fs hF rfl rfl) rfl <| rn_iload_n (np := 135) F dX5_goes_134 rfl rfl <| rn_aload_n (np := 136) F dX5_goes_135 rfl rfl <| rn_getr (np := 139) F dX5_goes_136 rfl fF_X5_19 (fs hF rfl rfl) rfl <| rn_iload_n (np := 140) F dX5_goes_139 rfl rfl <| rn_ialdN (np := 141) F dX5_goes_140 rfl (fs hF rfl rfl) rfl (by omega) <| rn_iconst (np := 142) (v := 1) F dX5_goes_141 rfl rfl <| rn_icmp_ne (tg := 154) (np := 145) F dX5_goes_142 rfl rfl (fun _ => rn_iconst (np := 155) (v := 0) F dX5_goes_154 rfl rfl <| rn_iastN (np := 156) F dX5_goes_155 rfl (fs hF rfl rfl) rfl (by omega) <| rn_hpE gw_34 <| rn_iinc (np := 159) (v := (-1)) F dX5_goes_156 rfl rfl rfl hL rfl <| rn_goto (np := 106) F dX5_goes_159 rfl <| ?_) (fun q => absurd q (hf)))))
  have e : nI i - 1 = nI i + (-1) := by grind
  rw [e] at k
  exact k
theorem p_X5_goes {X : XxT} {post : Option Value → HpT → Prop} (hF : Full X.1) (F : FxT X cX5_goes RX5 3) (Rr : RxT X none post) (hL : X.2.2.2.2.2.2.2.2.2.2.2.2.2.1 = 3) {h : HpT} {n q : Nat} {tx ty : Nat → Nat} {fu : Int32} (hn : n ≤ 9) (hq : q ≤ 6) (ht : ∀ k, k < q → tx k < 9 ∧ ty k < 9 ∧ h 29 (2 * k) = nI (tx k) ∧ h 29 (2 * k + 1) = nI (ty k)) : ∀ (d i : Nat) (l g : Nat → Int32) (r : RsT), i + d = n → r.1 4 = nI n → r.1 6 = fu → r.1 8 = nI q → (∀ j, j < n → ∃ p, p < 3 ∧ g j = nI p) → (∀ j, i ≤ j → j < n → g j = mnF (h 27) (h 26) j) → (∀ l2, rn X 106 [(0, .ref (gad X.1 23)), (1, .int 1), (2, .int (nI i - 1))] [] (gwh h l2 g ((goF (h 27) (h 26) (kmR q tx ty (h 32) (h 28) (h 26) fu n)) d i g r))) → rn X 84 [(0, .ref (gad X.1 23)), (1, .int 1)] [] (gwh h l g r) := by
  intro d
  induction d with
  | zero =>
    intro i l g r hid e4 e6 e8 hg hm k
    have e : i = n := by omega
    subst e
    exact a_X5_goes hF F Rr hL hn hq ht e4 e6 e8 hg k
  | succ d ih =>
    intro i l g r hid e4 e6 e8 hg hm k
    have o4 : ∀ a r0, ((goF (h 27) (h 26) (kmR q tx ty (h 32) (h 28) (h 26) fu n)) d (i + 1) a r0).1 4 = r0.1 4 := fun a r0 => goF_o (fun a r => kmR_o (by decide) (by decide) (by decide)) _ _ _ _
    have o6 : ∀ a r0, ((goF (h 27) (h 26) (kmR q tx ty (h 32) (h 28) (h 26) fu n)) d (i + 1) a r0).1 6 = r0.1 6 := fun a r0 => goF_o (fun a r => kmR_o (by decide) (by decide) (by decide)) _ _ _ _
    have o8 : ∀ a r0, ((goF (h 27) (h 26) (kmR q tx ty (h 32) (h 28) (h 26) fu n)) d (i + 1) a r0).1 8 = r0.1 8 := fun a r0 => goF_o (fun a r => kmR_o (by decide) (by decide) (by decide)) _ _ _ _
    have hs : ∀ x j, i + 1 ≤ j → j < n → upd g i x j = mnF (h 27) (h 26) j := fun x j h1 h2 => by rw [pk_un (by omega)]; exact hm j (by omega) h2
    have hgu : ∀ p, p < 3 → ∀ j, j < n → ∃ a, a < 3 ∧ upd g i (nI p) j = nI a := by
      intro p hp j hj
      by_cases e : j = i
      · subst e; exact ⟨p, hp, by rw [pk_us]⟩
      · rw [pk_un e]; exact hg j hj
    have hmi := hm i (Nat.le_refl i) (by omega)
    unfold mnF at hmi
    refine ih (i + 1) l g r (by omega) e4 e6 e8 hg (fun j h1 h2 => hm j (by omega) h2) (fun l2 => ?_)
    by_cases hf : h 27 i = 1
    · rw [if_pos hf] at hmi
      refine s1_X5_goes hF F Rr hL (by omega) hf ?_
      have z := k l2
      rw [goF, if_pos hf, ← hmi, upd_id] at z
      exact z
    · rw [if_neg hf] at hmi
      refine s2_X5_goes hF F Rr hL (by omega) hf (by rw [hmi]; decide) ?_
      rw [hmi, show (0 : Int32) + 1 = nI 1 from rfl]
      refine ih (i + 1) l2 (upd g i (nI 1)) _ (by omega) (by rw [o4]; exact e4) (by rw [o6]; exact e6) (by rw [o8]; exact e8) (hgu 1 (by decide)) (hs _) (fun l3 => ?_)
      refine s2_X5_goes hF F Rr hL (by omega) hf (by rw [pk_us]; decide) ?_
      rw [pk_us, upd_upd, show nI 1 + 1 = nI 2 from rfl]
      refine ih (i + 1) l3 (upd g i (nI 2)) _ (by omega) (by rw [o4, o4]; exact e4) (by rw [o6, o6]; exact e6) (by rw [o8, o8]; exact e8) (hgu 2 (by decide)) (hs _) (fun l4 => ?_)
      refine s3_X5_goes hF F Rr hL (by omega) hf (by rw [pk_us]; rfl) ?_
      rw [upd_upd, ← hmi, upd_id]
      have z := k l4
      rw [goF, if_neg hf] at z
      have eg : upd g i 0 = g := by rw [← hmi, upd_id]
      rw [eg] at z
      exact z
def gs23 (f : StF) : StF := upd (upd (upd f 17 0) 18 (-1)) 19 0
noncomputable def goR (h : HpT) (n q : Nat) (tx ty : Nat → Nat) : RsT := goF (h 27) (h 26) (kmR q tx ty (rtR h (n * 6)) (h 28) (h 26) (h 23 6) n) n 0 (cpF (h 34) (mnF (h 27) (h 26)) n) (gs23 (h 23), fillF (h 36) 10 (-1), h 35)
theorem gs23_hs (h : HpT) : hs (hs (hs h 23 17 0) 23 18 (-1)) 23 19 0 = va_up h 23 (gs23 (h 23)) := by
  rw [hs3']; rfl
set_option maxRecDepth 20000 in
theorem l1_X5_goes {X : XxT} {post : Option Value → HpT → Prop} (hF : Full X.1) (F : FxT X cX5_goes RX5 3) (Rr : RxT X none post) (hL : X.2.2.2.2.2.2.2.2.2.2.2.2.2.1 = 3) {h : HpT} (hp : rn X 40 [(0, .ref (gad X.1 23))] [] (va_up h 36 (fillF (h 36) 10 (-1)))) : ∀ (k : Nat) (i : Nat), 10 - i < k → i ≤ 10 → rn X 21 [(0, .ref (gad X.1 23)), (1, .int (nI i))] [] (va_up h 36 (fillF (h 36) i (-1))) := by
  intro k
  induction k with
  | zero => intro i hk; exact absurd hk (Nat.not_lt_zero _)
  | succ k ih =>
    intro i hk hi
    refine rn_iload_n (np := 22) F dX5_goes_21 rfl rfl <| rn_bipush (np := 24) (v := 10) F dX5_goes_22 rfl rfl <| rn_Nge (tg := 40) (np := 27) (b := 10) F dX5_goes_24 rfl rfl rfl rfl (by omega) (fun c24 => ?_) (fun c24 => rn_aload_n (np := 28) F dX5_goes_27 rfl rfl <| rn_getr (np := 31) F dX5_goes_28 rfl fF_X5_50 (fs hF rfl rfl) rfl <| rn_iload_n (np := 32) F dX5_goes_31 rfl rfl <| rn_iconst (np := 33) (v := (-1)) F dX5_goes_32 rfl rfl <| rn_iastN (np := 34) F dX5_goes_33 rfl (fs hF rfl rfl) rfl (by omega) <| rn_iincN (np := 37) F dX5_goes_34 rfl rfl hL rfl <| rn_goto (np := 21) F dX5_goes_37 rfl <| ?_)
    · rw [show i = 10 by omega]; exact rn_pick [0] rfl hp
    · rw [fill_step]; exact ih (i + 1) (by omega) (by omega)
set_option maxRecDepth 20000 in
theorem l2_X5_goes {X : XxT} {post : Option Value → HpT → Prop} (hF : Full X.1) (F : FxT X cX5_goes RX5 3) (Rr : RxT X none post) (hL : X.2.2.2.2.2.2.2.2.2.2.2.2.2.1 = 3) {h : HpT} {n : Nat} (hn : n ≤ 9) (eh : h 23 4 = nI n) (hp : rn X 82 [(0, .ref (gad X.1 23))] [] (va_up h 34 (cpF (h 34) (mnF (h 27) (h 26)) n))) : ∀ (k : Nat) (i : Nat), n - i < k → i ≤ n → rn X 42 [(0, .ref (gad X.1 23)), (1, .int (nI i))] [] (va_up h 34 (cpF (h 34) (mnF (h 27) (h 26)) i)) := by
  intro k
  induction k with
  | zero => intro i hk; exact absurd hk (Nat.not_lt_zero _)
  | succ k ih =>
    intro i hk hi
    refine rn_iload_n (np := 43) F dX5_goes_42 rfl rfl <| rn_aload_n (np := 44) F dX5_goes_43 rfl rfl <| rn_getfE (np := 47) F dX5_goes_44 rfl fF_X5_56 (fs hF rfl rfl) rfl eh <| rn_Nge (tg := 82) (np := 50) F dX5_goes_47 rfl rfl rfl rfl (by omega) (fun c47 => ?_) (fun c47 => rn_aload_n (np := 51) F dX5_goes_50 rfl rfl <| rn_getr (np := 54) F dX5_goes_51 rfl fF_X5_44 (fs hF rfl rfl) rfl <| rn_iload_n (np := 55) F dX5_goes_54 rfl rfl <| rn_aload_n (np := 56) F dX5_goes_55 rfl rfl <| rn_getr (np := 59) F dX5_goes_56 rfl fF_X5_19 (fs hF rfl rfl) rfl <| rn_iload_n (np := 60) F dX5_goes_59 rfl rfl <| rn_ialdN (np := 61) F dX5_goes_60 rfl (fs hF rfl rfl) rfl (by omega) <| rn_iconst (np := 62) (v := 1) F dX5_goes_61 rfl rfl <| rn_icmp_ne (tg := 74) (np := 65) F dX5_goes_62 rfl rfl (fun c62 => rn_iconst (np := 75) (v := 0) F dX5_goes_74 rfl rfl <| rn_iastN (np := 76) F dX5_goes_75 rfl (fs hF rfl rfl) rfl (by omega) <| rn_iincN (np := 79) F dX5_goes_76 rfl rfl hL rfl <| rn_goto (np := 42) F dX5_goes_79 rfl <| ?_) (fun c62 => rn_aload_n (np := 66) F dX5_goes_65 rfl rfl <| rn_getr (np := 69) F dX5_goes_66 rfl fF_X5_16 (fs hF rfl rfl) rfl <| rn_iload_n (np := 70) F dX5_goes_69 rfl rfl <| rn_ialdN (np := 71) F dX5_goes_70 rfl (fs hF rfl rfl) rfl (by omega) <| rn_goto (np := 75) F dX5_goes_71 rfl <| rn_iastN (np := 76) F dX5_goes_75 rfl (fs hF rfl rfl) rfl (by omega) <| rn_iincN (np := 79) F dX5_goes_76 rfl rfl hL rfl <| rn_goto (np := 42) F dX5_goes_79 rfl <| ?_))
    · rw [show i = n by omega]; exact rn_pick [0] rfl hp
    · have e : mnF (h 27) (h 26) i = 0 := if_neg c62
      have z := cp_step h 34 (h 34) (mnF (h 27) (h 26)) i
      rw [e] at z
      exact z ▸ ih (i + 1) (by omega) (by omega)
    · have e : mnF (h 27) (h 26) i = h 26 i := if_pos c62
      have z := cp_step h 34 (h 34) (mnF (h 27) (h 26)) i
      rw [e] at z
      exact z ▸ ih (i + 1) (by omega) (by omega)
set_option maxRecDepth 20000 in
theorem c_X5_goes {G : GxT} (hF : Full G) {h : HpT} {n q : Nat} {tx ty : Nat → Nat} (hS : RI n h) (hT : TI2 q tx ty h) : mc G yX5_goes cX5_goes 3 none 3 [.ref (gad G 23)] h (fun rr h2 => rr = none ∧ ∃ l g, h2 = gwh (va_up h 32 (rtR h (n * 6))) l g (goR h n q tx ty)) := by
  refine mc_of (by decide) (Nat.le_of_ble_eq_true rfl) (fun X hG F Rr hL => ?_)
  subst hG
  have F : FxT X cX5_goes RX5 3 := F
  show rn X 0 [(0, .ref (gad X.1 23))] [] h
  have hn := hS.1
  refine rn_aload_n (np := 1) F dX5_goes_0 rfl rfl <| rn_cV0v (np := 4) F dX5_goes_1 rfl cv_X5_table wM_X5_106 (fs hF rfl rfl) rfl (c_X5_table (n := n) hF hS) (Nat.le_of_ble_eq_true rfl) (Nat.le_of_ble_eq_true rfl) <| rn_aload_n (np := 5) F dX5_goes_4 rfl rfl <| rn_iconst (np := 6) (v := 0) F dX5_goes_5 rfl rfl <| rn_putf (np := 9) F dX5_goes_6 rfl fP_X5_161 (fs hF rfl rfl) rfl rfl rfl <| rn_aload_n (np := 10) F dX5_goes_9 rfl rfl <| rn_iconst (np := 11) (v := (-1)) F dX5_goes_10 rfl rfl <| rn_putf (np := 14) F dX5_goes_11 rfl fP_X5_164 (fs hF rfl rfl) rfl rfl rfl <| rn_aload_n (np := 15) F dX5_goes_14 rfl rfl <| rn_iconst (np := 16) (v := 0) F dX5_goes_15 rfl rfl <| rn_putf (np := 19) F dX5_goes_16 rfl fP_X5_167 (fs hF rfl rfl) rfl rfl rfl <| rn_hpE (gs23_hs _) <| rn_iconst (np := 20) (v := nI 0) F dX5_goes_19 rfl rfl <| rn_istore_n (np := 21) F dX5_goes_20 rfl hL rfl <| ?_
  have z := l1_X5_goes (h := va_up (va_up h 32 (rtR h (n * 6))) 23 (gs23 (h 23))) hF F Rr hL (by
    refine rn_iconst (np := 41) (v := nI 0) F dX5_goes_40 rfl rfl <| rn_istore_n (np := 42) F dX5_goes_41 rfl hL rfl <| ?_
    have z := l2_X5_goes (h := va_up (va_up (va_up h 32 (rtR h (n * 6))) 23 (gs23 (h 23))) 36 (fillF (h 36) 10 (-1))) (n := n) hF F Rr hL hn (show gs23 (h 23) 4 = nI n by unfold gs23; rw [pk_un (by decide), pk_un (by decide), pk_un (by decide)]; exact hS.2.1) (by
      refine rn_iconst (np := 83) (v := 1) F dX5_goes_82 rfl rfl <| rn_istore_n (np := 84) F dX5_goes_83 rfl hL rfl <| ?_
      have e : va_up (va_up (va_up (va_up h 32 (rtR h (n * 6))) 23 (gs23 (h 23))) 36 (fillF (h 36) 10 (-1))) 34 (cpF (h 34) (mnF (h 27) (h 26)) n) = gwh (va_up h 32 (rtR h (n * 6))) (h 33) (cpF (h 34) (mnF (h 27) (h 26)) n) (gs23 (h 23), fillF (h 36) 10 (-1), h 35) := by
        unfold gwh
        funext x
        simp only [va_up]
        by_cases h1 : x = 33 <;> by_cases h2 : x = 34 <;> by_cases h3 : x = 23 <;> by_cases h4 : x = 36 <;> by_cases h5 : x = 35 <;> by_cases h6 : x = 32 <;> simp_all
      refine rn_hpE e ?_
      refine p_X5_goes (h := va_up h 32 (rtR h (n * 6))) (n := n) (q := q) (tx := tx) (ty := ty) (fu := h 23 6) hF F Rr hL hn hT.1 hT.2.2 n 0 _ _ _ (by omega) (show gs23 (h 23) 4 = nI n by unfold gs23; rw [pk_un (by decide), pk_un (by decide), pk_un (by decide)]; exact hS.2.1) (show gs23 (h 23) 6 = h 23 6 by unfold gs23; rw [pk_un (by decide), pk_un (by decide), pk_un (by decide)]) (show gs23 (h 23) 8 = nI q by unfold gs23; rw [pk_un (by decide), pk_un (by decide), pk_un (by decide)]; exact hT.2.1) ?_ ?_ (fun l2 => ?_)
      · intro j hj
        unfold cpF mnF
        rw [if_pos hj]
        by_cases hf : h 27 j = 1
        · rw [if_pos hf]; exact hS.2.2.2 j (by omega)
        · rw [if_neg hf]; exact ⟨0, by decide, rfl⟩
      · intro j _ hj
        show cpF (h 34) (mnF (h 27) (h 26)) n j = _
        unfold cpF
        rw [if_pos hj]
        rfl
      · refine rn_iload_n (np := 107) F dX5_goes_106 rfl rfl <| rn_if_lt (tg := 162) (np := 110) F dX5_goes_107 rfl rfl (fun _ => rn_iload_n (np := 163) F dX5_goes_162 rfl rfl <| rn_if_lt (tg := 170) (np := 166) F dX5_goes_163 rfl rfl (fun _ => rn_iconst (np := 171) (v := 0) F dX5_goes_170 rfl rfl <| rn_istore_n (np := 172) F dX5_goes_171 rfl hL rfl <| rn_iload_n (np := 173) F dX5_goes_172 rfl rfl <| rn_if_eq (tg := 186) (np := 176) F dX5_goes_173 rfl rfl (fun _ => rn_goto (np := 84) F dX5_goes_186 rfl <| rn_iload_n (np := 85) F dX5_goes_84 rfl rfl <| rn_if_eq (tg := 189) (np := 88) F dX5_goes_85 rfl rfl (fun _ => rn_vret F Rr dX5_goes_189 ?_) (fun q => absurd q ((fun z => z rfl)))) (fun q => absurd q ((fun z => z rfl)))) (fun q => absurd q ((by decide)))) (fun q => absurd q ((by decide)))
        exact ⟨rfl, l2, _, rfl⟩) (n + 1) 0 (by omega) (by omega)
    rw [cp_0] at z
    have e : va_up (va_up (va_up (va_up h 32 (rtR h (n * 6))) 23 (gs23 (h 23))) 36 (fillF (h 36) 10 (-1))) 34 (h 34) = va_up (va_up (va_up h 32 (rtR h (n * 6))) 23 (gs23 (h 23))) 36 (fillF (h 36) 10 (-1)) := up_id (va_up (va_up (va_up h 32 (rtR h (n * 6))) 23 (gs23 (h 23))) 36 (fillF (h 36) 10 (-1))) 34
    exact e ▸ z) 11 0 (by omega) (by omega)
  rw [fill_0] at z
  have e : va_up (va_up (va_up h 32 (rtR h (n * 6))) 23 (gs23 (h 23))) 36 (h 36) = va_up (va_up h 32 (rtR h (n * 6))) 23 (gs23 (h 23)) := up_id (va_up (va_up h 32 (rtR h (n * 6))) 23 (gs23 (h 23))) 36
  exact e ▸ z
