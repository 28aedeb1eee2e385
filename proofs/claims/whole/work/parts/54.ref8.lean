set_option maxRecDepth 20000 in
theorem l1_X5_meets {X : XxT} {post : Option Value → HpT → Prop} (hF : Full X.1) (F : FxT X cX5_meets RX5 2) (Rr : RxT X none post) (hL : X.2.2.2.2.2.2.2.2.2.2.2.2.2.1 = 4) {h : HpT} {n : Nat} {g : Int32} (hn : n ≤ 9) (eh : h 23 4 = nI n) (hp : rn X 68 [(0, .ref (gad X.1 23)), (1, .int g), (2, .int (nI (chN (h 26) (h 34) n)))] [] h) : ∀ (k : Nat) (i : Nat), n - i < k → i ≤ n → rn X 31 [(0, .ref (gad X.1 23)), (1, .int g), (2, .int (nI (chN (h 26) (h 34) i))), (3, .int (nI i))] [] h := by
  intro k
  induction k with
  | zero => intro i hk; exact absurd hk (Nat.not_lt_zero _)
  | succ k ih =>
    intro i hk hi
    refine rn_iload_n (np := 32) F dX5_meets_31 rfl rfl <| rn_aload_n (np := 33) F dX5_meets_32 rfl rfl <| rn_getfE (np := 36) F dX5_meets_33 rfl fF_X5_56 (fs hF rfl rfl) rfl eh <| rn_Nge (tg := 68) (np := 39) F dX5_meets_36 rfl rfl rfl rfl (by omega) (fun c36 => ?_) (fun c36 => rn_iload_n (np := 40) F dX5_meets_39 rfl rfl <| rn_aload_n (np := 41) F dX5_meets_40 rfl rfl <| rn_getr (np := 44) F dX5_meets_41 rfl fF_X5_44 (fs hF rfl rfl) rfl <| rn_iload_n (np := 45) F dX5_meets_44 rfl rfl <| rn_ialdN (np := 46) F dX5_meets_45 rfl (fs hF rfl rfl) rfl (by omega) <| rn_aload_n (np := 47) F dX5_meets_46 rfl rfl <| rn_getr (np := 50) F dX5_meets_47 rfl fF_X5_16 (fs hF rfl rfl) rfl <| rn_iload_n (np := 51) F dX5_meets_50 rfl rfl <| rn_ialdN (np := 52) F dX5_meets_51 rfl (fs hF rfl rfl) rfl (by omega) <| rn_icmp_ne (tg := 59) (np := 55) F dX5_meets_52 rfl rfl (fun c52 => rn_iconst (np := 60) (v := 1) F dX5_meets_59 rfl rfl <| rn_iadd (np := 61) F dX5_meets_60 rfl <| rn_istore_n (np := 62) F dX5_meets_61 rfl hL rfl <| rn_iincN (np := 65) F dX5_meets_62 rfl rfl hL rfl <| rn_goto (np := 31) F dX5_meets_65 rfl <| ?_) (fun c52 => rn_iconst (np := 56) (v := 0) F dX5_meets_55 rfl rfl <| rn_goto (np := 60) F dX5_meets_56 rfl <| rn_iadd (np := 61) F dX5_meets_60 rfl <| rn_istore_n (np := 62) F dX5_meets_61 rfl hL rfl <| rn_iincN (np := 65) F dX5_meets_62 rfl rfl hL rfl <| rn_goto (np := 31) F dX5_meets_65 rfl <| ?_))
    · have e : i = n := by omega
      subst e
      exact rn_pick [0, 1, 2] rfl hp
    · have z := ih (i + 1) (by omega) (by omega)
      rw [chN, if_neg c52, ← nI_1] at z
      exact z
    · have z := ih (i + 1) (by omega) (by omega)
      rw [chN, if_pos c52, Nat.add_zero] at z
      refine rn_hpE rfl ?_
      rw [show nI (chN (h 26) (h 34) i) + 0 = nI (chN (h 26) (h 34) i) by grind]
      exact z
set_option maxRecDepth 20000 in
theorem l2_X5_meets {X : XxT} {post : Option Value → HpT → Prop} (hF : Full X.1) (F : FxT X cX5_meets RX5 2) (Rr : RxT X none post) (hL : X.2.2.2.2.2.2.2.2.2.2.2.2.2.1 = 4) {h : HpT} {n c : Nat} (hn : n ≤ 9) (hc : c ≤ 9) (eh : h 23 4 = nI n) {lo1 : Value} (hp : post none (va_up h 35 (pcF (h 35) c (h 34) n))) : ∀ (k : Nat) (i : Nat), n - i < k → i ≤ n → rn X 167 [(0, .ref (gad X.1 23)), (1, lo1), (2, .int (nI c)), (3, .int (nI i))] [] (va_up h 35 (pcF (h 35) c (h 34) i)) := by
  intro k
  induction k with
  | zero => intro i hk; exact absurd hk (Nat.not_lt_zero _)
  | succ k ih =>
    intro i hk hi
    refine rn_iload_n (np := 168) F dX5_meets_167 rfl rfl <| rn_aload_n (np := 169) F dX5_meets_168 rfl rfl <| rn_getfE (np := 172) F dX5_meets_169 rfl fF_X5_56 (fs hF rfl rfl) rfl eh <| rn_Nge (tg := 198) (np := 175) F dX5_meets_172 rfl rfl rfl rfl (by omega) (fun c172 => rn_vret F Rr dX5_meets_198 ?_) (fun c172 => rn_aload_n (np := 176) F dX5_meets_175 rfl rfl <| rn_getr (np := 179) F dX5_meets_176 rfl fF_X5_47 (fs hF rfl rfl) rfl <| rn_bipush (np := 181) (v := 9) F dX5_meets_179 rfl rfl <| rn_iload_n (np := 182) F dX5_meets_181 rfl rfl <| rn_imul (np := 183) F dX5_meets_182 rfl <| rn_iload_n (np := 184) F dX5_meets_183 rfl rfl <| rn_iadd (np := 185) F dX5_meets_184 rfl <| rn_aload_n (np := 186) F dX5_meets_185 rfl rfl <| rn_getr (np := 189) F dX5_meets_186 rfl fF_X5_44 (fs hF rfl rfl) rfl <| rn_iload_n (np := 190) F dX5_meets_189 rfl rfl <| rn_ialdN (np := 191) F dX5_meets_190 rfl (fs hF rfl rfl) rfl (by omega) <| rn_iastN (np := 192) F dX5_meets_191 rfl (fs hF rfl rfl) (ix9r c i) (by omega) <| rn_iincN (np := 195) F dX5_meets_192 rfl rfl hL rfl <| rn_goto (np := 167) F dX5_meets_195 rfl <| ?_)
    · rw [show i = n by omega]; exact hp
    · exact (pc_step35 h (h 35) (h 34) c i) ▸ ih (i + 1) (by omega) (by omega)
set_option maxRecDepth 20000 in
theorem gw_23 {h : HpT} {l g : Nat → Int32} {r : RsT} {i : Nat} {x : Int32} : hs (gwh h l g r) 23 i x = gwh h l g (upd r.1 i x, r.2) := by
  unfold hs gwh
  funext q
  simp only [va_up]
  by_cases h1 : q = 33 <;> by_cases h2 : q = 34 <;> by_cases h3 : q = 23 <;> by_cases h4 : q = 36 <;> by_cases h5 : q = 35 <;> simp_all
theorem gw_36 {h : HpT} {l g : Nat → Int32} {r : RsT} {i : Nat} {x : Int32} : hs (gwh h l g r) 36 i x = gwh h l g (r.1, upd r.2.1 i x, r.2.2) := by
  unfold hs gwh
  funext q
  simp only [va_up]
  by_cases h1 : q = 33 <;> by_cases h2 : q = 34 <;> by_cases h3 : q = 23 <;> by_cases h4 : q = 36 <;> by_cases h5 : q = 35 <;> simp_all
theorem gw_35 {h : HpT} {l g c : Nat → Int32} {r : RsT} : va_up (gwh h l g r) 35 c = gwh h l g (r.1, r.2.1, c) := by unfold gwh; rw [up_up]
set_option maxRecDepth 20000 in
theorem c_X5_meets {G : GxT} (hF : Full G) {h : HpT} {n : Nat} {l g : Nat → Int32} {r : RsT} {fu : Int32} (hn : n ≤ 9) (eh : r.1 4 = nI n) (ef : r.1 6 = fu) (hr : ∀ i, i < n → ∃ p, p < 3 ∧ g i = nI p) : mcv G yX5_meets cX5_meets 4 none 2 [.ref (gad G 23)] (gwh h l g r) (gwh h (lnF (gwh h l g r) n) g (mtR (h 32) (h 28) (h 26) fu n g r)) := by
  refine mc_of (by decide) (Nat.le_of_ble_eq_true rfl) (fun X hG F Rr hL => ?_)
  subst hG
  have F : FxT X cX5_meets RX5 2 := F
  show rn X 0 [(0, .ref (gad X.1 23))] [] (gwh h l g r)
  have hc : (chN (h 26) g n) ≤ 9 := Nat.le_trans (chN_le _ _ _) hn
  refine rn_aload_n (np := 1) F dX5_meets_0 rfl rfl <| rn_cV0v (np := 4) F dX5_meets_1 rfl cv_X5_loadsNow wM_X5_109 (fs hF rfl rfl) rfl (c_X5_loadsNow (n := n) hF hn eh hr) (Nat.le_of_ble_eq_true rfl) (Nat.le_of_ble_eq_true rfl) <| rn_hpE gw_33 <| rn_aload_n (np := 5) F dX5_meets_4 rfl rfl <| rn_cV0i (np := 8) F dX5_meets_5 rfl cv_X5_isSafe wM_X5_125 (fs hF rfl rfl) rfl (c_X5_isSafe hF) (Nat.le_of_ble_eq_true rfl) (Nat.le_of_ble_eq_true rfl) <| rn_if_ne (tg := 12) (np := 11) F dX5_meets_8 rfl rfl (fun c8 => ?_) (fun c8 => rn_vret F Rr dX5_meets_11 ?_)
  · by_cases hs0 : bP (sT (h 32) g fu n) = 0
    · exact absurd ((bP_iff (gw_sf ef)).trans hs0) c8
    have em : mtR (h 32) (h 28) (h 26) fu n g r = mtG r (gT (h 32) g (h 28) n) (chN (h 26) g n) n g := if_neg hs0
    rw [em] at Rr
    have k139 : rn X 139 [(0, .ref (gad X.1 23)), (1, .int (gT (h 32) g (h 28) n)), (2, .int (nI (chN (h 26) g n)))] [] (gwh h (lnF (gwh h l g r) n) g (mt23 r.1 (gT (h 32) g (h 28) n), r.2)) := by
      have k158 : (r.2.1 (chN (h 26) g n) < 0 ∨ (gT (h 32) g (h 28) n) < r.2.1 (chN (h 26) g n)) → rn X 167 [(0, .ref (gad X.1 23)), (1, .int (gT (h 32) g (h 28) n)), (2, .int (nI (chN (h 26) g n))), (3, .int (nI 0))] [] (gwh h (lnF (gwh h l g r) n) g (mt23 r.1 (gT (h 32) g (h 28) n), upd r.2.1 (chN (h 26) g n) (gT (h 32) g (h 28) n), r.2.2)) := by
        intro hd
        have z := l2_X5_meets (h := gwh h (lnF (gwh h l g r) n) g (mt23 r.1 (gT (h 32) g (h 28) n), upd r.2.1 (chN (h 26) g n) (gT (h 32) g (h 28) n), r.2.2)) (n := n) (c := (chN (h 26) g n)) (lo1 := .int (gT (h 32) g (h 28) n)) hF F Rr hL hn hc (show mt23 r.1 (gT (h 32) g (h 28) n) 4 = nI n by rw [mt23_o _ _ (by decide) (by decide) (by decide)]; exact eh) ⟨rfl, by
          rw [gw_35]
          unfold mtG
          rw [if_pos hd, if_pos hd]
          rfl⟩ (n + 1) 0 (by omega) (by omega)
        have e : va_up (gwh h (lnF (gwh h l g r) n) g (mt23 r.1 (gT (h 32) g (h 28) n), upd r.2.1 (chN (h 26) g n) (gT (h 32) g (h 28) n), r.2.2)) 35 (pcF (gwh h (lnF (gwh h l g r) n) g (mt23 r.1 (gT (h 32) g (h 28) n), upd r.2.1 (chN (h 26) g n) (gT (h 32) g (h 28) n), r.2.2) 35) (chN (h 26) g n) (gwh h (lnF (gwh h l g r) n) g (mt23 r.1 (gT (h 32) g (h 28) n), upd r.2.1 (chN (h 26) g n) (gT (h 32) g (h 28) n), r.2.2) 34) 0) = gwh h (lnF (gwh h l g r) n) g (mt23 r.1 (gT (h 32) g (h 28) n), upd r.2.1 (chN (h 26) g n) (gT (h 32) g (h 28) n), r.2.2) := by
          rw [pc_0]; exact up_id _ _
        rw [e] at z
        exact z
      refine rn_aload_n (np := 140) F dX5_meets_139 rfl rfl <| rn_getr (np := 143) F dX5_meets_140 rfl fF_X5_50 (fs hF rfl rfl) rfl <| rn_iload_n (np := 144) F dX5_meets_143 rfl rfl <| rn_ialdN (np := 145) F dX5_meets_144 rfl (fs hF rfl rfl) rfl (by omega) <| rn_if_lt (tg := 158) (np := 148) F dX5_meets_145 rfl rfl (fun c145 => rn_aload_n (np := 159) F dX5_meets_158 rfl rfl <| rn_getr (np := 162) F dX5_meets_159 rfl fF_X5_50 (fs hF rfl rfl) rfl <| rn_iload_n (np := 163) F dX5_meets_162 rfl rfl <| rn_iload_n (np := 164) F dX5_meets_163 rfl rfl <| rn_iastN (np := 165) F dX5_meets_164 rfl (fs hF rfl rfl) rfl (by omega) <| rn_hpE gw_36 <| rn_iconst (np := 166) (v := nI 0) F dX5_meets_165 rfl rfl <| rn_istore_n (np := 167) F dX5_meets_166 rfl hL rfl <| ?_) (fun c145 => rn_iload_n (np := 149) F dX5_meets_148 rfl rfl <| rn_aload_n (np := 150) F dX5_meets_149 rfl rfl <| rn_getr (np := 153) F dX5_meets_150 rfl fF_X5_50 (fs hF rfl rfl) rfl <| rn_iload_n (np := 154) F dX5_meets_153 rfl rfl <| rn_ialdN (np := 155) F dX5_meets_154 rfl (fs hF rfl rfl) rfl (by omega) <| rn_icmp_ge (tg := 198) (np := 158) F dX5_meets_155 rfl rfl (fun c155 => rn_vret F Rr dX5_meets_198 ?_) (fun c155 => rn_aload_n (np := 159) F dX5_meets_158 rfl rfl <| rn_getr (np := 162) F dX5_meets_159 rfl fF_X5_50 (fs hF rfl rfl) rfl <| rn_iload_n (np := 163) F dX5_meets_162 rfl rfl <| rn_iload_n (np := 164) F dX5_meets_163 rfl rfl <| rn_iastN (np := 165) F dX5_meets_164 rfl (fs hF rfl rfl) rfl (by omega) <| rn_hpE gw_36 <| rn_iconst (np := 166) (v := nI 0) F dX5_meets_165 rfl rfl <| rn_istore_n (np := 167) F dX5_meets_166 rfl hL rfl <| ?_))
      · exact k158 (Or.inl c145)
      · refine ⟨rfl, ?_⟩
        have hd : ¬ (r.2.1 (chN (h 26) g n) < 0 ∨ (gT (h 32) g (h 28) n) < r.2.1 (chN (h 26) g n)) := fun q => q.elim c145 (fun q => Int32.not_lt.mpr c155 q)
        unfold mtG
        rw [if_neg hd, if_neg hd]
      · exact k158 (Or.inr (Int32.not_le.mp c155))
    have k112 : ∀ x, x = (if r.1 18 < 0 ∨ (gT (h 32) g (h 28) n) < r.1 18 then 1 else if (gT (h 32) g (h 28) n) = r.1 18 then r.1 19 + 1 else r.1 19) → rn X 112 [(0, .ref (gad X.1 23)), (1, .int (gT (h 32) g (h 28) n)), (2, .int (nI (chN (h 26) g n)))] [] (gwh h (lnF (gwh h l g r) n) g (upd (upd r.1 17 (r.1 17 + 1)) 19 x, r.2)) := by
      intro x hx
      refine rn_aload_n (np := 113) F dX5_meets_112 rfl rfl <| rn_aload_n (np := 114) F dX5_meets_113 rfl rfl <| rn_getf (np := 117) F dX5_meets_114 rfl fF_X5_164 (fs hF rfl rfl) rfl <| rn_if_lt (tg := 128) (np := 120) F dX5_meets_117 rfl rfl (fun c117 => rn_iload_n (np := 129) F dX5_meets_128 rfl rfl <| rn_goto (np := 136) F dX5_meets_129 rfl <| rn_putf (np := 139) F dX5_meets_136 rfl fP_X5_164 (fs hF rfl rfl) rfl rfl rfl <| rn_hpE gw_23 <| ?_) (fun c117 => rn_iload_n (np := 121) F dX5_meets_120 rfl rfl <| rn_aload_n (np := 122) F dX5_meets_121 rfl rfl <| rn_getf (np := 125) F dX5_meets_122 rfl fF_X5_164 (fs hF rfl rfl) rfl <| rn_icmp_ge (tg := 132) (np := 128) F dX5_meets_125 rfl rfl (fun c125 => rn_aload_n (np := 133) F dX5_meets_132 rfl rfl <| rn_getf (np := 136) F dX5_meets_133 rfl fF_X5_164 (fs hF rfl rfl) rfl <| rn_putf (np := 139) F dX5_meets_136 rfl fP_X5_164 (fs hF rfl rfl) rfl rfl rfl <| rn_hpE gw_23 <| ?_) (fun c125 => rn_iload_n (np := 129) F dX5_meets_128 rfl rfl <| rn_goto (np := 136) F dX5_meets_129 rfl <| rn_putf (np := 139) F dX5_meets_136 rfl fP_X5_164 (fs hF rfl rfl) rfl rfl rfl <| rn_hpE gw_23 <| ?_))
      · have e : mt23 r.1 (gT (h 32) g (h 28) n) = upd (upd (upd r.1 17 (r.1 17 + 1)) 19 x) 18 (gT (h 32) g (h 28) n) := by
          unfold mt23; rw [← hx, if_pos (Or.inl (show r.1 18 < 0 from c117))]
        rw [e] at k139; exact k139
      · have e : mt23 r.1 (gT (h 32) g (h 28) n) = upd (upd (upd r.1 17 (r.1 17 + 1)) 19 x) 18 (r.1 18) := by
          unfold mt23; rw [← hx, if_neg (fun q => q.elim c117 (fun q => Int32.not_lt.mpr c125 q))]
        rw [e] at k139; exact k139
      · have e : mt23 r.1 (gT (h 32) g (h 28) n) = upd (upd (upd r.1 17 (r.1 17 + 1)) 19 x) 18 (gT (h 32) g (h 28) n) := by
          unfold mt23; rw [← hx, if_pos (Or.inr (show (gT (h 32) g (h 28) n) < r.1 18 from Int32.not_le.mp c125))]
        rw [e] at k139; exact k139
    refine rn_aload_n (np := 13) F dX5_meets_12 rfl rfl <| rn_dup (np := 14) F dX5_meets_13 rfl rfl <| rn_getf (np := 17) F dX5_meets_14 rfl fF_X5_161 (fs hF rfl rfl) rfl <| rn_iconst (np := 18) (v := 1) F dX5_meets_17 rfl rfl <| rn_iadd (np := 19) F dX5_meets_18 rfl <| rn_putf (np := 22) F dX5_meets_19 rfl fP_X5_161 (fs hF rfl rfl) rfl rfl rfl <| rn_hpE gw_23 <| rn_aload_n (np := 23) F dX5_meets_22 rfl rfl <| rn_cV0i (np := 26) F dX5_meets_23 rfl cv_X5_griefNow wM_X5_118 (fs hF rfl rfl) rfl (c_X5_griefNow hF) (Nat.le_of_ble_eq_true rfl) (Nat.le_of_ble_eq_true rfl) <| rn_topE gw_gr <| rn_istore_n (np := 27) F dX5_meets_26 rfl hL rfl <| rn_iconst (np := 28) (v := nI 0) F dX5_meets_27 rfl rfl <| rn_istore_n (np := 29) F dX5_meets_28 rfl hL rfl <| rn_iconst (np := 30) (v := nI 0) F dX5_meets_29 rfl rfl <| rn_istore_n (np := 31) F dX5_meets_30 rfl hL rfl <| ?_
    have z := l1_X5_meets (h := gwh h (lnF (gwh h l g r) n) g (upd r.1 17 (r.1 17 + 1), r.2)) (n := n) (g := (gT (h 32) g (h 28) n)) hF F Rr hL hn (show upd r.1 17 (r.1 17 + 1) 4 = nI n by rw [pk_un (by decide)]; exact eh) (by
      refine rn_aload_n (np := 69) F dX5_meets_68 rfl rfl <| rn_aload_n (np := 70) F dX5_meets_69 rfl rfl <| rn_getf (np := 73) F dX5_meets_70 rfl fF_X5_164 (fs hF rfl rfl) rfl <| rn_if_lt (tg := 84) (np := 76) F dX5_meets_73 rfl rfl (fun c73 => rn_iconst (np := 85) (v := 1) F dX5_meets_84 rfl rfl <| rn_goto (np := 109) F dX5_meets_85 rfl <| rn_putf (np := 112) F dX5_meets_109 rfl fP_X5_167 (fs hF rfl rfl) rfl rfl rfl <| rn_hpE gw_23 <| ?_) (fun c73 => rn_iload_n (np := 77) F dX5_meets_76 rfl rfl <| rn_aload_n (np := 78) F dX5_meets_77 rfl rfl <| rn_getf (np := 81) F dX5_meets_78 rfl fF_X5_164 (fs hF rfl rfl) rfl <| rn_icmp_ge (tg := 88) (np := 84) F dX5_meets_81 rfl rfl (fun c81 => rn_iload_n (np := 89) F dX5_meets_88 rfl rfl <| rn_aload_n (np := 90) F dX5_meets_89 rfl rfl <| rn_getf (np := 93) F dX5_meets_90 rfl fF_X5_164 (fs hF rfl rfl) rfl <| rn_icmp_ne (tg := 105) (np := 96) F dX5_meets_93 rfl rfl (fun c93 => rn_aload_n (np := 106) F dX5_meets_105 rfl rfl <| rn_getf (np := 109) F dX5_meets_106 rfl fF_X5_167 (fs hF rfl rfl) rfl <| rn_putf (np := 112) F dX5_meets_109 rfl fP_X5_167 (fs hF rfl rfl) rfl rfl rfl <| rn_hpE gw_23 <| ?_) (fun c93 => rn_aload_n (np := 97) F dX5_meets_96 rfl rfl <| rn_getf (np := 100) F dX5_meets_97 rfl fF_X5_167 (fs hF rfl rfl) rfl <| rn_iconst (np := 101) (v := 1) F dX5_meets_100 rfl rfl <| rn_iadd (np := 102) F dX5_meets_101 rfl <| rn_goto (np := 109) F dX5_meets_102 rfl <| rn_putf (np := 112) F dX5_meets_109 rfl fP_X5_167 (fs hF rfl rfl) rfl rfl rfl <| rn_hpE gw_23 <| ?_)) (fun c81 => rn_iconst (np := 85) (v := 1) F dX5_meets_84 rfl rfl <| rn_goto (np := 109) F dX5_meets_85 rfl <| rn_putf (np := 112) F dX5_meets_109 rfl fP_X5_167 (fs hF rfl rfl) rfl rfl rfl <| rn_hpE gw_23 <| ?_))
      · exact k112 1 (by rw [if_pos (Or.inl (show r.1 18 < 0 from c73))])
      · have hd : ¬ (r.1 18 < 0 ∨ (gT (h 32) g (h 28) n) < r.1 18) := fun q => q.elim c73 (fun q => Int32.not_lt.mpr c81 q)
        exact k112 _ (by rw [if_neg hd, if_neg (show ¬ (gT (h 32) g (h 28) n) = r.1 18 from c93)]; rfl)
      · have hd : ¬ (r.1 18 < 0 ∨ (gT (h 32) g (h 28) n) < r.1 18) := fun q => q.elim c73 (fun q => Int32.not_lt.mpr c81 q)
        exact k112 _ (by rw [if_neg hd, if_pos (show (gT (h 32) g (h 28) n) = r.1 18 from c93)]; rfl)
      · exact k112 1 (by rw [if_pos (Or.inr (show (gT (h 32) g (h 28) n) < r.1 18 from Int32.not_le.mp c81))])) (n + 1) 0 (by omega) (by omega)
    exact z
  · by_cases hs0 : bP (sT (h 32) g fu n) = 0
    · exact ⟨rfl, by unfold mtR; rw [if_pos hs0]⟩
    · exact absurd ((bP_iff (gw_sf ef)).symm.trans c8) hs0
