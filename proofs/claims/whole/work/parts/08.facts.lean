section RM
variable {X : XxT} {cc : ByteArray} {own : String} {dd pc np : Nat} {lo : List (Nat × Value)} {st : List Value} {h : HpT}
theorem rn_ialdN (F : FxT X cc own dd) {q0 n j : Nat} {x : Int32} (dg : decode cc pc = .ok (.iaload, 1)) (hn : pc + 1 = np) (hs : shp X.1 q0 (.inl n)) (hx : x = nI j) (hj : j < n ∧ j < 2147483648) (k : rn X np lo (.int (h q0 j) :: st) h) : rn X pc lo (.int x :: .ref (gad X.1 q0) :: st) h := by
  subst hx
  refine rn_iald F dg hn hs ?_ ?_
  · exact vp_in_iff.mpr ⟨by rw [nI_toInt hj.2]; omega, by rw [nI_toInt hj.2]; omega⟩
  · rw [nI_clamp hj.2]; exact k
theorem rn_ialdE (F : FxT X cc own dd) {q0 n j : Nat} {x v : Int32} (dg : decode cc pc = .ok (.iaload, 1)) (hn : pc + 1 = np) (hs : shp X.1 q0 (.inl n)) (hx : x = nI j) (hj : j < n ∧ j < 2147483648) (e : h q0 j = v) (k : rn X np lo (.int v :: st) h) : rn X pc lo (.int x :: .ref (gad X.1 q0) :: st) h := rn_ialdN F dg hn hs hx hj (e ▸ k)
theorem rn_iastN (F : FxT X cc own dd) {q0 n j : Nat} {x v : Int32} (dg : decode cc pc = .ok (.iastore, 1)) (hn : pc + 1 = np) (hsh : shp X.1 q0 (.inl n)) (hx : x = nI j) (hj : j < n ∧ j < 2147483648) (k : rn X np lo st (hs h q0 j v)) : rn X pc lo (.int v :: .int x :: .ref (gad X.1 q0) :: st) h := by
  subst hx
  refine rn_iast F dg hn hsh ?_ ?_
  · exact vp_in_iff.mpr ⟨by rw [nI_toInt hj.2]; omega, by rw [nI_toInt hj.2]; omega⟩
  · rw [nI_clamp hj.2]; exact k
theorem rn_getfE (F : FxT X cc own dd) {idx ci j q0 : Nat} {fs : List (Option Nat)} {v : Int32} (dg : decode cc pc = .ok (.getfield idx, 3)) (hn : pc + 3 = np) (hf : FdT own idx ci j) (hs : shp X.1 q0 (.inr (ci, fs))) (hj : fs[j]? = some none) (e : h q0 j = v) (k : rn X np lo (.int v :: st) h) : rn X pc lo (.ref (gad X.1 q0) :: st) h := rn_getf F dg hn hf hs hj (e ▸ k)
theorem rn_iincN (F : FxT X cc own dd) {i nl j : Nat} (dg : decode cc pc = .ok (.iinc i 1, 3)) (hn : pc + 3 = np) (hf : lfind lo i = some (.int (nI j))) (hL : X.2.2.2.2.2.2.2.2.2.2.2.2.2.1 = nl) (hnb : Nat.blt i nl = true) (k : rn X np (lset lo i (.int (nI (j + 1)))) st h) : rn X pc lo st h := rn_iinc F dg hn hf (v := 1) rfl hL hnb (by rw [nI_1]; exact k)
theorem rn_Nge (F : FxT X cc own dd) {off : Int} {tg a b : Nat} {x y : Int32} (dg : decode cc pc = .ok (.if_icmp .ge off, 3)) (ht : (pc : Int) + off = (tg : Int)) (hn : pc + 3 = np) (hx : x = nI a) (hy : y = nI b) (hab : a < 2147483648 ∧ b < 2147483648) (kt : b ≤ a → rn X tg lo st h) (kf : ¬ b ≤ a → rn X np lo st h) : rn X pc lo (.int y :: .int x :: st) h := by
  subst hx hy
  obtain ⟨ha, hb⟩ := hab
  exact rn_icmp_ge F dg ht hn (fun q => kt ((nI_leI hb ha).mp q)) (fun q => kf (fun z => q ((nI_leI hb ha).mpr z)))
theorem rn_Ngt (F : FxT X cc own dd) {off : Int} {tg a b : Nat} {x y : Int32} (dg : decode cc pc = .ok (.if_icmp .gt off, 3)) (ht : (pc : Int) + off = (tg : Int)) (hn : pc + 3 = np) (hx : x = nI a) (hy : y = nI b) (hab : a < 2147483648 ∧ b < 2147483648) (kt : b < a → rn X tg lo st h) (kf : ¬ b < a → rn X np lo st h) : rn X pc lo (.int y :: .int x :: st) h := by
  subst hx hy
  obtain ⟨ha, hb⟩ := hab
  exact rn_icmp_gt F dg ht hn (fun q => kt ((nI_ltI hb ha).mp q)) (fun q => kf (fun z => q ((nI_ltI hb ha).mpr z)))
theorem rn_Nlt (F : FxT X cc own dd) {off : Int} {tg a b : Nat} {x y : Int32} (dg : decode cc pc = .ok (.if_icmp .lt off, 3)) (ht : (pc : Int) + off = (tg : Int)) (hn : pc + 3 = np) (hx : x = nI a) (hy : y = nI b) (hab : a < 2147483648 ∧ b < 2147483648) (kt : a < b → rn X tg lo st h) (kf : ¬ a < b → rn X np lo st h) : rn X pc lo (.int y :: .int x :: st) h := by
  subst hx hy
  obtain ⟨ha, hb⟩ := hab
  exact rn_icmp_lt F dg ht hn (fun q => kt ((nI_ltI ha hb).mp q)) (fun q => kf (fun z => q ((nI_ltI ha hb).mpr z)))
theorem rn_Nle (F : FxT X cc own dd) {off : Int} {tg a b : Nat} {x y : Int32} (dg : decode cc pc = .ok (.if_icmp .le off, 3)) (ht : (pc : Int) + off = (tg : Int)) (hn : pc + 3 = np) (hx : x = nI a) (hy : y = nI b) (hab : a < 2147483648 ∧ b < 2147483648) (kt : a ≤ b → rn X tg lo st h) (kf : ¬ a ≤ b → rn X np lo st h) : rn X pc lo (.int y :: .int x :: st) h := by
  subst hx hy
  obtain ⟨ha, hb⟩ := hab
  exact rn_icmp_le F dg ht hn (fun q => kt ((nI_leI ha hb).mp q)) (fun q => kf (fun z => q ((nI_leI ha hb).mpr z)))
theorem rn_Neq (F : FxT X cc own dd) {off : Int} {tg a b : Nat} {x y : Int32} (dg : decode cc pc = .ok (.if_icmp .eq off, 3)) (ht : (pc : Int) + off = (tg : Int)) (hn : pc + 3 = np) (hx : x = nI a) (hy : y = nI b) (hab : a < 2147483648 ∧ b < 2147483648) (kt : a = b → rn X tg lo st h) (kf : ¬ a = b → rn X np lo st h) : rn X pc lo (.int y :: .int x :: st) h := by
  subst hx hy
  obtain ⟨ha, hb⟩ := hab
  exact rn_icmp_eq F dg ht hn (fun q => kt ((nI_eq ha hb).mp q)) (fun q => kf (fun z => q ((nI_eq ha hb).mpr z)))
theorem rn_Nne (F : FxT X cc own dd) {off : Int} {tg a b : Nat} {x y : Int32} (dg : decode cc pc = .ok (.if_icmp .ne off, 3)) (ht : (pc : Int) + off = (tg : Int)) (hn : pc + 3 = np) (hx : x = nI a) (hy : y = nI b) (hab : a < 2147483648 ∧ b < 2147483648) (kt : ¬ a = b → rn X tg lo st h) (kf : a = b → rn X np lo st h) : rn X pc lo (.int y :: .int x :: st) h := by
  subst hx hy
  obtain ⟨ha, hb⟩ := hab
  exact rn_icmp_ne F dg ht hn (fun q => kt (fun z => q ((nI_eq ha hb).mpr z))) (fun q => kf ((nI_eq ha hb).mp q))
theorem rn_topE {x v : Int32} (e : x = v) (k : rn X pc lo (.int v :: st) h) : rn X pc lo (.int x :: st) h := e ▸ k
theorem rn_pick (ks : List Nat) {lo2 : List (Nat × Value)} (hl2 : lv_pick lo ks = lo2) (k : rn X pc lo2 st h) : rn X pc lo st h := by
  obtain ⟨⟨l, N, S, ad, cA, D, tT⟩, p, e, R, s, m, args, below, meth, c, cells, slots, Q, nL, A⟩ := X
  intro H locs ls hP hS hl
  exact k H locs ls hP hS (lv_sub hl ks hl2)
theorem rn_hpE {h2 : HpT} (e : h = h2) (k : rn X pc lo st h2) : rn X pc lo st h := e ▸ k
end RM
/-- the shape of the whole world -/
def SHF : ShT := fun k => match k with
  | 0 => .inr (4, [some 1, some 11, some 20, some 21, none, none, none])
  | 1 => .inr (2, [some 2, some 3, some 4, some 5, some 6, some 7, some 8, some 9, some 10, none, none, none])
  | 2 => .inl 9
  | 3 => .inl 9
  | 4 => .inl 9
  | 5 => .inl 9
  | 6 => .inl 9
  | 7 => .inl 6
  | 8 => .inl 6
  | 9 => .inl 6
  | 10 => .inl 18
  | 11 => .inr (0, [some 12, some 13, none, some 1, some 14, some 15, some 16, some 17, some 18, some 19, none, none, none, none])
  | 12 => .inl 10
  | 13 => .inl 10
  | 14 => .inl 9
  | 15 => .inl 54
  | 16 => .inl 81
  | 17 => .inl 27
  | 18 => .inl 18
  | 19 => .inl 6
  | 20 => .inr (1, [none, none, none, none, none, some 1])
  | 21 => .inr (3, [none, some 22])
  | 22 => .inl 8
  | 23 => .inr (5, [some 24, some 25, some 26, some 27, none, some 28, none, some 29, none, some 30, none, some 31, some 32, some 33, some 34, some 35, some 36, none, none, none, some 37])
  | 24 => .inl 9
  | 25 => .inl 9
  | 26 => .inl 9
  | 27 => .inl 9
  | 28 => .inl 6
  | 29 => .inl 12
  | 30 => .inl 72
  | 31 => .inl 3
  | 32 => .inl 54
  | 33 => .inl 18
  | 34 => .inl 9
  | 35 => .inl 90
  | 36 => .inl 10
  | 37 => .inl 4
  | _ => .inl 0
def Full (G : GxT) : Prop := G.2.1 = 38 ∧ G.2.2.1 = SHF
theorem fs {G : GxT} (hF : Full G) {k : Nat} {s : Nat ⊕ (Nat × List (Option Nat))} (hk : Nat.blt k 38 = true) (hh : SHF k = s) : shp G k s := ⟨by rw [hF.1]; exact Nat.le_of_ble_eq_true hk, by rw [hF.2]; exact hh⟩
theorem fF_X2_9 : FdT RX2 9 2 0 := ⟨RX2, TX2, 12, rfl, wU_X2, by decide, wF_X2_9⟩
theorem fF_X4_129 : FdT RX4 129 2 0 := ⟨RX2, TX2, 12, rfl, wU_X2, by decide, wF_X4_129⟩
theorem fF_X2_15 : FdT RX2 15 2 1 := ⟨RX2, TX2, 12, rfl, wU_X2, by decide, wF_X2_15⟩
theorem fF_X4_132 : FdT RX4 132 2 1 := ⟨RX2, TX2, 12, rfl, wU_X2, by decide, wF_X4_132⟩
theorem fF_X2_18 : FdT RX2 18 2 2 := ⟨RX2, TX2, 12, rfl, wU_X2, by decide, wF_X2_18⟩
theorem fF_X1_66 : FdT RX1 66 2 2 := ⟨RX2, TX2, 12, rfl, wU_X2, by decide, wF_X1_66⟩
theorem fF_X4_135 : FdT RX4 135 2 2 := ⟨RX2, TX2, 12, rfl, wU_X2, by decide, wF_X4_135⟩
theorem fF_X0_121 : FdT RX0 121 2 2 := ⟨RX2, TX2, 12, rfl, wU_X2, by decide, wF_X0_121⟩
theorem fF_X2_21 : FdT RX2 21 2 3 := ⟨RX2, TX2, 12, rfl, wU_X2, by decide, wF_X2_21⟩
theorem fF_X1_59 : FdT RX1 59 2 3 := ⟨RX2, TX2, 12, rfl, wU_X2, by decide, wF_X1_59⟩
theorem fF_X4_138 : FdT RX4 138 2 3 := ⟨RX2, TX2, 12, rfl, wU_X2, by decide, wF_X4_138⟩
theorem fF_X0_124 : FdT RX0 124 2 3 := ⟨RX2, TX2, 12, rfl, wU_X2, by decide, wF_X0_124⟩
theorem fF_X2_24 : FdT RX2 24 2 4 := ⟨RX2, TX2, 12, rfl, wU_X2, by decide, wF_X2_24⟩
theorem fF_X4_91 : FdT RX4 91 2 4 := ⟨RX2, TX2, 12, rfl, wU_X2, by decide, wF_X4_91⟩
theorem fF_X0_127 : FdT RX0 127 2 4 := ⟨RX2, TX2, 12, rfl, wU_X2, by decide, wF_X0_127⟩
theorem fF_X2_27 : FdT RX2 27 2 5 := ⟨RX2, TX2, 12, rfl, wU_X2, by decide, wF_X2_27⟩
theorem fF_X4_243 : FdT RX4 243 2 5 := ⟨RX2, TX2, 12, rfl, wU_X2, by decide, wF_X4_243⟩
theorem fF_X2_30 : FdT RX2 30 2 6 := ⟨RX2, TX2, 12, rfl, wU_X2, by decide, wF_X2_30⟩
theorem fF_X4_246 : FdT RX4 246 2 6 := ⟨RX2, TX2, 12, rfl, wU_X2, by decide, wF_X4_246⟩
theorem fF_X2_33 : FdT RX2 33 2 7 := ⟨RX2, TX2, 12, rfl, wU_X2, by decide, wF_X2_33⟩
theorem fF_X4_81 : FdT RX4 81 2 7 := ⟨RX2, TX2, 12, rfl, wU_X2, by decide, wF_X4_81⟩
theorem fF_X0_103 : FdT RX0 103 2 7 := ⟨RX2, TX2, 12, rfl, wU_X2, by decide, wF_X0_103⟩
theorem fF_X2_36 : FdT RX2 36 2 8 := ⟨RX2, TX2, 12, rfl, wU_X2, by decide, wF_X2_36⟩
theorem fF_X1_19 : FdT RX1 19 2 9 := ⟨RX2, TX2, 12, rfl, wU_X2, by decide, wF_X1_19⟩
theorem fP_X1_19 : FpT RX1 19 2 9 .int := ⟨RX2, TX2, 12, tyX2, rfl, wU_X2, by decide, wF_X1_19, tyX2_ok, nmX2, rfl, by decide +kernel⟩
theorem fF_X4_53 : FdT RX4 53 2 9 := ⟨RX2, TX2, 12, rfl, wU_X2, by decide, wF_X4_53⟩
theorem fP_X4_53 : FpT RX4 53 2 9 .int := ⟨RX2, TX2, 12, tyX2, rfl, wU_X2, by decide, wF_X4_53, tyX2_ok, nmX2, rfl, by decide +kernel⟩
theorem fF_X2_52 : FdT RX2 52 2 9 := ⟨RX2, TX2, 12, rfl, wU_X2, by decide, wF_X2_52⟩
theorem fP_X2_52 : FpT RX2 52 2 9 .int := ⟨RX2, TX2, 12, tyX2, rfl, wU_X2, by decide, wF_X2_52, tyX2_ok, nmX2, rfl, by decide +kernel⟩
theorem fF_X0_80 : FdT RX0 80 2 9 := ⟨RX2, TX2, 12, rfl, wU_X2, by decide, wF_X0_80⟩
theorem fP_X0_80 : FpT RX0 80 2 9 .int := ⟨RX2, TX2, 12, tyX2, rfl, wU_X2, by decide, wF_X0_80, tyX2_ok, nmX2, rfl, by decide +kernel⟩
theorem fF_X4_94 : FdT RX4 94 2 10 := ⟨RX2, TX2, 12, rfl, wU_X2, by decide, wF_X4_94⟩
theorem fP_X4_94 : FpT RX4 94 2 10 .int := ⟨RX2, TX2, 12, tyX2, rfl, wU_X2, by decide, wF_X4_94, tyX2_ok, nmX2, rfl, by decide +kernel⟩
theorem fF_X2_69 : FdT RX2 69 2 10 := ⟨RX2, TX2, 12, rfl, wU_X2, by decide, wF_X2_69⟩
theorem fP_X2_69 : FpT RX2 69 2 10 .int := ⟨RX2, TX2, 12, tyX2, rfl, wU_X2, by decide, wF_X2_69, tyX2_ok, nmX2, rfl, by decide +kernel⟩
theorem fF_X2_48 : FdT RX2 48 2 11 := ⟨RX2, TX2, 12, rfl, wU_X2, by decide, wF_X2_48⟩
theorem fP_X2_48 : FpT RX2 48 2 11 .int := ⟨RX2, TX2, 12, tyX2, rfl, wU_X2, by decide, wF_X2_48, tyX2_ok, nmX2, rfl, by decide +kernel⟩
theorem fF_X4_85 : FdT RX4 85 2 11 := ⟨RX2, TX2, 12, rfl, wU_X2, by decide, wF_X4_85⟩
theorem fP_X4_85 : FpT RX4 85 2 11 .int := ⟨RX2, TX2, 12, tyX2, rfl, wU_X2, by decide, wF_X4_85, tyX2_ok, nmX2, rfl, by decide +kernel⟩
theorem fF_X0_97 : FdT RX0 97 2 11 := ⟨RX2, TX2, 12, rfl, wU_X2, by decide, wF_X0_97⟩
theorem fP_X0_97 : FpT RX0 97 2 11 .int := ⟨RX2, TX2, 12, tyX2, rfl, wU_X2, by decide, wF_X0_97, tyX2_ok, nmX2, rfl, by decide +kernel⟩
theorem fF_X0_9 : FdT RX0 9 0 0 := ⟨RX0, TX0, 14, rfl, wU_X0, by decide, wF_X0_9⟩
theorem fF_X4_205 : FdT RX4 205 0 0 := ⟨RX0, TX0, 14, rfl, wU_X0, by decide, wF_X4_205⟩
theorem fF_X0_15 : FdT RX0 15 0 1 := ⟨RX0, TX0, 14, rfl, wU_X0, by decide, wF_X0_15⟩
theorem fF_X4_189 : FdT RX4 189 0 1 := ⟨RX0, TX0, 14, rfl, wU_X0, by decide, wF_X4_189⟩
theorem fF_X0_57 : FdT RX0 57 0 2 := ⟨RX0, TX0, 14, rfl, wU_X0, by decide, wF_X0_57⟩
theorem fP_X0_57 : FpT RX0 57 0 2 .int := ⟨RX0, TX0, 14, tyX0, rfl, wU_X0, by decide, wF_X0_57, tyX0_ok, nmX0, rfl, by decide +kernel⟩
theorem fF_X4_208 : FdT RX4 208 0 2 := ⟨RX0, TX0, 14, rfl, wU_X0, by decide, wF_X4_208⟩
theorem fP_X4_208 : FpT RX4 208 0 2 .int := ⟨RX0, TX0, 14, tyX0, rfl, wU_X0, by decide, wF_X4_208, tyX0_ok, nmX0, rfl, by decide +kernel⟩
theorem fF_X0_36 : FdT RX0 36 0 3 := ⟨RX0, TX0, 14, rfl, wU_X0, by decide, wF_X0_36⟩
theorem fF_X0_18 : FdT RX0 18 0 4 := ⟨RX0, TX0, 14, rfl, wU_X0, by decide, wF_X0_18⟩
theorem fF_X0_21 : FdT RX0 21 0 5 := ⟨RX0, TX0, 14, rfl, wU_X0, by decide, wF_X0_21⟩
theorem fF_X0_24 : FdT RX0 24 0 6 := ⟨RX0, TX0, 14, rfl, wU_X0, by decide, wF_X0_24⟩
theorem fF_X0_27 : FdT RX0 27 0 7 := ⟨RX0, TX0, 14, rfl, wU_X0, by decide, wF_X0_27⟩
theorem fF_X0_30 : FdT RX0 30 0 8 := ⟨RX0, TX0, 14, rfl, wU_X0, by decide, wF_X0_30⟩
theorem fF_X0_33 : FdT RX0 33 0 9 := ⟨RX0, TX0, 14, rfl, wU_X0, by decide, wF_X0_33⟩
theorem fF_X0_89 : FdT RX0 89 0 10 := ⟨RX0, TX0, 14, rfl, wU_X0, by decide, wF_X0_89⟩
theorem fP_X0_89 : FpT RX0 89 0 10 .int := ⟨RX0, TX0, 14, tyX0, rfl, wU_X0, by decide, wF_X0_89, tyX0_ok, nmX0, rfl, by decide +kernel⟩
theorem fF_X0_47 : FdT RX0 47 0 11 := ⟨RX0, TX0, 14, rfl, wU_X0, by decide, wF_X0_47⟩
theorem fP_X0_47 : FpT RX0 47 0 11 .int := ⟨RX0, TX0, 14, tyX0, rfl, wU_X0, by decide, wF_X0_47, tyX0_ok, nmX0, rfl, by decide +kernel⟩
theorem fF_X0_60 : FdT RX0 60 0 12 := ⟨RX0, TX0, 14, rfl, wU_X0, by decide, wF_X0_60⟩
theorem fP_X0_60 : FpT RX0 60 0 12 .int := ⟨RX0, TX0, 14, tyX0, rfl, wU_X0, by decide, wF_X0_60, tyX0_ok, nmX0, rfl, by decide +kernel⟩
theorem fF_X0_40 : FdT RX0 40 0 13 := ⟨RX0, TX0, 14, rfl, wU_X0, by decide, wF_X0_40⟩
theorem fP_X0_40 : FpT RX0 40 0 13 .boolean := ⟨RX0, TX0, 14, tyX0, rfl, wU_X0, by decide, wF_X0_40, tyX0_ok, nmX0, rfl, by decide +kernel⟩
theorem fF_X1_15 : FdT RX1 15 1 0 := ⟨RX1, TX1, 6, rfl, wU_X1, by decide, wF_X1_15⟩
theorem fP_X1_15 : FpT RX1 15 1 0 .boolean := ⟨RX1, TX1, 6, tyX1, rfl, wU_X1, by decide, wF_X1_15, tyX1_ok, nmX1, rfl, by decide +kernel⟩
theorem fF_X4_220 : FdT RX4 220 1 0 := ⟨RX1, TX1, 6, rfl, wU_X1, by decide, wF_X4_220⟩
theorem fP_X4_220 : FpT RX4 220 1 0 .boolean := ⟨RX1, TX1, 6, tyX1, rfl, wU_X1, by decide, wF_X4_220, tyX1_ok, nmX1, rfl, by decide +kernel⟩
theorem fF_X1_36 : FdT RX1 36 1 1 := ⟨RX1, TX1, 6, rfl, wU_X1, by decide, wF_X1_36⟩
theorem fP_X1_36 : FpT RX1 36 1 1 .int := ⟨RX1, TX1, 6, tyX1, rfl, wU_X1, by decide, wF_X1_36, tyX1_ok, nmX1, rfl, by decide +kernel⟩
theorem fF_X4_224 : FdT RX4 224 1 1 := ⟨RX1, TX1, 6, rfl, wU_X1, by decide, wF_X4_224⟩
theorem fP_X4_224 : FpT RX4 224 1 1 .int := ⟨RX1, TX1, 6, tyX1, rfl, wU_X1, by decide, wF_X4_224, tyX1_ok, nmX1, rfl, by decide +kernel⟩
theorem fF_X1_43 : FdT RX1 43 1 2 := ⟨RX1, TX1, 6, rfl, wU_X1, by decide, wF_X1_43⟩
theorem fP_X1_43 : FpT RX1 43 1 2 .int := ⟨RX1, TX1, 6, tyX1, rfl, wU_X1, by decide, wF_X1_43, tyX1_ok, nmX1, rfl, by decide +kernel⟩
theorem fF_X4_227 : FdT RX4 227 1 2 := ⟨RX1, TX1, 6, rfl, wU_X1, by decide, wF_X4_227⟩
theorem fP_X4_227 : FpT RX4 227 1 2 .int := ⟨RX1, TX1, 6, tyX1, rfl, wU_X1, by decide, wF_X4_227, tyX1_ok, nmX1, rfl, by decide +kernel⟩
theorem fF_X1_46 : FdT RX1 46 1 3 := ⟨RX1, TX1, 6, rfl, wU_X1, by decide, wF_X1_46⟩
theorem fP_X1_46 : FpT RX1 46 1 3 .int := ⟨RX1, TX1, 6, tyX1, rfl, wU_X1, by decide, wF_X1_46, tyX1_ok, nmX1, rfl, by decide +kernel⟩
theorem fF_X4_230 : FdT RX4 230 1 3 := ⟨RX1, TX1, 6, rfl, wU_X1, by decide, wF_X4_230⟩
theorem fP_X4_230 : FpT RX4 230 1 3 .int := ⟨RX1, TX1, 6, tyX1, rfl, wU_X1, by decide, wF_X4_230, tyX1_ok, nmX1, rfl, by decide +kernel⟩
theorem fF_X1_49 : FdT RX1 49 1 4 := ⟨RX1, TX1, 6, rfl, wU_X1, by decide, wF_X1_49⟩
theorem fP_X1_49 : FpT RX1 49 1 4 .int := ⟨RX1, TX1, 6, tyX1, rfl, wU_X1, by decide, wF_X1_49, tyX1_ok, nmX1, rfl, by decide +kernel⟩
theorem fF_X4_233 : FdT RX4 233 1 4 := ⟨RX1, TX1, 6, rfl, wU_X1, by decide, wF_X4_233⟩
theorem fP_X4_233 : FpT RX4 233 1 4 .int := ⟨RX1, TX1, 6, tyX1, rfl, wU_X1, by decide, wF_X4_233, tyX1_ok, nmX1, rfl, by decide +kernel⟩
theorem fF_X1_9 : FdT RX1 9 1 5 := ⟨RX1, TX1, 6, rfl, wU_X1, by decide, wF_X1_9⟩
theorem fF_X3_15 : FdT RX3 15 3 0 := ⟨RX3, TX3, 2, rfl, wU_X3, by decide, wF_X3_15⟩
theorem fP_X3_15 : FpT RX3 15 3 0 .int := ⟨RX3, TX3, 2, tyX3, rfl, wU_X3, by decide, wF_X3_15, tyX3_ok, nmX3, rfl, by decide +kernel⟩
theorem fF_X4_196 : FdT RX4 196 3 0 := ⟨RX3, TX3, 2, rfl, wU_X3, by decide, wF_X4_196⟩
theorem fP_X4_196 : FpT RX4 196 3 0 .int := ⟨RX3, TX3, 2, tyX3, rfl, wU_X3, by decide, wF_X4_196, tyX3_ok, nmX3, rfl, by decide +kernel⟩
theorem fF_X3_9 : FdT RX3 9 3 1 := ⟨RX3, TX3, 2, rfl, wU_X3, by decide, wF_X3_9⟩
theorem fF_X4_10 : FdT RX4 10 4 0 := ⟨RX4, TX4, 7, rfl, wU_X4, by decide, wF_X4_10⟩
theorem fF_X4_21 : FdT RX4 21 4 1 := ⟨RX4, TX4, 7, rfl, wU_X4, by decide, wF_X4_21⟩
theorem fF_X4_28 : FdT RX4 28 4 2 := ⟨RX4, TX4, 7, rfl, wU_X4, by decide, wF_X4_28⟩
theorem fF_X4_35 : FdT RX4 35 4 3 := ⟨RX4, TX4, 7, rfl, wU_X4, by decide, wF_X4_35⟩
theorem fF_X4_249 : FdT RX4 249 4 4 := ⟨RX4, TX4, 7, rfl, wU_X4, by decide, wF_X4_249⟩
theorem fP_X4_249 : FpT RX4 249 4 4 .int := ⟨RX4, TX4, 7, tyX4, rfl, wU_X4, by decide, wF_X4_249, tyX4_ok, nmX4, rfl, by decide +kernel⟩
theorem fF_X4_252 : FdT RX4 252 4 5 := ⟨RX4, TX4, 7, rfl, wU_X4, by decide, wF_X4_252⟩
theorem fP_X4_252 : FpT RX4 252 4 5 .int := ⟨RX4, TX4, 7, tyX4, rfl, wU_X4, by decide, wF_X4_252, tyX4_ok, nmX4, rfl, by decide +kernel⟩
theorem fF_X4_255 : FdT RX4 255 4 6 := ⟨RX4, TX4, 7, rfl, wU_X4, by decide, wF_X4_255⟩
theorem fP_X4_255 : FpT RX4 255 4 6 .int := ⟨RX4, TX4, 7, tyX4, rfl, wU_X4, by decide, wF_X4_255, tyX4_ok, nmX4, rfl, by decide +kernel⟩
theorem fF_X5_7 : FdT RX5 7 5 0 := ⟨RX5, TX5, 21, rfl, wU_X5, by decide, wF_X5_7⟩
theorem fF_X5_13 : FdT RX5 13 5 1 := ⟨RX5, TX5, 21, rfl, wU_X5, by decide, wF_X5_13⟩
theorem fF_X5_16 : FdT RX5 16 5 2 := ⟨RX5, TX5, 21, rfl, wU_X5, by decide, wF_X5_16⟩
theorem fF_X5_19 : FdT RX5 19 5 3 := ⟨RX5, TX5, 21, rfl, wU_X5, by decide, wF_X5_19⟩
theorem fF_X5_56 : FdT RX5 56 5 4 := ⟨RX5, TX5, 21, rfl, wU_X5, by decide, wF_X5_56⟩
theorem fP_X5_56 : FpT RX5 56 5 4 .int := ⟨RX5, TX5, 21, tyX5, rfl, wU_X5, by decide, wF_X5_56, tyX5_ok, nmX5, rfl, by decide +kernel⟩
theorem fF_X5_22 : FdT RX5 22 5 5 := ⟨RX5, TX5, 21, rfl, wU_X5, by decide, wF_X5_22⟩
theorem fF_X5_25 : FdT RX5 25 5 6 := ⟨RX5, TX5, 21, rfl, wU_X5, by decide, wF_X5_25⟩
theorem fP_X5_25 : FpT RX5 25 5 6 .int := ⟨RX5, TX5, 21, tyX5, rfl, wU_X5, by decide, wF_X5_25, tyX5_ok, nmX5, rfl, by decide +kernel⟩
theorem fF_X5_29 : FdT RX5 29 5 7 := ⟨RX5, TX5, 21, rfl, wU_X5, by decide, wF_X5_29⟩
theorem fF_X5_77 : FdT RX5 77 5 8 := ⟨RX5, TX5, 21, rfl, wU_X5, by decide, wF_X5_77⟩
theorem fP_X5_77 : FpT RX5 77 5 8 .int := ⟨RX5, TX5, 21, tyX5, rfl, wU_X5, by decide, wF_X5_77, tyX5_ok, nmX5, rfl, by decide +kernel⟩
theorem fF_X5_32 : FdT RX5 32 5 9 := ⟨RX5, TX5, 21, rfl, wU_X5, by decide, wF_X5_32⟩
theorem fF_X5_67 : FdT RX5 67 5 10 := ⟨RX5, TX5, 21, rfl, wU_X5, by decide, wF_X5_67⟩
theorem fP_X5_67 : FpT RX5 67 5 10 .int := ⟨RX5, TX5, 21, tyX5, rfl, wU_X5, by decide, wF_X5_67, tyX5_ok, nmX5, rfl, by decide +kernel⟩
theorem fF_X5_35 : FdT RX5 35 5 11 := ⟨RX5, TX5, 21, rfl, wU_X5, by decide, wF_X5_35⟩
theorem fF_X5_38 : FdT RX5 38 5 12 := ⟨RX5, TX5, 21, rfl, wU_X5, by decide, wF_X5_38⟩
theorem fF_X5_41 : FdT RX5 41 5 13 := ⟨RX5, TX5, 21, rfl, wU_X5, by decide, wF_X5_41⟩
theorem fF_X5_44 : FdT RX5 44 5 14 := ⟨RX5, TX5, 21, rfl, wU_X5, by decide, wF_X5_44⟩
theorem fF_X5_47 : FdT RX5 47 5 15 := ⟨RX5, TX5, 21, rfl, wU_X5, by decide, wF_X5_47⟩
theorem fF_X5_50 : FdT RX5 50 5 16 := ⟨RX5, TX5, 21, rfl, wU_X5, by decide, wF_X5_50⟩
theorem fF_X5_161 : FdT RX5 161 5 17 := ⟨RX5, TX5, 21, rfl, wU_X5, by decide, wF_X5_161⟩
theorem fP_X5_161 : FpT RX5 161 5 17 .int := ⟨RX5, TX5, 21, tyX5, rfl, wU_X5, by decide, wF_X5_161, tyX5_ok, nmX5, rfl, by decide +kernel⟩
theorem fF_X5_164 : FdT RX5 164 5 18 := ⟨RX5, TX5, 21, rfl, wU_X5, by decide, wF_X5_164⟩
theorem fP_X5_164 : FpT RX5 164 5 18 .int := ⟨RX5, TX5, 21, tyX5, rfl, wU_X5, by decide, wF_X5_164, tyX5_ok, nmX5, rfl, by decide +kernel⟩
theorem fF_X5_167 : FdT RX5 167 5 19 := ⟨RX5, TX5, 21, rfl, wU_X5, by decide, wF_X5_167⟩
theorem fP_X5_167 : FpT RX5 167 5 19 .int := ⟨RX5, TX5, 21, tyX5, rfl, wU_X5, by decide, wF_X5_167, tyX5_ok, nmX5, rfl, by decide +kernel⟩
theorem fF_X5_53 : FdT RX5 53 5 20 := ⟨RX5, TX5, 21, rfl, wU_X5, by decide, wF_X5_53⟩
theorem cv_X2_resetLimits : CvT yX2_resetLimits cX2_resetLimits 1 none 0 := ⟨wI_yX2_resetLimits, wS_yX2_resetLimits, wN_X2, wC_yX2_resetLimits, by decide +kernel, by decide⟩
theorem cs_J7_fill_53178 : CsT yJ7_fill_53178 cJ7_fill_53178 4 none 2 := ⟨wT_yJ7_fill_53178, wN_J7, wC_yJ7_fill_53178, by decide +kernel, by decide⟩
theorem cv_X4_house : CvT yX4_house cX4_house 4 (some .int) 3 := ⟨wI_yX4_house, wS_yX4_house, wN_X4, wC_yX4_house, by decide +kernel, by decide⟩
theorem cs_X4_isSort : CsT yX4_isSort cX4_isSort 1 (some .boolean) 1 := ⟨wT_yX4_isSort, wN_X4, wC_yX4_isSort, by decide +kernel, by decide⟩
theorem cs_X4_isIn : CsT yX4_isIn cX4_isIn 3 (some .boolean) 3 := ⟨wT_yX4_isIn, wN_X4, wC_yX4_isIn, by decide +kernel, by decide⟩
theorem cs_X4_isSize : CsT yX4_isSize cX4_isSize 1 (some .boolean) 1 := ⟨wT_yX4_isSize, wN_X4, wC_yX4_isSize, by decide +kernel, by decide⟩
theorem cs_X4_isPhase : CsT yX4_isPhase cX4_isPhase 1 (some .boolean) 1 := ⟨wT_yX4_isPhase, wN_X4, wC_yX4_isPhase, by decide +kernel, by decide⟩
theorem cv_X4_refuse : CvT yX4_refuse cX4_refuse 2 (some .int) 1 := ⟨wI_yX4_refuse, wS_yX4_refuse, wN_X4, wC_yX4_refuse, by decide +kernel, by decide⟩
theorem cv_X4_streetChanges : CvT yX4_streetChanges cX4_streetChanges 1 none 0 := ⟨wI_yX4_streetChanges, wS_yX4_streetChanges, wN_X4, wC_yX4_streetChanges, by decide +kernel, by decide⟩
theorem cv_X0_forget : CvT yX0_forget cX0_forget 1 none 0 := ⟨wI_yX0_forget, wS_yX0_forget, wN_X0, wC_yX0_forget, by decide +kernel, by decide⟩
theorem cv_X2_addHouse : CvT yX2_addHouse cX2_addHouse 5 (some .int) 3 := ⟨wI_yX2_addHouse, wS_yX2_addHouse, wN_X2, wC_yX2_addHouse, by decide +kernel, by decide⟩
theorem cv_X2_addLoads : CvT yX2_addLoads cX2_addLoads 4 none 2 := ⟨wI_yX2_addLoads, wS_yX2_addLoads, wN_X2, wC_yX2_addLoads, by decide +kernel, by decide⟩
theorem cv_X2_takenBy : CvT yX2_takenBy cX2_takenBy 3 (some .int) 2 := ⟨wI_yX2_takenBy, wS_yX2_takenBy, wN_X2, wC_yX2_takenBy, by decide +kernel, by decide⟩
theorem cv_X4_sets : CvT yX4_sets cX4_sets 4 (some .int) 3 := ⟨wI_yX4_sets, wS_yX4_sets, wN_X4, wC_yX4_sets, by decide +kernel, by decide⟩
theorem cv_X4_isHouse : CvT yX4_isHouse cX4_isHouse 2 (some .boolean) 1 := ⟨wI_yX4_isHouse, wS_yX4_isHouse, wN_X4, wC_yX4_isHouse, by decide +kernel, by decide⟩
theorem cs_X4_isSetting : CsT yX4_isSetting cX4_isSetting 2 (some .boolean) 2 := ⟨wT_yX4_isSetting, wN_X4, wC_yX4_isSetting, by decide +kernel, by decide⟩
theorem cv_X2_setHouse : CvT yX2_setHouse cX2_setHouse 6 (some .int) 3 := ⟨wI_yX2_setHouse, wS_yX2_setHouse, wN_X2, wC_yX2_setHouse, by decide +kernel, by decide⟩
theorem cv_X4_weight : CvT yX4_weight cX4_weight 4 (some .int) 2 := ⟨wI_yX4_weight, wS_yX4_weight, wN_X4, wC_yX4_weight, by decide +kernel, by decide⟩
theorem cs_X4_isHour : CsT yX4_isHour cX4_isHour 1 (some .boolean) 1 := ⟨wT_yX4_isHour, wN_X4, wC_yX4_isHour, by decide +kernel, by decide⟩
theorem cv_X4_fuse : CvT yX4_fuse cX4_fuse 3 (some .int) 1 := ⟨wI_yX4_fuse, wS_yX4_fuse, wN_X4, wC_yX4_fuse, by decide +kernel, by decide⟩
theorem cv_X4_tie : CvT yX4_tie cX4_tie 3 (some .int) 2 := ⟨wI_yX4_tie, wS_yX4_tie, wN_X4, wC_yX4_tie, by decide +kernel, by decide⟩
theorem cv_X4_areTwoHouses : CvT yX4_areTwoHouses cX4_areTwoHouses 3 (some .boolean) 2 := ⟨wI_yX4_areTwoHouses, wS_yX4_areTwoHouses, wN_X4, wC_yX4_areTwoHouses, by decide +kernel, by decide⟩
theorem cv_X2_addPair : CvT yX2_addPair cX2_addPair 6 none 2 := ⟨wI_yX2_addPair, wS_yX2_addPair, wN_X2, wC_yX2_addPair, by decide +kernel, by decide⟩
theorem cv_X4_loosens : CvT yX4_loosens cX4_loosens 2 (some .int) 0 := ⟨wI_yX4_loosens, wS_yX4_loosens, wN_X4, wC_yX4_loosens, by decide +kernel, by decide⟩
theorem cv_X2_dropPairs : CvT yX2_dropPairs cX2_dropPairs 2 none 0 := ⟨wI_yX2_dropPairs, wS_yX2_dropPairs, wN_X2, wC_yX2_dropPairs, by decide +kernel, by decide⟩
theorem cv_X4_anew : CvT yX4_anew cX4_anew 2 (some .int) 0 := ⟨wI_yX4_anew, wS_yX4_anew, wN_X4, wC_yX4_anew, by decide +kernel, by decide⟩
theorem cv_X2_dropHouses : CvT yX2_dropHouses cX2_dropHouses 1 none 0 := ⟨wI_yX2_dropHouses, wS_yX2_dropHouses, wN_X2, wC_yX2_dropHouses, by decide +kernel, by decide⟩
theorem cv_X4_draw : CvT yX4_draw cX4_draw 6 (some .int) 2 := ⟨wI_yX4_draw, wS_yX4_draw, wN_X4, wC_yX4_draw, by decide +kernel, by decide⟩
theorem cv_X4_of : CvT yX4_of cX4_of 3 (some .int) 2 := ⟨wI_yX4_of, wS_yX4_of, wN_X4, wC_yX4_of, by decide +kernel, by decide⟩
theorem cv_X4_takes : CvT yX4_takes cX4_takes 3 (some .int) 2 := ⟨wI_yX4_takes, wS_yX4_takes, wN_X4, wC_yX4_takes, by decide +kernel, by decide⟩
theorem cv_X4_load : CvT yX4_load cX4_load 3 (some .int) 2 := ⟨wI_yX4_load, wS_yX4_load, wN_X4, wC_yX4_load, by decide +kernel, by decide⟩
theorem cv_X2_loadOf : CvT yX2_loadOf cX2_loadOf 3 (some .int) 2 := ⟨wI_yX2_loadOf, wS_yX2_loadOf, wN_X2, wC_yX2_loadOf, by decide +kernel, by decide⟩
theorem cv_X4_neutral : CvT yX4_neutral cX4_neutral 2 (some .int) 1 := ⟨wI_yX4_neutral, wS_yX4_neutral, wN_X4, wC_yX4_neutral, by decide +kernel, by decide⟩
theorem cv_X2_neutralOf : CvT yX2_neutralOf cX2_neutralOf 5 (some .int) 1 := ⟨wI_yX2_neutralOf, wS_yX2_neutralOf, wN_X2, wC_yX2_neutralOf, by decide +kernel, by decide⟩
theorem cv_X4_grief : CvT yX4_grief cX4_grief 1 (some .int) 0 := ⟨wI_yX4_grief, wS_yX4_grief, wN_X4, wC_yX4_grief, by decide +kernel, by decide⟩
theorem cv_X2_griefNow : CvT yX2_griefNow cX2_griefNow 3 (some .int) 0 := ⟨wI_yX2_griefNow, wS_yX2_griefNow, wN_X2, wC_yX2_griefNow, by decide +kernel, by decide⟩
theorem cv_X4_good : CvT yX4_good cX4_good 2 (some .int) 1 := ⟨wI_yX4_good, wS_yX4_good, wN_X4, wC_yX4_good, by decide +kernel, by decide⟩
theorem cv_X2_isSafe : CvT yX2_isSafe cX2_isSafe 2 (some .boolean) 0 := ⟨wI_yX2_isSafe, wS_yX2_isSafe, wN_X2, wC_yX2_isSafe, by decide +kernel, by decide⟩
theorem cv_X2_keepsTies : CvT yX2_keepsTies cX2_keepsTies 2 (some .boolean) 0 := ⟨wI_yX2_keepsTies, wS_yX2_keepsTies, wN_X2, wC_yX2_keepsTies, by decide +kernel, by decide⟩
theorem cv_X4_worst : CvT yX4_worst cX4_worst 2 (some .int) 1 := ⟨wI_yX4_worst, wS_yX4_worst, wN_X4, wC_yX4_worst, by decide +kernel, by decide⟩
theorem cv_X2_hourOfGreatestNeutral : CvT yX2_hourOfGreatestNeutral cX2_hourOfGreatestNeutral 3 (some .int) 0 := ⟨wI_yX2_hourOfGreatestNeutral, wS_yX2_hourOfGreatestNeutral, wN_X2, wC_yX2_hourOfGreatestNeutral, by decide +kernel, by decide⟩
theorem cv_X2_greatestLoad : CvT yX2_greatestLoad cX2_greatestLoad 4 (some .int) 0 := ⟨wI_yX2_greatestLoad, wS_yX2_greatestLoad, wN_X2, wC_yX2_greatestLoad, by decide +kernel, by decide⟩
theorem cv_X4_change : CvT yX4_change cX4_change 4 (some .int) 2 := ⟨wI_yX4_change, wS_yX4_change, wN_X4, wC_yX4_change, by decide +kernel, by decide⟩
theorem cv_X4_phasesChange : CvT yX4_phasesChange cX4_phasesChange 1 none 0 := ⟨wI_yX4_phasesChange, wS_yX4_phasesChange, wN_X4, wC_yX4_phasesChange, by decide +kernel, by decide⟩
theorem cv_X2_packedPhases : CvT yX2_packedPhases cX2_packedPhases 1 (some .int) 0 := ⟨wI_yX2_packedPhases, wS_yX2_packedPhases, wN_X2, wC_yX2_packedPhases, by decide +kernel, by decide⟩
theorem cs_X4_pack : CsT yX4_pack cX4_pack 4 (some .int) 2 := ⟨wT_yX4_pack, wN_X4, wC_yX4_pack, by decide +kernel, by decide⟩
theorem cv_X3_keep : CvT yX3_keep cX3_keep 2 none 1 := ⟨wI_yX3_keep, wS_yX3_keep, wN_X3, wC_yX3_keep, by decide +kernel, by decide⟩
theorem cv_X2_setPhase : CvT yX2_setPhase cX2_setPhase 3 none 2 := ⟨wI_yX2_setPhase, wS_yX2_setPhase, wN_X2, wC_yX2_setPhase, by decide +kernel, by decide⟩
theorem cv_X4_swap : CvT yX4_swap cX4_swap 3 (some .int) 2 := ⟨wI_yX4_swap, wS_yX4_swap, wN_X4, wC_yX4_swap, by decide +kernel, by decide⟩
theorem cv_X2_swapPhases : CvT yX2_swapPhases cX2_swapPhases 4 none 2 := ⟨wI_yX2_swapPhases, wS_yX2_swapPhases, wN_X2, wC_yX2_swapPhases, by decide +kernel, by decide⟩
theorem cv_X4_step : CvT yX4_step cX4_step 1 (some .int) 0 := ⟨wI_yX4_step, wS_yX4_step, wN_X4, wC_yX4_step, by decide +kernel, by decide⟩
theorem cv_X1_find : CvT yX1_find cX1_find 2 none 0 := ⟨wI_yX1_find, wS_yX1_find, wN_X1, wC_yX1_find, by decide +kernel, by decide⟩
theorem cv_X1_isFree : CvT yX1_isFree cX1_isFree 2 (some .boolean) 1 := ⟨wI_yX1_isFree, wS_yX1_isFree, wN_X1, wC_yX1_isFree, by decide +kernel, by decide⟩
theorem cv_X2_isTied : CvT yX2_isTied cX2_isTied 3 (some .boolean) 1 := ⟨wI_yX2_isTied, wS_yX2_isTied, wN_X2, wC_yX2_isTied, by decide +kernel, by decide⟩
theorem cv_X1_tryChanges : CvT yX1_tryChanges cX1_tryChanges 4 none 1 := ⟨wI_yX1_tryChanges, wS_yX1_tryChanges, wN_X1, wC_yX1_tryChanges, by decide +kernel, by decide⟩
theorem cv_X1_compare : CvT yX1_compare cX1_compare 5 none 3 := ⟨wI_yX1_compare, wS_yX1_compare, wN_X1, wC_yX1_compare, by decide +kernel, by decide⟩
theorem cv_X1_trySwaps : CvT yX1_trySwaps cX1_trySwaps 3 none 1 := ⟨wI_yX1_trySwaps, wS_yX1_trySwaps, wN_X1, wC_yX1_trySwaps, by decide +kernel, by decide⟩
theorem cv_X1_lessens : CvT yX1_lessens cX1_lessens 1 (some .boolean) 0 := ⟨wI_yX1_lessens, wS_yX1_lessens, wN_X1, wC_yX1_lessens, by decide +kernel, by decide⟩
theorem cv_X1_take : CvT yX1_take cX1_take 1 none 0 := ⟨wI_yX1_take, wS_yX1_take, wN_X1, wC_yX1_take, by decide +kernel, by decide⟩
theorem cv_X4_down : CvT yX4_down cX4_down 2 (some .int) 0 := ⟨wI_yX4_down, wS_yX4_down, wN_X4, wC_yX4_down, by decide +kernel, by decide⟩
theorem cv_X4_lay : CvT yX4_lay cX4_lay 3 (some .int) 0 := ⟨wI_yX4_lay, wS_yX4_lay, wN_X4, wC_yX4_lay, by decide +kernel, by decide⟩
theorem cv_X0_changesOfBest : CvT yX0_changesOfBest cX0_changesOfBest 4 (some .int) 1 := ⟨wI_yX0_changesOfBest, wS_yX0_changesOfBest, wN_X0, wC_yX0_changesOfBest, by decide +kernel, by decide⟩
theorem cv_X0_findAll : CvT yX0_findAll cX0_findAll 1 none 0 := ⟨wI_yX0_findAll, wS_yX0_findAll, wN_X0, wC_yX0_findAll, by decide +kernel, by decide⟩
theorem cv_X0_readTakings : CvT yX0_readTakings cX0_readTakings 3 none 0 := ⟨wI_yX0_readTakings, wS_yX0_readTakings, wN_X0, wC_yX0_readTakings, by decide +kernel, by decide⟩
theorem cv_X0_findTightHours : CvT yX0_findTightHours cX0_findTightHours 5 none 0 := ⟨wI_yX0_findTightHours, wS_yX0_findTightHours, wN_X0, wC_yX0_findTightHours, by decide +kernel, by decide⟩
theorem cv_X0_multiplyTakings : CvT yX0_multiplyTakings cX0_multiplyTakings 3 none 0 := ⟨wI_yX0_multiplyTakings, wS_yX0_multiplyTakings, wN_X0, wC_yX0_multiplyTakings, by decide +kernel, by decide⟩
theorem cv_X0_product : CvT yX0_product cX0_product 5 (some .int) 2 := ⟨wI_yX0_product, wS_yX0_product, wN_X0, wC_yX0_product, by decide +kernel, by decide⟩
theorem cv_X0_griefApart : CvT yX0_griefApart cX0_griefApart 4 (some .int) 0 := ⟨wI_yX0_griefApart, wS_yX0_griefApart, wN_X0, wC_yX0_griefApart, by decide +kernel, by decide⟩
theorem cv_X0_place : CvT yX0_place cX0_place 5 none 3 := ⟨wI_yX0_place, wS_yX0_place, wN_X0, wC_yX0_place, by decide +kernel, by decide⟩
theorem cv_X0_count : CvT yX0_count cX0_count 3 none 2 := ⟨wI_yX0_count, wS_yX0_count, wN_X0, wC_yX0_count, by decide +kernel, by decide⟩
theorem cv_X0_isLaidSafe : CvT yX0_isLaidSafe cX0_isLaidSafe 3 (some .boolean) 0 := ⟨wI_yX0_isLaidSafe, wS_yX0_isLaidSafe, wN_X0, wC_yX0_isLaidSafe, by decide +kernel, by decide⟩
theorem cv_X0_meetEarlier : CvT yX0_meetEarlier cX0_meetEarlier 4 none 1 := ⟨wI_yX0_meetEarlier, wS_yX0_meetEarlier, wN_X0, wC_yX0_meetEarlier, by decide +kernel, by decide⟩
theorem cv_X0_mayLie : CvT yX0_mayLie cX0_mayLie 4 (some .boolean) 2 := ⟨wI_yX0_mayLie, wS_yX0_mayLie, wN_X0, wC_yX0_mayLie, by decide +kernel, by decide⟩
theorem cv_X0_addLoads : CvT yX0_addLoads cX0_addLoads 6 none 3 := ⟨wI_yX0_addLoads, wS_yX0_addLoads, wN_X0, wC_yX0_addLoads, by decide +kernel, by decide⟩
theorem cv_X2_layPacked : CvT yX2_layPacked cX2_layPacked 3 none 1 := ⟨wI_yX2_layPacked, wS_yX2_layPacked, wN_X2, wC_yX2_layPacked, by decide +kernel, by decide⟩
theorem cs_X4_phaseIn : CsT yX4_phaseIn cX4_phaseIn 2 (some .int) 2 := ⟨wT_yX4_phaseIn, wN_X4, wC_yX4_phaseIn, by decide +kernel, by decide⟩
theorem cv_X4_undo : CvT yX4_undo cX4_undo 1 (some .int) 0 := ⟨wI_yX4_undo, wS_yX4_undo, wN_X4, wC_yX4_undo, by decide +kernel, by decide⟩
theorem cv_X3_takeLast : CvT yX3_takeLast cX3_takeLast 1 (some .int) 0 := ⟨wI_yX3_takeLast, wS_yX3_takeLast, wN_X3, wC_yX3_takeLast, by decide +kernel, by decide⟩
theorem cv_X4_best : CvT yX4_best cX4_best 3 (some .int) 1 := ⟨wI_yX4_best, wS_yX4_best, wN_X4, wC_yX4_best, by decide +kernel, by decide⟩
theorem cv_X4_phase : CvT yX4_phase cX4_phase 3 (some .int) 1 := ⟨wI_yX4_phase, wS_yX4_phase, wN_X4, wC_yX4_phase, by decide +kernel, by decide⟩
theorem cv_X4_by : CvT yX4_by cX4_by 3 (some .int) 1 := ⟨wI_yX4_by, wS_yX4_by, wN_X4, wC_yX4_by, by decide +kernel, by decide⟩
theorem cv_X4_fewest : CvT yX4_fewest cX4_fewest 2 (some .int) 1 := ⟨wI_yX4_fewest, wS_yX4_fewest, wN_X4, wC_yX4_fewest, by decide +kernel, by decide⟩
theorem cv_X0_fewestChangesFor : CvT yX0_fewestChangesFor cX0_fewestChangesFor 3 (some .int) 1 := ⟨wI_yX0_fewestChangesFor, wS_yX0_fewestChangesFor, wN_X0, wC_yX0_fewestChangesFor, by decide +kernel, by decide⟩
theorem cv_X4_many : CvT yX4_many cX4_many 1 (some .int) 0 := ⟨wI_yX4_many, wS_yX4_many, wN_X4, wC_yX4_many, by decide +kernel, by decide⟩
theorem cv_X0_countAll : CvT yX0_countAll cX0_countAll 1 (some .int) 0 := ⟨wI_yX0_countAll, wS_yX0_countAll, wN_X0, wC_yX0_countAll, by decide +kernel, by decide⟩
theorem cv_X4_next : CvT yX4_next cX4_next 2 (some .int) 1 := ⟨wI_yX4_next, wS_yX4_next, wN_X4, wC_yX4_next, by decide +kernel, by decide⟩
theorem cv_X4_told : CvT yX4_told cX4_told 2 (some .int) 1 := ⟨wI_yX4_told, wS_yX4_told, wN_X4, wC_yX4_told, by decide +kernel, by decide⟩
theorem cv_X4_toldOf : CvT yX4_toldOf cX4_toldOf 2 (some .int) 1 := ⟨wI_yX4_toldOf, wS_yX4_toldOf, wN_X4, wC_yX4_toldOf, by decide +kernel, by decide⟩
theorem cv_X2_fixedBits : CvT yX2_fixedBits cX2_fixedBits 3 (some .int) 0 := ⟨wI_yX2_fixedBits, wS_yX2_fixedBits, wN_X2, wC_yX2_fixedBits, by decide +kernel, by decide⟩
theorem cv_X4_digest : CvT yX4_digest cX4_digest 4 (some .long) 0 := ⟨wI_yX4_digest, wS_yX4_digest, wN_X4, wC_yX4_digest, by decide +kernel, by decide⟩
theorem cv_X5_house : CvT yX5_house cX5_house 4 (some .int) 3 := ⟨wI_yX5_house, wS_yX5_house, wN_X5, wC_yX5_house, by decide +kernel, by decide⟩
theorem cs_X5_in : CsT yX5_in cX5_in 3 (some .boolean) 3 := ⟨wT_yX5_in, wN_X5, wC_yX5_in, by decide +kernel, by decide⟩
theorem cv_X5_refuses : CvT yX5_refuses cX5_refuses 2 (some .int) 1 := ⟨wI_yX5_refuses, wS_yX5_refuses, wN_X5, wC_yX5_refuses, by decide +kernel, by decide⟩
theorem cv_X5_sets : CvT yX5_sets cX5_sets 5 (some .int) 3 := ⟨wI_yX5_sets, wS_yX5_sets, wN_X5, wC_yX5_sets, by decide +kernel, by decide⟩
theorem cv_X5_isHouse : CvT yX5_isHouse cX5_isHouse 2 (some .boolean) 1 := ⟨wI_yX5_isHouse, wS_yX5_isHouse, wN_X5, wC_yX5_isHouse, by decide +kernel, by decide⟩
theorem cv_X5_weight : CvT yX5_weight cX5_weight 4 (some .int) 2 := ⟨wI_yX5_weight, wS_yX5_weight, wN_X5, wC_yX5_weight, by decide +kernel, by decide⟩
theorem cs_X5_isHour : CsT yX5_isHour cX5_isHour 1 (some .boolean) 1 := ⟨wT_yX5_isHour, wN_X5, wC_yX5_isHour, by decide +kernel, by decide⟩
theorem cv_X5_fuse : CvT yX5_fuse cX5_fuse 3 (some .int) 1 := ⟨wI_yX5_fuse, wS_yX5_fuse, wN_X5, wC_yX5_fuse, by decide +kernel, by decide⟩
theorem cv_X5_tie : CvT yX5_tie cX5_tie 3 (some .int) 2 := ⟨wI_yX5_tie, wS_yX5_tie, wN_X5, wC_yX5_tie, by decide +kernel, by decide⟩
theorem cv_X5_leastOf : CvT yX5_leastOf cX5_leastOf 6 (some .int) 1 := ⟨wI_yX5_leastOf, wS_yX5_leastOf, wN_X5, wC_yX5_leastOf, by decide +kernel, by decide⟩
theorem cv_X5_loosens : CvT yX5_loosens cX5_loosens 2 (some .int) 0 := ⟨wI_yX5_loosens, wS_yX5_loosens, wN_X5, wC_yX5_loosens, by decide +kernel, by decide⟩
theorem cv_X5_anew : CvT yX5_anew cX5_anew 3 (some .int) 0 := ⟨wI_yX5_anew, wS_yX5_anew, wN_X5, wC_yX5_anew, by decide +kernel, by decide⟩
theorem cv_X5_draw : CvT yX5_draw cX5_draw 6 (some .int) 2 := ⟨wI_yX5_draw, wS_yX5_draw, wN_X5, wC_yX5_draw, by decide +kernel, by decide⟩
theorem cv_X5_of : CvT yX5_of cX5_of 3 (some .int) 2 := ⟨wI_yX5_of, wS_yX5_of, wN_X5, wC_yX5_of, by decide +kernel, by decide⟩
theorem cv_X5_takes : CvT yX5_takes cX5_takes 3 (some .int) 2 := ⟨wI_yX5_takes, wS_yX5_takes, wN_X5, wC_yX5_takes, by decide +kernel, by decide⟩
theorem cv_X5_takesOf : CvT yX5_takesOf cX5_takesOf 5 (some .int) 2 := ⟨wI_yX5_takesOf, wS_yX5_takesOf, wN_X5, wC_yX5_takesOf, by decide +kernel, by decide⟩
theorem cv_X5_load : CvT yX5_load cX5_load 3 (some .int) 2 := ⟨wI_yX5_load, wS_yX5_load, wN_X5, wC_yX5_load, by decide +kernel, by decide⟩
theorem cv_X5_asIs : CvT yX5_asIs cX5_asIs 2 none 0 := ⟨wI_yX5_asIs, wS_yX5_asIs, wN_X5, wC_yX5_asIs, by decide +kernel, by decide⟩
theorem cv_X5_table : CvT yX5_table cX5_table 3 none 0 := ⟨wI_yX5_table, wS_yX5_table, wN_X5, wC_yX5_table, by decide +kernel, by decide⟩
theorem cv_X5_loadsNow : CvT yX5_loadsNow cX5_loadsNow 3 none 0 := ⟨wI_yX5_loadsNow, wS_yX5_loadsNow, wN_X5, wC_yX5_loadsNow, by decide +kernel, by decide⟩
theorem cv_X5_neutral : CvT yX5_neutral cX5_neutral 2 (some .int) 1 := ⟨wI_yX5_neutral, wS_yX5_neutral, wN_X5, wC_yX5_neutral, by decide +kernel, by decide⟩
theorem cv_X5_neutralNow : CvT yX5_neutralNow cX5_neutralNow 5 (some .int) 1 := ⟨wI_yX5_neutralNow, wS_yX5_neutralNow, wN_X5, wC_yX5_neutralNow, by decide +kernel, by decide⟩
theorem cv_X5_grief : CvT yX5_grief cX5_grief 1 (some .int) 0 := ⟨wI_yX5_grief, wS_yX5_grief, wN_X5, wC_yX5_grief, by decide +kernel, by decide⟩
theorem cv_X5_griefOf : CvT yX5_griefOf cX5_griefOf 1 (some .int) 0 := ⟨wI_yX5_griefOf, wS_yX5_griefOf, wN_X5, wC_yX5_griefOf, by decide +kernel, by decide⟩
theorem cv_X5_griefNow : CvT yX5_griefNow cX5_griefNow 3 (some .int) 0 := ⟨wI_yX5_griefNow, wS_yX5_griefNow, wN_X5, wC_yX5_griefNow, by decide +kernel, by decide⟩
theorem cv_X5_good : CvT yX5_good cX5_good 2 (some .int) 1 := ⟨wI_yX5_good, wS_yX5_good, wN_X5, wC_yX5_good, by decide +kernel, by decide⟩
theorem cv_X5_isSafe : CvT yX5_isSafe cX5_isSafe 3 (some .boolean) 0 := ⟨wI_yX5_isSafe, wS_yX5_isSafe, wN_X5, wC_yX5_isSafe, by decide +kernel, by decide⟩
theorem cv_X5_isKept : CvT yX5_isKept cX5_isKept 3 (some .boolean) 0 := ⟨wI_yX5_isKept, wS_yX5_isKept, wN_X5, wC_yX5_isKept, by decide +kernel, by decide⟩
theorem cv_X5_worst : CvT yX5_worst cX5_worst 5 (some .int) 1 := ⟨wI_yX5_worst, wS_yX5_worst, wN_X5, wC_yX5_worst, by decide +kernel, by decide⟩
theorem cs_X5_size : CsT yX5_size cX5_size 1 (some .int) 1 := ⟨wT_yX5_size, wN_X5, wC_yX5_size, by decide +kernel, by decide⟩
theorem cv_X5_change : CvT yX5_change cX5_change 4 (some .int) 2 := ⟨wI_yX5_change, wS_yX5_change, wN_X5, wC_yX5_change, by decide +kernel, by decide⟩
theorem cv_X5_keeps : CvT yX5_keeps cX5_keeps 2 none 0 := ⟨wI_yX5_keeps, wS_yX5_keeps, wN_X5, wC_yX5_keeps, by decide +kernel, by decide⟩
theorem cv_X5_swap : CvT yX5_swap cX5_swap 3 (some .int) 2 := ⟨wI_yX5_swap, wS_yX5_swap, wN_X5, wC_yX5_swap, by decide +kernel, by decide⟩
theorem cv_X5_swaps : CvT yX5_swaps cX5_swaps 4 none 2 := ⟨wI_yX5_swaps, wS_yX5_swaps, wN_X5, wC_yX5_swaps, by decide +kernel, by decide⟩
theorem cv_X5_step : CvT yX5_step cX5_step 1 (some .int) 0 := ⟨wI_yX5_step, wS_yX5_step, wN_X5, wC_yX5_step, by decide +kernel, by decide⟩
theorem cv_X5_lessens : CvT yX5_lessens cX5_lessens 1 (some .boolean) 0 := ⟨wI_yX5_lessens, wS_yX5_lessens, wN_X5, wC_yX5_lessens, by decide +kernel, by decide⟩
theorem cv_X5_finds : CvT yX5_finds cX5_finds 3 (some .boolean) 0 := ⟨wI_yX5_finds, wS_yX5_finds, wN_X5, wC_yX5_finds, by decide +kernel, by decide⟩
theorem cv_X5_isFree : CvT yX5_isFree cX5_isFree 2 (some .boolean) 1 := ⟨wI_yX5_isFree, wS_yX5_isFree, wN_X5, wC_yX5_isFree, by decide +kernel, by decide⟩
theorem cv_X5_isTied : CvT yX5_isTied cX5_isTied 4 (some .boolean) 1 := ⟨wI_yX5_isTied, wS_yX5_isTied, wN_X5, wC_yX5_isTied, by decide +kernel, by decide⟩
theorem cv_X5_looks : CvT yX5_looks cX5_looks 5 none 3 := ⟨wI_yX5_looks, wS_yX5_looks, wN_X5, wC_yX5_looks, by decide +kernel, by decide⟩
theorem cv_X5_steps : CvT yX5_steps cX5_steps 1 none 0 := ⟨wI_yX5_steps, wS_yX5_steps, wN_X5, wC_yX5_steps, by decide +kernel, by decide⟩
theorem cv_X5_down : CvT yX5_down cX5_down 2 (some .int) 0 := ⟨wI_yX5_down, wS_yX5_down, wN_X5, wC_yX5_down, by decide +kernel, by decide⟩
theorem cv_X5_undo : CvT yX5_undo cX5_undo 2 (some .int) 0 := ⟨wI_yX5_undo, wS_yX5_undo, wN_X5, wC_yX5_undo, by decide +kernel, by decide⟩
theorem cv_X5_lay : CvT yX5_lay cX5_lay 3 (some .int) 0 := ⟨wI_yX5_lay, wS_yX5_lay, wN_X5, wC_yX5_lay, by decide +kernel, by decide⟩
theorem cv_X5_goes : CvT yX5_goes cX5_goes 3 none 0 := ⟨wI_yX5_goes, wS_yX5_goes, wN_X5, wC_yX5_goes, by decide +kernel, by decide⟩
theorem cv_X5_meets : CvT yX5_meets cX5_meets 4 none 0 := ⟨wI_yX5_meets, wS_yX5_meets, wN_X5, wC_yX5_meets, by decide +kernel, by decide⟩
theorem cv_X5_bestBy : CvT yX5_bestBy cX5_bestBy 4 (some .int) 1 := ⟨wI_yX5_bestBy, wS_yX5_bestBy, wN_X5, wC_yX5_bestBy, by decide +kernel, by decide⟩
theorem cv_X5_best : CvT yX5_best cX5_best 3 (some .int) 1 := ⟨wI_yX5_best, wS_yX5_best, wN_X5, wC_yX5_best, by decide +kernel, by decide⟩
theorem cv_X5_phase : CvT yX5_phase cX5_phase 3 (some .int) 1 := ⟨wI_yX5_phase, wS_yX5_phase, wN_X5, wC_yX5_phase, by decide +kernel, by decide⟩
theorem cv_X5_by : CvT yX5_by cX5_by 3 (some .int) 1 := ⟨wI_yX5_by, wS_yX5_by, wN_X5, wC_yX5_by, by decide +kernel, by decide⟩
theorem cv_X5_fewest : CvT yX5_fewest cX5_fewest 3 (some .int) 1 := ⟨wI_yX5_fewest, wS_yX5_fewest, wN_X5, wC_yX5_fewest, by decide +kernel, by decide⟩
theorem cv_X5_many : CvT yX5_many cX5_many 1 (some .int) 0 := ⟨wI_yX5_many, wS_yX5_many, wN_X5, wC_yX5_many, by decide +kernel, by decide⟩
theorem cv_X5_next : CvT yX5_next cX5_next 2 (some .int) 1 := ⟨wI_yX5_next, wS_yX5_next, wN_X5, wC_yX5_next, by decide +kernel, by decide⟩
theorem cv_X5_told : CvT yX5_told cX5_told 2 (some .int) 1 := ⟨wI_yX5_told, wS_yX5_told, wN_X5, wC_yX5_told, by decide +kernel, by decide⟩
theorem cv_X5_toldOf : CvT yX5_toldOf cX5_toldOf 4 (some .int) 1 := ⟨wI_yX5_toldOf, wS_yX5_toldOf, wN_X5, wC_yX5_toldOf, by decide +kernel, by decide⟩
theorem cv_X5_digest : CvT yX5_digest cX5_digest 4 (some .long) 0 := ⟨wI_yX5_digest, wS_yX5_digest, wN_X5, wC_yX5_digest, by decide +kernel, by decide⟩
