/-! THE CLAIM OUT OF ONE WALK OF THE LAW'S BODY. Your part is whole_start (and what it stands on); all else here is the same for every law, but numbers. -/
def R_law : String := "PhaseLoadsLaw"
def lw_P (b : Addr) (xs : List Int32) (args : Array Value) (s : State) : Prop := args = #[.ref b] ∧ s.IntsAt b xs ∧ xs.length ≤ 2048 ∧ (Jvm.Cond.and given_1 narrow_1).before args s = true
def lw_Q (_ : Array Value) (s : State) (o : Outcome) (t : State) : Prop := o = .returned (some (.int 1)) ∧ Framed s o t [] 600000 7302250
def lw_Z (below : List Frame) (a : Array Value) (s : State) : State → Prop := fun t => ∃ o, t.status = .running ∧ Ended t below o ∧ lw_Q a s o t
/-- the law's own end, with 1 on the stack, nothing written that was there before, its room as the claim has it -/
theorem lw_ret {p : Program} {l : Launch} {e : Env} {s : State} {m : MethodId} {below : List Frame} {meth : Method} {c : Code} {b : Nat} (hx : p.tables.exec = Jvm.exec) (hb : c.code = code) (hr : meth.sig.returnType = ret) (hlocks : meth.locks = false) {pc : Nat} {H : Heap} {ls : Array Slot} (hdg : decode code pc = .ok (.ireturn, 1)) : W p l e room_1 s m #[Value.ref b] below meth c H [] 600000 7302250 (lw_Z below #[Value.ref b] s) (F0 m pc ls [.int 1]) := by
  intro T hT X
  obtain ⟨fs, hret, hrun, hended, hW, hframe⟩ := X.leave (v := some (.int 1)) (hlocks := hlocks) (fun h => by rw [hr] at h; cases h)
  have hmeth' : T.vm.method? m = some meth := X.method'
  refine ⟨T.setFrames fs, ?_, .returned (some (.int 1)), hrun, hended, rfl, ⟨_, rfl⟩, hW, hframe⟩
  jvm_step X.here [X.here.top, hx, hb, hdg, hmeth', hr, ret, narrow_b1]
  (try refine ⟨rfl, ?_⟩); (try refine ⟨rfl, ?_⟩)
  first | (intro acts; rw [hret _ acts rfl rfl rfl]) | rw [hret _ _ rfl rfl rfl]
  exact Steps.refl _
/-- what holds at the law's entry: the machine, the code, the tables' words (any of lw_tbl by 'hts w (by decide +kernel)'), the script of L ints xs at the cell b, what the Statement gives of the start (any of its parts by flat_of_before) -/
def lw_At (p : Program) (s : State) (m : MethodId) (meth : Method) (c : Code) (b L : Nat) (xs : Nat → Int32) : Prop :=
  p.tables.exec = Jvm.exec ∧ c.code = code ∧ meth.sig.returnType = ret ∧ c.maxLocals = 4 ∧ s.vm.findClass R_law = some m.cls ∧ (∀ w ∈ lw_tbl, w.before #[Value.ref b] s = true) ∧ va_X b L xs s s.heap ∧ b < s.heap.size ∧ meth.locks = false ∧ (Jvm.Cond.and given_1 narrow_1).before #[Value.ref b] s = true
set_option maxRecDepth 20000 in
/-- the table at the start -/
theorem law_times {args : Array Value} {s : State} (h : (Jvm.Cond.and given_1 narrow_1).before args s = true) : ∀ j : Nat, j < 36 → (Term.elem (.static "PhaseLoads" "TIMES" "[I") (.int (Int32.ofNat j))).eval args s none [] s = some (tmV j) := by
  have hfl := flat_of_before _ h
  intro j hj
  match j, hj with
  | 0, _ => exact va_eqt (z := 1) (hfl (.eq (.elem (.static "PhaseLoads" "TIMES" "[I") (.int 0)) (.int 1)) (by decide +kernel))
  | 1, _ => exact va_eqt (z := 1) (hfl (.eq (.elem (.static "PhaseLoads" "TIMES" "[I") (.int 1)) (.int 1)) (by decide +kernel))
  | 2, _ => exact va_eqt (z := 1) (hfl (.eq (.elem (.static "PhaseLoads" "TIMES" "[I") (.int 2)) (.int 1)) (by decide +kernel))
  | 3, _ => exact va_eqt (z := 1) (hfl (.eq (.elem (.static "PhaseLoads" "TIMES" "[I") (.int 3)) (.int 1)) (by decide +kernel))
  | 4, _ => exact va_eqt (z := 1) (hfl (.eq (.elem (.static "PhaseLoads" "TIMES" "[I") (.int 4)) (.int 1)) (by decide +kernel))
  | 5, _ => exact va_eqt (z := 1) (hfl (.eq (.elem (.static "PhaseLoads" "TIMES" "[I") (.int 5)) (.int 1)) (by decide +kernel))
  | 6, _ => exact va_eqt (z := 1) (hfl (.eq (.elem (.static "PhaseLoads" "TIMES" "[I") (.int 6)) (.int 1)) (by decide +kernel))
  | 7, _ => exact va_eqt (z := 1) (hfl (.eq (.elem (.static "PhaseLoads" "TIMES" "[I") (.int 7)) (.int 1)) (by decide +kernel))
  | 8, _ => exact va_eqt (z := 2) (hfl (.eq (.elem (.static "PhaseLoads" "TIMES" "[I") (.int 8)) (.int 2)) (by decide +kernel))
  | 9, _ => exact va_eqt (z := 2) (hfl (.eq (.elem (.static "PhaseLoads" "TIMES" "[I") (.int 9)) (.int 2)) (by decide +kernel))
  | 10, _ => exact va_eqt (z := 1) (hfl (.eq (.elem (.static "PhaseLoads" "TIMES" "[I") (.int 10)) (.int 1)) (by decide +kernel))
  | 11, _ => exact va_eqt (z := 1) (hfl (.eq (.elem (.static "PhaseLoads" "TIMES" "[I") (.int 11)) (.int 1)) (by decide +kernel))
  | 12, _ => exact va_eqt (z := 1) (hfl (.eq (.elem (.static "PhaseLoads" "TIMES" "[I") (.int 12)) (.int 1)) (by decide +kernel))
  | 13, _ => exact va_eqt (z := 1) (hfl (.eq (.elem (.static "PhaseLoads" "TIMES" "[I") (.int 13)) (.int 1)) (by decide +kernel))
  | 14, _ => exact va_eqt (z := 0) (hfl (.eq (.elem (.static "PhaseLoads" "TIMES" "[I") (.int 14)) (.int 0)) (by decide +kernel))
  | 15, _ => exact va_eqt (z := 0) (hfl (.eq (.elem (.static "PhaseLoads" "TIMES" "[I") (.int 15)) (.int 0)) (by decide +kernel))
  | 16, _ => exact va_eqt (z := 1) (hfl (.eq (.elem (.static "PhaseLoads" "TIMES" "[I") (.int 16)) (.int 1)) (by decide +kernel))
  | 17, _ => exact va_eqt (z := 1) (hfl (.eq (.elem (.static "PhaseLoads" "TIMES" "[I") (.int 17)) (.int 1)) (by decide +kernel))
  | 18, _ => exact va_eqt (z := 0) (hfl (.eq (.elem (.static "PhaseLoads" "TIMES" "[I") (.int 18)) (.int 0)) (by decide +kernel))
  | 19, _ => exact va_eqt (z := 1) (hfl (.eq (.elem (.static "PhaseLoads" "TIMES" "[I") (.int 19)) (.int 1)) (by decide +kernel))
  | 20, _ => exact va_eqt (z := 2) (hfl (.eq (.elem (.static "PhaseLoads" "TIMES" "[I") (.int 20)) (.int 2)) (by decide +kernel))
  | 21, _ => exact va_eqt (z := 2) (hfl (.eq (.elem (.static "PhaseLoads" "TIMES" "[I") (.int 21)) (.int 2)) (by decide +kernel))
  | 22, _ => exact va_eqt (z := 1) (hfl (.eq (.elem (.static "PhaseLoads" "TIMES" "[I") (.int 22)) (.int 1)) (by decide +kernel))
  | 23, _ => exact va_eqt (z := 0) (hfl (.eq (.elem (.static "PhaseLoads" "TIMES" "[I") (.int 23)) (.int 0)) (by decide +kernel))
  | 24, _ => exact va_eqt (z := 0) (hfl (.eq (.elem (.static "PhaseLoads" "TIMES" "[I") (.int 24)) (.int 0)) (by decide +kernel))
  | 25, _ => exact va_eqt (z := 3) (hfl (.eq (.elem (.static "PhaseLoads" "TIMES" "[I") (.int 25)) (.int 3)) (by decide +kernel))
  | 26, _ => exact va_eqt (z := 0) (hfl (.eq (.elem (.static "PhaseLoads" "TIMES" "[I") (.int 26)) (.int 0)) (by decide +kernel))
  | 27, _ => exact va_eqt (z := 0) (hfl (.eq (.elem (.static "PhaseLoads" "TIMES" "[I") (.int 27)) (.int 0)) (by decide +kernel))
  | 28, _ => exact va_eqt (z := 3) (hfl (.eq (.elem (.static "PhaseLoads" "TIMES" "[I") (.int 28)) (.int 3)) (by decide +kernel))
  | 29, _ => exact va_eqt (z := 0) (hfl (.eq (.elem (.static "PhaseLoads" "TIMES" "[I") (.int 29)) (.int 0)) (by decide +kernel))
  | 30, _ => exact va_eqt (z := 0) (hfl (.eq (.elem (.static "PhaseLoads" "TIMES" "[I") (.int 30)) (.int 0)) (by decide +kernel))
  | 31, _ => exact va_eqt (z := 0) (hfl (.eq (.elem (.static "PhaseLoads" "TIMES" "[I") (.int 31)) (.int 0)) (by decide +kernel))
  | 32, _ => exact va_eqt (z := -1) (hfl (.eq (.elem (.static "PhaseLoads" "TIMES" "[I") (.int 32)) (.int (-1))) (by decide +kernel))
  | 33, _ => exact va_eqt (z := -1) (hfl (.eq (.elem (.static "PhaseLoads" "TIMES" "[I") (.int 33)) (.int (-1))) (by decide +kernel))
  | 34, _ => exact va_eqt (z := -1) (hfl (.eq (.elem (.static "PhaseLoads" "TIMES" "[I") (.int 34)) (.int (-1))) (by decide +kernel))
  | 35, _ => exact va_eqt (z := -1) (hfl (.eq (.elem (.static "PhaseLoads" "TIMES" "[I") (.int 35)) (.int (-1))) (by decide +kernel))
  | (k + 36), hh => exact absurd hh (by omega)
set_option maxHeartbeats 4000000 in
set_option maxRecDepth 40000 in
/-- from the entry, for every script of at most 2048 ints, the law comes to its end with true -/
theorem whole_start {p : Program} {e : Env} {s : State} {m : MethodId} {below : List Frame} {meth : Method} {c : Code} (l : Launch) (hflags : l.flags = flags0) {b L : Nat} {xs : Nat → Int32} (hL : L ≤ 2048) (C0 : lw_At p s m meth c b L xs) : W p l e room_1 s m #[Value.ref b] below meth c s.heap [] 0 0 (lw_Z below #[Value.ref b] s) (entryFrame m ([Value.ref b] : List Value).toArray 4) := by
  obtain ⟨hx, hb, hr, hml, hown, hts, hX, hbl, hlocks, hgv⟩ := id C0
  have htg : ∀ w ∈ WG, w.before #[Value.ref b] s = true := fun w hw => hts w (List.mem_filter.mp hw).1
  have hA : ∀ q : Nat, s.heap.size ≤ q → (fun q : Nat => s.heap.size ≤ q) q := fun _ h => h
  have hbA : ¬ (fun q : Nat => s.heap.size ≤ q) b := Nat.not_le.mpr hbl
  have hno : ∀ a : Nat, a < s.heap.size → ¬ (fun q : Nat => s.heap.size ≤ q) a := fun a h => Nat.not_le.mpr h
  obtain ⟨c0, iS0, hKn0⟩ := u_known (C := RX0) (T := TX0) (N := 14) (n := 14) htg wU_X0 (htg _ wB_X0)
  obtain ⟨c1, iS1, hKn1⟩ := u_known (C := RX1) (T := TX1) (N := 6) (n := 6) htg wU_X1 (htg _ wB_X1)
  obtain ⟨c2, iS2, hKn2⟩ := u_known (C := RX2) (T := TX2) (N := 12) (n := 12) htg wU_X2 (htg _ wB_X2)
  obtain ⟨c3, iS3, hKn3⟩ := u_known (C := RX3) (T := TX3) (N := 2) (n := 2) htg wU_X3 (htg _ wB_X3)
  obtain ⟨c4, iS4, hKn4⟩ := u_known (C := RX4) (T := TX4) (N := 7) (n := 7) htg wU_X4 (htg _ wB_X4)
  obtain ⟨c5, iS5, hKn5⟩ := u_known (C := RX5) (T := TX5) (N := 21) (n := 21) htg wU_X5 (htg _ wB_X5)
  obtain ⟨dC, dI, hKc⟩ : ∃ (dC : Nat → ClassId) (dI : Nat → Nat → Nat), ∀ (k : Nat) (q : vw_C), classes[k]? = some q → u_Kn s q.1 q.2.1 q.2.2 (dC k) (dI k) := by
    refine ⟨fun k => match k with | 0 => c0 | 1 => c1 | 2 => c2 | 3 => c3 | 4 => c4 | _ => c5, fun k => match k with | 0 => iS0 | 1 => iS1 | 2 => iS2 | 3 => iS3 | 4 => iS4 | _ => iS5, ?_⟩
    intro k q hq
    match k, hq with
    | 0, hq => cases hq; exact hKn0
    | 1, hq => cases hq; exact hKn1
    | 2, hq => cases hq; exact hKn2
    | 3, hq => cases hq; exact hKn3
    | 4, hq => cases hq; exact hKn4
    | 5, hq => cases hq; exact hKn5
    | k + 6, hq => simp [classes] at hq
  obtain ⟨cA, kA, comp, f1, f2, f3⟩ := Cond.arrayClass_spec (htg _ wA_int)
  have hK : va_K (dC, dI) classes [(cA, .int)] s := ⟨hKc, fun k q hq => by
    match k, hq with
    | 0, hq => cases hq; exact ⟨fun n z => ⟨fun k h => (by cases h), kA, f2, comp, f3⟩, f1⟩
    | k + 1, hq => simp at hq⟩
  have hfl := flat_of_before _ hgv
  have hlen : (Term.length (.static "PhaseLoads" "TIMES" "[I")).eval #[Value.ref b] s none [] s = some (.int (Int32.ofNat 36)) := va_eqt (z := 36) (hfl (.eq (.length (.static "PhaseLoads" "TIMES" "[I")) (.int 36)) (by decide +kernel))
  obtain ⟨tT, htT, hT⟩ := va_Tof (tm := (.static "PhaseLoads" "TIMES" "[I")) (ty := .int) (N := 36) (f := tmV) (A := fun q : Nat => s.heap.size ≤ q) (by decide) (hfl (.arrayOf (.static "PhaseLoads" "TIMES" "[I") .int) (by decide +kernel)) hlen (law_times hgv) hno
  have hZ : va_Z "PhaseLoads" "TIMES" "[I" (.ref tT) (fun q : Nat => s.heap.size ≤ q) s s.heap := va_Zof (hts (.laysStatic "PhaseLoads" "TIMES" "[I") (List.mem_of_getElem? (i := 295) (by decide +kernel))) (htg _ wN_X4) htT hno
  have hst : stC tT (fun q : Nat => s.heap.size ≤ q) s s.heap := ⟨⟨hZ, hT, va_Nw.of rfl (hts _ (List.mem_of_getElem? (i := 294) (by decide +kernel))), va_Nw.of rfl (hts _ (List.mem_of_getElem? (i := 446) (by decide +kernel))), va_Nw.of rfl (hts _ (List.mem_of_getElem? (i := 578) (by decide +kernel))), va_Nw.of rfl (hts _ (List.mem_of_getElem? (i := 561) (by decide +kernel)))⟩, va_Nw.of rfl (hts _ (List.mem_of_getElem? (i := 220) (by decide +kernel)))⟩
  have F : FyT (l, cA, (dC, dI), tT, p, e, room_1, s, m, #[Value.ref b], below, meth, c, lw_Z below #[Value.ref b] s, 4, fun q : Nat => s.heap.size ≤ q) cL_law RL 16 600000 7302250 := ⟨hx, hb, hml, hown, htg, hlocks, hK, hA, hst, (Nat.le_of_ble_eq_true rfl), (Nat.le_of_ble_eq_true rfl), Nat.le_refl _, Nat.le_refl _⟩
  have key := law_start F rfl hL ⟨hX, hbl, hbA⟩ (fun lo ws cells slots hc hs => by
    intro H locs ls hP hD hS hl
    refine lv_iconst (v := 1) hx hb dL_law_868 rfl ?_
    refine va_forget hS.2.2 ?_
    refine W.widen (k := 600000) (n := 7302250) hc hs ?_
    exact lw_ret hx hb hr hlocks dL_law_869)
  have hl := lv_entry ([.ref b]) (n := 4) (Nat.le_of_ble_eq_true rfl)
  rw [lg_entry_eq]
  exact key s.heap [] _ (fun k q h => by simp at h) ⟨fun i j p q h => by simp at h, fun k q h => by simp at h⟩ va_S.rf hl
