def lfind : List (Nat × Value) → Nat → Option Value
  | [], _ => none
  | q :: r, i => if q.1 = i then some q.2 else lfind r i
def lput (i : Nat) (v : Value) : List (Nat × Value) → List (Nat × Value)
  | [] => [(i, v)]
  | q :: r => if q.1 < i then q :: lput i v r else (i, v) :: q :: r
def lset (lo : List (Nat × Value)) (i : Nat) (v : Value) : List (Nat × Value) := lput i v (lo.filter (fun q => !(q.1 == i) && !(q.1 + 1 == i && q.2.category == 2)))
def lset2 (lo : List (Nat × Value)) (i : Nat) (v : Value) : List (Nat × Value) := lput i v (lo.filter (fun q => !(q.1 == i) && (!(q.1 == i + 1) && !(q.1 + 1 == i && q.2.category == 2))))
theorem lfind_mem : ∀ {lo : List (Nat × Value)} {i : Nat} {v : Value}, lfind lo i = some v → (i, v) ∈ lo
  | [], _, _, h => by cases h
  | q :: r, i, v, h => by
    unfold lfind at h
    by_cases e : q.1 = i
    · rw [if_pos e] at h
      cases h
      subst e
      exact List.mem_cons_self
    · rw [if_neg e] at h
      exact List.mem_cons_of_mem _ (lfind_mem h)
theorem lput_mem {i : Nat} {v : Value} : ∀ {lo : List (Nat × Value)} {q : Nat × Value}, q ∈ lput i v lo → q ∈ (i, v) :: lo
  | [], _, h => h
  | a :: r, q, h => by
    unfold lput at h
    by_cases e : a.1 < i
    · rw [if_pos e] at h
      rcases List.mem_cons.mp h with h | h
      · exact List.mem_cons_of_mem _ (List.mem_cons.mpr (Or.inl h))
      · rcases List.mem_cons.mp (lput_mem h) with h | h
        · exact List.mem_cons.mpr (Or.inl h)
        · exact List.mem_cons_of_mem _ (List.mem_cons_of_mem _ h)
    · rw [if_neg e] at h
      exact h
theorem lput_has {ls : Array Slot} {n i : Nat} {v : Value} {lo : List (Nat × Value)} (h : lv_has ls n ((i, v) :: lo)) : lv_has ls n (lput i v lo) := ⟨h.1, h.2.1, fun q hq => h.2.2 q (lput_mem hq)⟩
theorem lfind_at {ls : Array Slot} {n i : Nat} {v : Value} {lo : List (Nat × Value)} (h : lv_has ls n lo) (hf : lfind lo i = some v) : ls[i]? = some (.val v) := h.2.2 (i, v) (lfind_mem hf)
theorem nw_use {w : Cond} (hw : w.onTables = true) {A : Array Value} {U : State} (h : va_Nw w U) : w.before A U = true := va_Nw.use hw h
section RN
variable {X : XxT} {cc : ByteArray} {own : String} {dd pc np : Nat} {lo : List (Nat × Value)} {st : List Value} {h : HpT}
theorem rn_iconst (F : FxT X cc own dd) {n : Int} {v : Int32} (dg : decode cc pc = .ok (.iconst n, 1)) (hn : pc + 1 = np) (hv : Int32.ofInt n = v) (k : rn X np lo (.int v :: st) h) : rn X pc lo (st) h := by
  obtain ⟨⟨l, N, S, ad, cA, D, tT⟩, p, e, R, s, m, args, below, meth, c, cells, slots, Q, nL, A⟩ := X
  obtain ⟨hx, hb, hml, hown, hts, hlk, hK, hD, hA, hst, hrf, hrl, hrc, hrs⟩ := F
  subst hn
  intro H locs ls hP hS hl
  exact lv_iconst hx hb dg hv (k H locs ls hP hS hl)
theorem rn_bipush (F : FxT X cc own dd) {n : Int} {v : Int32} (dg : decode cc pc = .ok (.bipush n, 2)) (hn : pc + 2 = np) (hv : (Int8.ofInt n).toInt32 = v) (k : rn X np lo (.int v :: st) h) : rn X pc lo (st) h := by
  obtain ⟨⟨l, N, S, ad, cA, D, tT⟩, p, e, R, s, m, args, below, meth, c, cells, slots, Q, nL, A⟩ := X
  obtain ⟨hx, hb, hml, hown, hts, hlk, hK, hD, hA, hst, hrf, hrl, hrc, hrs⟩ := F
  subst hn
  intro H locs ls hP hS hl
  exact lv_bipush hx hb dg hv (k H locs ls hP hS hl)
theorem rn_sipush (F : FxT X cc own dd) {n : Int} {v : Int32} (dg : decode cc pc = .ok (.sipush n, 3)) (hn : pc + 3 = np) (hv : (Int16.ofInt n).toInt32 = v) (k : rn X np lo (.int v :: st) h) : rn X pc lo (st) h := by
  obtain ⟨⟨l, N, S, ad, cA, D, tT⟩, p, e, R, s, m, args, below, meth, c, cells, slots, Q, nL, A⟩ := X
  obtain ⟨hx, hb, hml, hown, hts, hlk, hK, hD, hA, hst, hrf, hrl, hrc, hrs⟩ := F
  subst hn
  intro H locs ls hP hS hl
  exact lv_sipush hx hb dg hv (k H locs ls hP hS hl)
theorem rn_iload_n (F : FxT X cc own dd) {q : Fin 4} {x : Int32} (dg : decode cc pc = .ok (.iload_n q, 1)) (hn : pc + 1 = np) (hf : lfind lo (q : Nat) = some (.int x)) (k : rn X np lo (.int x :: st) h) : rn X pc lo (st) h := by
  obtain ⟨⟨l, N, S, ad, cA, D, tT⟩, p, e, R, s, m, args, below, meth, c, cells, slots, Q, nL, A⟩ := X
  obtain ⟨hx, hb, hml, hown, hts, hlk, hK, hD, hA, hst, hrf, hrl, hrc, hrs⟩ := F
  subst hn
  intro H locs ls hP hS hl
  exact lv_iload_n hx hb dg rfl (lfind_at hl hf) (k H locs ls hP hS hl)
theorem rn_iload (F : FxT X cc own dd) {i : Nat} {x : Int32} (dg : decode cc pc = .ok (.iload i, 2)) (hn : pc + 2 = np) (hf : lfind lo i = some (.int x)) (k : rn X np lo (.int x :: st) h) : rn X pc lo (st) h := by
  obtain ⟨⟨l, N, S, ad, cA, D, tT⟩, p, e, R, s, m, args, below, meth, c, cells, slots, Q, nL, A⟩ := X
  obtain ⟨hx, hb, hml, hown, hts, hlk, hK, hD, hA, hst, hrf, hrl, hrc, hrs⟩ := F
  subst hn
  intro H locs ls hP hS hl
  exact lv_iload hx hb dg (lfind_at hl hf) (k H locs ls hP hS hl)
theorem rn_lload_n (F : FxT X cc own dd) {q : Fin 4} {x : Int64} (dg : decode cc pc = .ok (.lload_n q, 1)) (hn : pc + 1 = np) (hf : lfind lo (q : Nat) = some (.long x)) (k : rn X np lo (.long x :: st) h) : rn X pc lo (st) h := by
  obtain ⟨⟨l, N, S, ad, cA, D, tT⟩, p, e, R, s, m, args, below, meth, c, cells, slots, Q, nL, A⟩ := X
  obtain ⟨hx, hb, hml, hown, hts, hlk, hK, hD, hA, hst, hrf, hrl, hrc, hrs⟩ := F
  subst hn
  intro H locs ls hP hS hl
  exact lv_lload_n hx hb dg rfl (lfind_at hl hf) (k H locs ls hP hS hl)
theorem rn_aload_n (F : FxT X cc own dd) {q : Fin 4} {x : Nat} (dg : decode cc pc = .ok (.aload_n q, 1)) (hn : pc + 1 = np) (hf : lfind lo (q : Nat) = some (.ref x)) (k : rn X np lo (.ref x :: st) h) : rn X pc lo (st) h := by
  obtain ⟨⟨l, N, S, ad, cA, D, tT⟩, p, e, R, s, m, args, below, meth, c, cells, slots, Q, nL, A⟩ := X
  obtain ⟨hx, hb, hml, hown, hts, hlk, hK, hD, hA, hst, hrf, hrl, hrc, hrs⟩ := F
  subst hn
  intro H locs ls hP hS hl
  exact lv_aload_n hx hb dg rfl (lfind_at hl hf) (k H locs ls hP hS hl)
theorem rn_aload (F : FxT X cc own dd) {i : Nat} {x : Nat} (dg : decode cc pc = .ok (.aload i, 2)) (hn : pc + 2 = np) (hf : lfind lo i = some (.ref x)) (k : rn X np lo (.ref x :: st) h) : rn X pc lo (st) h := by
  obtain ⟨⟨l, N, S, ad, cA, D, tT⟩, p, e, R, s, m, args, below, meth, c, cells, slots, Q, nL, A⟩ := X
  obtain ⟨hx, hb, hml, hown, hts, hlk, hK, hD, hA, hst, hrf, hrl, hrc, hrs⟩ := F
  subst hn
  intro H locs ls hP hS hl
  exact lv_aload hx hb dg (lfind_at hl hf) (k H locs ls hP hS hl)
theorem rn_istore_n (F : FxT X cc own dd) {q : Fin 4} {x : Int32} {nl : Nat} (dg : decode cc pc = .ok (.istore_n q, 1)) (hn : pc + 1 = np) (hL : X.2.2.2.2.2.2.2.2.2.2.2.2.2.1 = nl) (hnb : Nat.blt (q : Nat) nl = true) (k : rn X np (lset lo (q : Nat) (.int x)) (st) h) : rn X pc lo (.int x :: st) h := by
  obtain ⟨⟨l, N, S, ad, cA, D, tT⟩, p, e, R, s, m, args, below, meth, c, cells, slots, Q, nL, A⟩ := X
  obtain ⟨hx, hb, hml, hown, hts, hlk, hK, hD, hA, hst, hrf, hrl, hrc, hrs⟩ := F
  subst hn
  intro H locs ls hP hS hl
  exact lv_istore_n hx hb dg rfl hl (by rw [show nL = nl from hL]; exact Nat.le_of_ble_eq_true hnb) rfl (fun ls2 hl2 => k H locs ls2 hP hS (lput_has hl2))
theorem rn_astore_n (F : FxT X cc own dd) {q : Fin 4} {x : Nat} {nl : Nat} (dg : decode cc pc = .ok (.astore_n q, 1)) (hn : pc + 1 = np) (hL : X.2.2.2.2.2.2.2.2.2.2.2.2.2.1 = nl) (hnb : Nat.blt (q : Nat) nl = true) (k : rn X np (lset lo (q : Nat) (.ref x)) (st) h) : rn X pc lo (.ref x :: st) h := by
  obtain ⟨⟨l, N, S, ad, cA, D, tT⟩, p, e, R, s, m, args, below, meth, c, cells, slots, Q, nL, A⟩ := X
  obtain ⟨hx, hb, hml, hown, hts, hlk, hK, hD, hA, hst, hrf, hrl, hrc, hrs⟩ := F
  subst hn
  intro H locs ls hP hS hl
  exact lv_astore_n hx hb dg rfl hl (by rw [show nL = nl from hL]; exact Nat.le_of_ble_eq_true hnb) rfl (fun ls2 hl2 => k H locs ls2 hP hS (lput_has hl2))
theorem rn_istore (F : FxT X cc own dd) {i : Nat} {x : Int32} {nl : Nat} (dg : decode cc pc = .ok (.istore i, 2)) (hn : pc + 2 = np) (hL : X.2.2.2.2.2.2.2.2.2.2.2.2.2.1 = nl) (hnb : Nat.blt i nl = true) (k : rn X np (lset lo i (.int x)) (st) h) : rn X pc lo (.int x :: st) h := by
  obtain ⟨⟨l, N, S, ad, cA, D, tT⟩, p, e, R, s, m, args, below, meth, c, cells, slots, Q, nL, A⟩ := X
  obtain ⟨hx, hb, hml, hown, hts, hlk, hK, hD, hA, hst, hrf, hrl, hrc, hrs⟩ := F
  subst hn
  intro H locs ls hP hS hl
  exact lv_istore hx hb dg hl (by rw [show nL = nl from hL]; exact Nat.le_of_ble_eq_true hnb) rfl (fun ls2 hl2 => k H locs ls2 hP hS (lput_has hl2))
theorem rn_astore (F : FxT X cc own dd) {i : Nat} {x : Nat} {nl : Nat} (dg : decode cc pc = .ok (.astore i, 2)) (hn : pc + 2 = np) (hL : X.2.2.2.2.2.2.2.2.2.2.2.2.2.1 = nl) (hnb : Nat.blt i nl = true) (k : rn X np (lset lo i (.ref x)) (st) h) : rn X pc lo (.ref x :: st) h := by
  obtain ⟨⟨l, N, S, ad, cA, D, tT⟩, p, e, R, s, m, args, below, meth, c, cells, slots, Q, nL, A⟩ := X
  obtain ⟨hx, hb, hml, hown, hts, hlk, hK, hD, hA, hst, hrf, hrl, hrc, hrs⟩ := F
  subst hn
  intro H locs ls hP hS hl
  exact lv_astore hx hb dg hl (by rw [show nL = nl from hL]; exact Nat.le_of_ble_eq_true hnb) rfl (fun ls2 hl2 => k H locs ls2 hP hS (lput_has hl2))
theorem rn_lstore_n (F : FxT X cc own dd) {q : Fin 4} {x : Int64} {nl : Nat} (dg : decode cc pc = .ok (.lstore_n q, 1)) (hn : pc + 1 = np) (hL : X.2.2.2.2.2.2.2.2.2.2.2.2.2.1 = nl) (hnb : Nat.blt ((q : Nat) + 1) nl = true) (k : rn X np (lset2 lo (q : Nat) (.long x)) (st) h) : rn X pc lo (.long x :: st) h := by
  obtain ⟨⟨l, N, S, ad, cA, D, tT⟩, p, e, R, s, m, args, below, meth, c, cells, slots, Q, nL, A⟩ := X
  obtain ⟨hx, hb, hml, hown, hts, hlk, hK, hD, hA, hst, hrf, hrl, hrc, hrs⟩ := F
  subst hn
  intro H locs ls hP hS hl
  exact lv_lstore_n hx hb dg rfl hl (by rw [show nL = nl from hL]; exact Nat.le_of_ble_eq_true hnb) rfl (fun ls2 hl2 => k H locs ls2 hP hS (lput_has hl2))
theorem rn_iinc (F : FxT X cc own dd) {i nl : Nat} {n : Int} {x v : Int32} (dg : decode cc pc = .ok (.iinc i n, 3)) (hn : pc + 3 = np) (hf : lfind lo i = some (.int x)) (hv : Int32.ofInt n = v) (hL : X.2.2.2.2.2.2.2.2.2.2.2.2.2.1 = nl) (hnb : Nat.blt i nl = true) (k : rn X np (lset lo i (.int (x + v))) st h) : rn X pc lo st h := by
  obtain ⟨⟨l, N, S, ad, cA, D, tT⟩, p, e, R, s, m, args, below, meth, c, cells, slots, Q, nL, A⟩ := X
  obtain ⟨hx, hb, hml, hown, hts, hlk, hK, hD, hA, hst, hrf, hrl, hrc, hrs⟩ := F
  subst hn
  intro H locs ls hP hS hl
  obtain ⟨kk, hk⟩ := List.getElem?_of_mem (lfind_mem hf)
  exact lv_iinc (v := x + v) hx hb dg hl hk (by rw [hv]) (by rw [show nL = nl from hL]; exact Nat.le_of_ble_eq_true hnb) rfl (fun ls2 hl2 => k H locs ls2 hP hS (lput_has hl2))
theorem rn_iadd (F : FxT X cc own dd) {x y : Int32} (dg : decode cc pc = .ok (.iadd, 1)) (hn : pc + 1 = np)  (k : rn X np lo (.int (x + y) :: st) h) : rn X pc lo (.int y :: .int x :: st) h := by
  obtain ⟨⟨l, N, S, ad, cA, D, tT⟩, p, e, R, s, m, args, below, meth, c, cells, slots, Q, nL, A⟩ := X
  obtain ⟨hx, hb, hml, hown, hts, hlk, hK, hD, hA, hst, hrf, hrl, hrc, hrs⟩ := F
  subst hn
  intro H locs ls hP hS hl
  exact lv_iadd hx hb dg (k H locs ls hP hS hl)
theorem rn_isub (F : FxT X cc own dd) {x y : Int32} (dg : decode cc pc = .ok (.isub, 1)) (hn : pc + 1 = np)  (k : rn X np lo (.int (x - y) :: st) h) : rn X pc lo (.int y :: .int x :: st) h := by
  obtain ⟨⟨l, N, S, ad, cA, D, tT⟩, p, e, R, s, m, args, below, meth, c, cells, slots, Q, nL, A⟩ := X
  obtain ⟨hx, hb, hml, hown, hts, hlk, hK, hD, hA, hst, hrf, hrl, hrc, hrs⟩ := F
  subst hn
  intro H locs ls hP hS hl
  exact lv_isub hx hb dg (k H locs ls hP hS hl)
theorem rn_imul (F : FxT X cc own dd) {x y : Int32} (dg : decode cc pc = .ok (.imul, 1)) (hn : pc + 1 = np)  (k : rn X np lo (.int (x * y) :: st) h) : rn X pc lo (.int y :: .int x :: st) h := by
  obtain ⟨⟨l, N, S, ad, cA, D, tT⟩, p, e, R, s, m, args, below, meth, c, cells, slots, Q, nL, A⟩ := X
  obtain ⟨hx, hb, hml, hown, hts, hlk, hK, hD, hA, hst, hrf, hrl, hrc, hrs⟩ := F
  subst hn
  intro H locs ls hP hS hl
  exact lv_imul hx hb dg (k H locs ls hP hS hl)
theorem rn_iand (F : FxT X cc own dd) {x y : Int32} (dg : decode cc pc = .ok (.iand, 1)) (hn : pc + 1 = np)  (k : rn X np lo (.int (x &&& y) :: st) h) : rn X pc lo (.int y :: .int x :: st) h := by
  obtain ⟨⟨l, N, S, ad, cA, D, tT⟩, p, e, R, s, m, args, below, meth, c, cells, slots, Q, nL, A⟩ := X
  obtain ⟨hx, hb, hml, hown, hts, hlk, hK, hD, hA, hst, hrf, hrl, hrc, hrs⟩ := F
  subst hn
  intro H locs ls hP hS hl
  exact lv_iand hx hb dg (k H locs ls hP hS hl)
theorem rn_ior (F : FxT X cc own dd) {x y : Int32} (dg : decode cc pc = .ok (.ior, 1)) (hn : pc + 1 = np)  (k : rn X np lo (.int (x ||| y) :: st) h) : rn X pc lo (.int y :: .int x :: st) h := by
  obtain ⟨⟨l, N, S, ad, cA, D, tT⟩, p, e, R, s, m, args, below, meth, c, cells, slots, Q, nL, A⟩ := X
  obtain ⟨hx, hb, hml, hown, hts, hlk, hK, hD, hA, hst, hrf, hrl, hrc, hrs⟩ := F
  subst hn
  intro H locs ls hP hS hl
  exact lv_ior hx hb dg (k H locs ls hP hS hl)
theorem rn_ishl (F : FxT X cc own dd) {x y : Int32} (dg : decode cc pc = .ok (.ishl, 1)) (hn : pc + 1 = np)  (k : rn X np lo (.int (x <<< (y &&& 31)) :: st) h) : rn X pc lo (.int y :: .int x :: st) h := by
  obtain ⟨⟨l, N, S, ad, cA, D, tT⟩, p, e, R, s, m, args, below, meth, c, cells, slots, Q, nL, A⟩ := X
  obtain ⟨hx, hb, hml, hown, hts, hlk, hK, hD, hA, hst, hrf, hrl, hrc, hrs⟩ := F
  subst hn
  intro H locs ls hP hS hl
  exact lv_ishl hx hb dg (k H locs ls hP hS hl)
theorem rn_ishr (F : FxT X cc own dd) {x y : Int32} (dg : decode cc pc = .ok (.ishr, 1)) (hn : pc + 1 = np)  (k : rn X np lo (.int (x >>> (y &&& 31)) :: st) h) : rn X pc lo (.int y :: .int x :: st) h := by
  obtain ⟨⟨l, N, S, ad, cA, D, tT⟩, p, e, R, s, m, args, below, meth, c, cells, slots, Q, nL, A⟩ := X
  obtain ⟨hx, hb, hml, hown, hts, hlk, hK, hD, hA, hst, hrf, hrl, hrc, hrs⟩ := F
  subst hn
  intro H locs ls hP hS hl
  exact lv_ishr hx hb dg (k H locs ls hP hS hl)
theorem rn_iushr (F : FxT X cc own dd) {x y : Int32} (dg : decode cc pc = .ok (.iushr, 1)) (hn : pc + 1 = np)  (k : rn X np lo (.int (x.toUInt32 >>> (y.toUInt32 &&& Int32.toUInt32 31)).toInt32 :: st) h) : rn X pc lo (.int y :: .int x :: st) h := by
  obtain ⟨⟨l, N, S, ad, cA, D, tT⟩, p, e, R, s, m, args, below, meth, c, cells, slots, Q, nL, A⟩ := X
  obtain ⟨hx, hb, hml, hown, hts, hlk, hK, hD, hA, hst, hrf, hrl, hrc, hrs⟩ := F
  subst hn
  intro H locs ls hP hS hl
  exact lv_iushr hx hb dg rfl (k H locs ls hP hS hl)
theorem rn_ineg (F : FxT X cc own dd) {x : Int32} (dg : decode cc pc = .ok (.ineg, 1)) (hn : pc + 1 = np)  (k : rn X np lo (.int (-x) :: st) h) : rn X pc lo (.int x :: st) h := by
  obtain ⟨⟨l, N, S, ad, cA, D, tT⟩, p, e, R, s, m, args, below, meth, c, cells, slots, Q, nL, A⟩ := X
  obtain ⟨hx, hb, hml, hown, hts, hlk, hK, hD, hA, hst, hrf, hrl, hrc, hrs⟩ := F
  subst hn
  intro H locs ls hP hS hl
  exact lv_ineg hx hb dg (k H locs ls hP hS hl)
theorem rn_ladd (F : FxT X cc own dd) {x y : Int64} (dg : decode cc pc = .ok (.ladd, 1)) (hn : pc + 1 = np)  (k : rn X np lo (.long (x + y) :: st) h) : rn X pc lo (.long y :: .long x :: st) h := by
  obtain ⟨⟨l, N, S, ad, cA, D, tT⟩, p, e, R, s, m, args, below, meth, c, cells, slots, Q, nL, A⟩ := X
  obtain ⟨hx, hb, hml, hown, hts, hlk, hK, hD, hA, hst, hrf, hrl, hrc, hrs⟩ := F
  subst hn
  intro H locs ls hP hS hl
  exact lv_ladd hx hb dg (k H locs ls hP hS hl)
theorem rn_lmul (F : FxT X cc own dd) {x y : Int64} (dg : decode cc pc = .ok (.lmul, 1)) (hn : pc + 1 = np)  (k : rn X np lo (.long (x * y) :: st) h) : rn X pc lo (.long y :: .long x :: st) h := by
  obtain ⟨⟨l, N, S, ad, cA, D, tT⟩, p, e, R, s, m, args, below, meth, c, cells, slots, Q, nL, A⟩ := X
  obtain ⟨hx, hb, hml, hown, hts, hlk, hK, hD, hA, hst, hrf, hrl, hrc, hrs⟩ := F
  subst hn
  intro H locs ls hP hS hl
  exact lv_lmul hx hb dg (k H locs ls hP hS hl)
theorem rn_ldiv (F : FxT X cc own dd) {x y : Int64} (dg : decode cc pc = .ok (.ldiv, 1)) (hn : pc + 1 = np) (hne : ¬ y = 0) (k : rn X np lo (.long (x / y) :: st) h) : rn X pc lo (.long y :: .long x :: st) h := by
  obtain ⟨⟨l, N, S, ad, cA, D, tT⟩, p, e, R, s, m, args, below, meth, c, cells, slots, Q, nL, A⟩ := X
  obtain ⟨hx, hb, hml, hown, hts, hlk, hK, hD, hA, hst, hrf, hrl, hrc, hrs⟩ := F
  subst hn
  intro H locs ls hP hS hl
  exact lv_ldiv hx hb dg hne (k H locs ls hP hS hl)
theorem rn_lrem (F : FxT X cc own dd) {x y : Int64} (dg : decode cc pc = .ok (.lrem, 1)) (hn : pc + 1 = np) (hne : ¬ y = 0) (k : rn X np lo (.long (x - x / y * y) :: st) h) : rn X pc lo (.long y :: .long x :: st) h := by
  obtain ⟨⟨l, N, S, ad, cA, D, tT⟩, p, e, R, s, m, args, below, meth, c, cells, slots, Q, nL, A⟩ := X
  obtain ⟨hx, hb, hml, hown, hts, hlk, hK, hD, hA, hst, hrf, hrl, hrc, hrs⟩ := F
  subst hn
  intro H locs ls hP hS hl
  exact lv_lrem hx hb dg hne (k H locs ls hP hS hl)
theorem rn_i2l (F : FxT X cc own dd) {x : Int32} (dg : decode cc pc = .ok (.i2l, 1)) (hn : pc + 1 = np)  (k : rn X np lo (.long x.toInt64 :: st) h) : rn X pc lo (.int x :: st) h := by
  obtain ⟨⟨l, N, S, ad, cA, D, tT⟩, p, e, R, s, m, args, below, meth, c, cells, slots, Q, nL, A⟩ := X
  obtain ⟨hx, hb, hml, hown, hts, hlk, hK, hD, hA, hst, hrf, hrl, hrc, hrs⟩ := F
  subst hn
  intro H locs ls hP hS hl
  exact lv_i2l hx hb dg rfl (k H locs ls hP hS hl)
theorem rn_l2i (F : FxT X cc own dd) {x : Int64} (dg : decode cc pc = .ok (.l2i, 1)) (hn : pc + 1 = np)  (k : rn X np lo (.int x.toInt32 :: st) h) : rn X pc lo (.long x :: st) h := by
  obtain ⟨⟨l, N, S, ad, cA, D, tT⟩, p, e, R, s, m, args, below, meth, c, cells, slots, Q, nL, A⟩ := X
  obtain ⟨hx, hb, hml, hown, hts, hlk, hK, hD, hA, hst, hrf, hrl, hrc, hrs⟩ := F
  subst hn
  intro H locs ls hP hS hl
  exact lv_l2i hx hb dg rfl (k H locs ls hP hS hl)
theorem rn_lcmp (F : FxT X cc own dd) {x y : Int64} (dg : decode cc pc = .ok (.lcmp, 1)) (hn : pc + 1 = np)  (k : rn X np lo (.int (lg_cmp x y) :: st) h) : rn X pc lo (.long y :: .long x :: st) h := by
  obtain ⟨⟨l, N, S, ad, cA, D, tT⟩, p, e, R, s, m, args, below, meth, c, cells, slots, Q, nL, A⟩ := X
  obtain ⟨hx, hb, hml, hown, hts, hlk, hK, hD, hA, hst, hrf, hrl, hrc, hrs⟩ := F
  subst hn
  intro H locs ls hP hS hl
  exact W.lcmp hx hb dg (k H locs ls hP hS hl)
theorem rn_dup (F : FxT X cc own dd) {va : Value} (dg : decode cc pc = .ok (.dup, 1)) (hn : pc + 1 = np) (hva : va.category = 1) (k : rn X np lo (va :: va :: st) h) : rn X pc lo (va :: st) h := by
  obtain ⟨⟨l, N, S, ad, cA, D, tT⟩, p, e, R, s, m, args, below, meth, c, cells, slots, Q, nL, A⟩ := X
  obtain ⟨hx, hb, hml, hown, hts, hlk, hK, hD, hA, hst, hrf, hrl, hrc, hrs⟩ := F
  subst hn
  intro H locs ls hP hS hl
  exact lv_dup hx hb dg hva (k H locs ls hP hS hl)
theorem rn_pop (F : FxT X cc own dd) {va : Value} (dg : decode cc pc = .ok (.pop, 1)) (hn : pc + 1 = np) (hva : va.category = 1) (k : rn X np lo (st) h) : rn X pc lo (va :: st) h := by
  obtain ⟨⟨l, N, S, ad, cA, D, tT⟩, p, e, R, s, m, args, below, meth, c, cells, slots, Q, nL, A⟩ := X
  obtain ⟨hx, hb, hml, hown, hts, hlk, hK, hD, hA, hst, hrf, hrl, hrc, hrs⟩ := F
  subst hn
  intro H locs ls hP hS hl
  exact lv_pop hx hb dg hva (k H locs ls hP hS hl)
theorem rn_dup2 (F : FxT X cc own dd) {va vb : Value} (dg : decode cc pc = .ok (.dup2, 1)) (hn : pc + 1 = np) (hva : va.category = 1) (hvb : vb.category = 1) (k : rn X np lo (va :: vb :: va :: vb :: st) h) : rn X pc lo (va :: vb :: st) h := by
  obtain ⟨⟨l, N, S, ad, cA, D, tT⟩, p, e, R, s, m, args, below, meth, c, cells, slots, Q, nL, A⟩ := X
  obtain ⟨hx, hb, hml, hown, hts, hlk, hK, hD, hA, hst, hrf, hrl, hrc, hrs⟩ := F
  subst hn
  intro H locs ls hP hS hl
  exact lv_dup2_11 hx hb dg hva hvb (k H locs ls hP hS hl)
theorem rn_ldc (F : FxT X cc own dd) {i : Nat} {v : Int32} (dg : decode cc pc = .ok (.ldc i, 2)) (hn : pc + 2 = np) (hw : Cond.constant own i v ∈ WG) (k : rn X np lo (.int v :: st) h) : rn X pc lo (st) h := by
  obtain ⟨⟨l, N, S, ad, cA, D, tT⟩, p, e, R, s, m, args, below, meth, c, cells, slots, Q, nL, A⟩ := X
  obtain ⟨hx, hb, hml, hown, hts, hlk, hK, hD, hA, hst, hrf, hrl, hrc, hrs⟩ := F
  subst hn
  intro H locs ls hP hS hl
  exact lv_ldc hx hb hown (hts _ hw) dg (k H locs ls hP hS hl)
theorem rn_ldc2 (F : FxT X cc own dd) {i : Nat} {v : Int64} (dg : decode cc pc = .ok (.ldc2_w i, 3)) (hn : pc + 3 = np) (hw : Cond.constantLong own i v ∈ WG) (k : rn X np lo (.long v :: st) h) : rn X pc lo (st) h := by
  obtain ⟨⟨l, N, S, ad, cA, D, tT⟩, p, e, R, s, m, args, below, meth, c, cells, slots, Q, nL, A⟩ := X
  obtain ⟨hx, hb, hml, hown, hts, hlk, hK, hD, hA, hst, hrf, hrl, hrc, hrs⟩ := F
  subst hn
  intro H locs ls hP hS hl
  exact lv_ldc2 hx hb hown (hts _ hw) dg (k H locs ls hP hS hl)
theorem rn_goto (F : FxT X cc own dd) {off : Int} (dg : decode cc pc = .ok (.goto off, 3)) (ht : (pc : Int) + off = (np : Int)) (k : rn X np lo st h) : rn X pc lo st h := by
  obtain ⟨⟨l, N, S, ad, cA, D, tT⟩, p, e, R, s, m, args, below, meth, c, cells, slots, Q, nL, A⟩ := X
  obtain ⟨hx, hb, hml, hown, hts, hlk, hK, hD, hA, hst, hrf, hrl, hrc, hrs⟩ := F
  intro H locs ls hP hS hl
  exact lv_goto hx hb dg ht (k H locs ls hP hS hl)
theorem rn_icmp_eq (F : FxT X cc own dd) {off : Int} {tg : Nat} {x y : Int32} (dg : decode cc pc = .ok (.if_icmp .eq off, 3)) (ht : (pc : Int) + off = (tg : Int)) (hn : pc + 3 = np) (kt : x = y → rn X tg lo st h) (kf : ¬ x = y → rn X np lo st h) : rn X pc lo (.int y :: .int x :: st) h := by
  obtain ⟨⟨l, N, S, ad, cA, D, tT⟩, p, e, R, s, m, args, below, meth, c, cells, slots, Q, nL, A⟩ := X
  obtain ⟨hx, hb, hml, hown, hts, hlk, hK, hD, hA, hst, hrf, hrl, hrc, hrs⟩ := F
  subst hn
  intro H locs ls hP hS hl
  exact lv_icmp_eq hx hb dg ht (fun q => kt q H locs ls hP hS hl) (fun q => kf q H locs ls hP hS hl)
theorem rn_icmp_ne (F : FxT X cc own dd) {off : Int} {tg : Nat} {x y : Int32} (dg : decode cc pc = .ok (.if_icmp .ne off, 3)) (ht : (pc : Int) + off = (tg : Int)) (hn : pc + 3 = np) (kt : ¬ x = y → rn X tg lo st h) (kf : x = y → rn X np lo st h) : rn X pc lo (.int y :: .int x :: st) h := by
  obtain ⟨⟨l, N, S, ad, cA, D, tT⟩, p, e, R, s, m, args, below, meth, c, cells, slots, Q, nL, A⟩ := X
  obtain ⟨hx, hb, hml, hown, hts, hlk, hK, hD, hA, hst, hrf, hrl, hrc, hrs⟩ := F
  subst hn
  intro H locs ls hP hS hl
  exact lv_icmp_ne hx hb dg ht (fun q => kt q H locs ls hP hS hl) (fun q => kf q H locs ls hP hS hl)
theorem rn_icmp_lt (F : FxT X cc own dd) {off : Int} {tg : Nat} {x y : Int32} (dg : decode cc pc = .ok (.if_icmp .lt off, 3)) (ht : (pc : Int) + off = (tg : Int)) (hn : pc + 3 = np) (kt : x < y → rn X tg lo st h) (kf : ¬ x < y → rn X np lo st h) : rn X pc lo (.int y :: .int x :: st) h := by
  obtain ⟨⟨l, N, S, ad, cA, D, tT⟩, p, e, R, s, m, args, below, meth, c, cells, slots, Q, nL, A⟩ := X
  obtain ⟨hx, hb, hml, hown, hts, hlk, hK, hD, hA, hst, hrf, hrl, hrc, hrs⟩ := F
  subst hn
  intro H locs ls hP hS hl
  exact lv_icmp_lt hx hb dg ht (fun q => kt q H locs ls hP hS hl) (fun q => kf q H locs ls hP hS hl)
theorem rn_icmp_ge (F : FxT X cc own dd) {off : Int} {tg : Nat} {x y : Int32} (dg : decode cc pc = .ok (.if_icmp .ge off, 3)) (ht : (pc : Int) + off = (tg : Int)) (hn : pc + 3 = np) (kt : y ≤ x → rn X tg lo st h) (kf : ¬ y ≤ x → rn X np lo st h) : rn X pc lo (.int y :: .int x :: st) h := by
  obtain ⟨⟨l, N, S, ad, cA, D, tT⟩, p, e, R, s, m, args, below, meth, c, cells, slots, Q, nL, A⟩ := X
  obtain ⟨hx, hb, hml, hown, hts, hlk, hK, hD, hA, hst, hrf, hrl, hrc, hrs⟩ := F
  subst hn
  intro H locs ls hP hS hl
  exact lv_icmp_ge hx hb dg ht (fun q => kt q H locs ls hP hS hl) (fun q => kf q H locs ls hP hS hl)
theorem rn_icmp_gt (F : FxT X cc own dd) {off : Int} {tg : Nat} {x y : Int32} (dg : decode cc pc = .ok (.if_icmp .gt off, 3)) (ht : (pc : Int) + off = (tg : Int)) (hn : pc + 3 = np) (kt : y < x → rn X tg lo st h) (kf : ¬ y < x → rn X np lo st h) : rn X pc lo (.int y :: .int x :: st) h := by
  obtain ⟨⟨l, N, S, ad, cA, D, tT⟩, p, e, R, s, m, args, below, meth, c, cells, slots, Q, nL, A⟩ := X
  obtain ⟨hx, hb, hml, hown, hts, hlk, hK, hD, hA, hst, hrf, hrl, hrc, hrs⟩ := F
  subst hn
  intro H locs ls hP hS hl
  exact lv_icmp_gt hx hb dg ht (fun q => kt q H locs ls hP hS hl) (fun q => kf q H locs ls hP hS hl)
theorem rn_icmp_le (F : FxT X cc own dd) {off : Int} {tg : Nat} {x y : Int32} (dg : decode cc pc = .ok (.if_icmp .le off, 3)) (ht : (pc : Int) + off = (tg : Int)) (hn : pc + 3 = np) (kt : x ≤ y → rn X tg lo st h) (kf : ¬ x ≤ y → rn X np lo st h) : rn X pc lo (.int y :: .int x :: st) h := by
  obtain ⟨⟨l, N, S, ad, cA, D, tT⟩, p, e, R, s, m, args, below, meth, c, cells, slots, Q, nL, A⟩ := X
  obtain ⟨hx, hb, hml, hown, hts, hlk, hK, hD, hA, hst, hrf, hrl, hrc, hrs⟩ := F
  subst hn
  intro H locs ls hP hS hl
  exact lv_icmp_le hx hb dg ht (fun q => kt q H locs ls hP hS hl) (fun q => kf q H locs ls hP hS hl)
theorem rn_if_eq (F : FxT X cc own dd) {off : Int} {tg : Nat} {x : Int32} (dg : decode cc pc = .ok (.ifCond .eq off, 3)) (ht : (pc : Int) + off = (tg : Int)) (hn : pc + 3 = np) (kt : x = 0 → rn X tg lo st h) (kf : ¬ x = 0 → rn X np lo st h) : rn X pc lo (.int x :: st) h := by
  obtain ⟨⟨l, N, S, ad, cA, D, tT⟩, p, e, R, s, m, args, below, meth, c, cells, slots, Q, nL, A⟩ := X
  obtain ⟨hx, hb, hml, hown, hts, hlk, hK, hD, hA, hst, hrf, hrl, hrc, hrs⟩ := F
  subst hn
  intro H locs ls hP hS hl
  exact lv_if_eq hx hb dg ht (fun q => kt q H locs ls hP hS hl) (fun q => kf q H locs ls hP hS hl)
theorem rn_if_ne (F : FxT X cc own dd) {off : Int} {tg : Nat} {x : Int32} (dg : decode cc pc = .ok (.ifCond .ne off, 3)) (ht : (pc : Int) + off = (tg : Int)) (hn : pc + 3 = np) (kt : ¬ x = 0 → rn X tg lo st h) (kf : x = 0 → rn X np lo st h) : rn X pc lo (.int x :: st) h := by
  obtain ⟨⟨l, N, S, ad, cA, D, tT⟩, p, e, R, s, m, args, below, meth, c, cells, slots, Q, nL, A⟩ := X
  obtain ⟨hx, hb, hml, hown, hts, hlk, hK, hD, hA, hst, hrf, hrl, hrc, hrs⟩ := F
  subst hn
  intro H locs ls hP hS hl
  exact lv_if_ne hx hb dg ht (fun q => kt q H locs ls hP hS hl) (fun q => kf q H locs ls hP hS hl)
theorem rn_if_lt (F : FxT X cc own dd) {off : Int} {tg : Nat} {x : Int32} (dg : decode cc pc = .ok (.ifCond .lt off, 3)) (ht : (pc : Int) + off = (tg : Int)) (hn : pc + 3 = np) (kt : x < 0 → rn X tg lo st h) (kf : ¬ x < 0 → rn X np lo st h) : rn X pc lo (.int x :: st) h := by
  obtain ⟨⟨l, N, S, ad, cA, D, tT⟩, p, e, R, s, m, args, below, meth, c, cells, slots, Q, nL, A⟩ := X
  obtain ⟨hx, hb, hml, hown, hts, hlk, hK, hD, hA, hst, hrf, hrl, hrc, hrs⟩ := F
  subst hn
  intro H locs ls hP hS hl
  exact lv_if_lt hx hb dg ht (fun q => kt q H locs ls hP hS hl) (fun q => kf q H locs ls hP hS hl)
theorem rn_if_ge (F : FxT X cc own dd) {off : Int} {tg : Nat} {x : Int32} (dg : decode cc pc = .ok (.ifCond .ge off, 3)) (ht : (pc : Int) + off = (tg : Int)) (hn : pc + 3 = np) (kt : 0 ≤ x → rn X tg lo st h) (kf : ¬ 0 ≤ x → rn X np lo st h) : rn X pc lo (.int x :: st) h := by
  obtain ⟨⟨l, N, S, ad, cA, D, tT⟩, p, e, R, s, m, args, below, meth, c, cells, slots, Q, nL, A⟩ := X
  obtain ⟨hx, hb, hml, hown, hts, hlk, hK, hD, hA, hst, hrf, hrl, hrc, hrs⟩ := F
  subst hn
  intro H locs ls hP hS hl
  exact lv_if_ge hx hb dg ht (fun q => kt q H locs ls hP hS hl) (fun q => kf q H locs ls hP hS hl)
theorem rn_if_gt (F : FxT X cc own dd) {off : Int} {tg : Nat} {x : Int32} (dg : decode cc pc = .ok (.ifCond .gt off, 3)) (ht : (pc : Int) + off = (tg : Int)) (hn : pc + 3 = np) (kt : 0 < x → rn X tg lo st h) (kf : ¬ 0 < x → rn X np lo st h) : rn X pc lo (.int x :: st) h := by
  obtain ⟨⟨l, N, S, ad, cA, D, tT⟩, p, e, R, s, m, args, below, meth, c, cells, slots, Q, nL, A⟩ := X
  obtain ⟨hx, hb, hml, hown, hts, hlk, hK, hD, hA, hst, hrf, hrl, hrc, hrs⟩ := F
  subst hn
  intro H locs ls hP hS hl
  exact lv_if_gt hx hb dg ht (fun q => kt q H locs ls hP hS hl) (fun q => kf q H locs ls hP hS hl)
theorem rn_if_le (F : FxT X cc own dd) {off : Int} {tg : Nat} {x : Int32} (dg : decode cc pc = .ok (.ifCond .le off, 3)) (ht : (pc : Int) + off = (tg : Int)) (hn : pc + 3 = np) (kt : x ≤ 0 → rn X tg lo st h) (kf : ¬ x ≤ 0 → rn X np lo st h) : rn X pc lo (.int x :: st) h := by
  obtain ⟨⟨l, N, S, ad, cA, D, tT⟩, p, e, R, s, m, args, below, meth, c, cells, slots, Q, nL, A⟩ := X
  obtain ⟨hx, hb, hml, hown, hts, hlk, hK, hD, hA, hst, hrf, hrl, hrc, hrs⟩ := F
  subst hn
  intro H locs ls hP hS hl
  exact lv_if_le hx hb dg ht (fun q => kt q H locs ls hP hS hl) (fun q => kf q H locs ls hP hS hl)
theorem rn_tableIn (F : FxT X cc own dd) {dflt lw hi : Int} {offs : Array Int} {len : Nat} {x : Int32} {off : Int} (dg : decode cc pc = .ok (.tableswitch dflt lw hi offs, len)) (h1 : ¬ x.toInt < lw) (h2 : ¬ hi < x.toInt) (ho : offs[(x.toInt - lw).toNat]? = some off) (ht : (pc : Int) + off = (np : Int)) (k : rn X np lo st h) : rn X pc lo (.int x :: st) h := by
  obtain ⟨⟨l, N, S, ad, cA, D, tT⟩, p, e, R, s, m, args, below, meth, c, cells, slots, Q, nL, A⟩ := X
  obtain ⟨hx, hb, hml, hown, hts, hlk, hK, hD, hA, hst, hrf, hrl, hrc, hrs⟩ := F
  intro H locs ls hP hS hl
  exact lv_tableIn hx hb dg h1 h2 ho ht (k H locs ls hP hS hl)
theorem rn_tableOut (F : FxT X cc own dd) {dflt lw hi : Int} {offs : Array Int} {len : Nat} {x : Int32} (dg : decode cc pc = .ok (.tableswitch dflt lw hi offs, len)) (hh : x.toInt < lw ∨ hi < x.toInt) (ht : (pc : Int) + dflt = (np : Int)) (k : rn X np lo st h) : rn X pc lo (.int x :: st) h := by
  obtain ⟨⟨l, N, S, ad, cA, D, tT⟩, p, e, R, s, m, args, below, meth, c, cells, slots, Q, nL, A⟩ := X
  obtain ⟨hx, hb, hml, hown, hts, hlk, hK, hD, hA, hst, hrf, hrl, hrc, hrs⟩ := F
  intro H locs ls hP hS hl
  exact lv_tableOut hx hb dg hh ht (k H locs ls hP hS hl)
theorem rn_lookup (F : FxT X cc own dd) {dflt : Int} {ps : Array (Int × Int)} {len : Nat} {x : Int32} {off : Int} (dg : decode cc pc = .ok (.lookupswitch dflt ps, len)) (hp : (ps.toList.zip (ps.toList.drop 1)).all (fun (a, next) => a.1 < next.1) = true) (ho : Op.lookupswitch.offset ps.toList dflt x.toInt = off) (ht : (pc : Int) + off = (np : Int)) (k : rn X np lo st h) : rn X pc lo (.int x :: st) h := by
  obtain ⟨⟨l, N, S, ad, cA, D, tT⟩, p, e, R, s, m, args, below, meth, c, cells, slots, Q, nL, A⟩ := X
  obtain ⟨hx, hb, hml, hown, hts, hlk, hK, hD, hA, hst, hrf, hrl, hrc, hrs⟩ := F
  intro H locs ls hP hS hl
  exact lv_lookup hx hb dg hp ho ht (k H locs ls hP hS hl)
/-- a field of a class, reached through entry idx of own: class' number, field's number -/
def FdT (own : String) (idx ci j : Nat) : Prop := ∃ (C : String) (Tt : u_T) (Nf : Nat), classes[ci]? = some (C, Tt, Nf) ∧ (∀ w ∈ u_ws C Tt Nf, w ∈ WG) ∧ j < Nf ∧ Cond.fieldLink own idx (Tt j).1 (Tt j).2.1 (Tt j).2.2.1 ∈ WG
def FpT (own : String) (idx ci j : Nat) (ty : FieldType) : Prop := ∃ (C : String) (Tt : u_T) (Nf : Nat) (ty0 : Nat → FieldType), classes[ci]? = some (C, Tt, Nf) ∧ (∀ w ∈ u_ws C Tt Nf, w ∈ WG) ∧ j < Nf ∧ Cond.fieldLink own idx (Tt j).1 (Tt j).2.1 (Tt j).2.2.1 ∈ WG ∧ (∀ k, k < Nf → parseFieldDescriptor (Tt k).2.2.1 = some (ty0 k)) ∧ (∀ a, a < Nf → ∀ b, b < Nf → a ≠ b → (Tt a).2.1 ≠ (Tt b).2.1) ∧ (Tt j).2.2.2 = false ∧ parseFieldDescriptor (Tt j).2.2.1 = some ty
theorem rn_getf (F : FxT X cc own dd) {idx ci j q0 : Nat} {fs : List (Option Nat)} (dg : decode cc pc = .ok (.getfield idx, 3)) (hn : pc + 3 = np) (hf : FdT own idx ci j) (hs : shp X.1 q0 (.inr (ci, fs))) (hj : fs[j]? = some none) (k : rn X np lo (.int (h q0 j) :: st) h) : rn X pc lo (.ref (gad X.1 q0) :: st) h := by
  obtain ⟨⟨l, N, S, ad, cA, D, tT⟩, p, e, R, s, m, args, below, meth, c, cells, slots, Q, nL, A⟩ := X
  obtain ⟨hx, hb, hml, hown, hts, hlk, hK, hD, hA, hst, hrf, hrl, hrc, hrs⟩ := F
  subst hn
  intro H locs ls hP hS hl
  obtain ⟨C, Tt, Nf, h1, h2, h3, h4⟩ := hf
  obtain ⟨hq0, hsq⟩ := hs
  have hat := wl_at (S := S) (ad := ad) (cA := cA) (h := h) hq0
  rw [show S q0 = _ from hsq] at hat
  refine va_get (D := D) (ci := ci) (v := .int (h q0 j)) (C := C) (T := Tt) (N := Nf) hx hb hts h2 hown hK hP q0 hat h1 j h3 (hts _ h4) (fun _ h9 => h9) ?_ dg (k H locs ls hP hS hl)
  rw [List.getElem?_mapIdx, hj]
  rfl
theorem rn_getr (F : FxT X cc own dd) {idx ci j q0 q1 : Nat} {fs : List (Option Nat)} (dg : decode cc pc = .ok (.getfield idx, 3)) (hn : pc + 3 = np) (hf : FdT own idx ci j) (hs : shp X.1 q0 (.inr (ci, fs))) (hj : fs[j]? = some (some q1)) (k : rn X np lo (.ref (gad X.1 q1) :: st) h) : rn X pc lo (.ref (gad X.1 q0) :: st) h := by
  obtain ⟨⟨l, N, S, ad, cA, D, tT⟩, p, e, R, s, m, args, below, meth, c, cells, slots, Q, nL, A⟩ := X
  obtain ⟨hx, hb, hml, hown, hts, hlk, hK, hD, hA, hst, hrf, hrl, hrc, hrs⟩ := F
  subst hn
  intro H locs ls hP hS hl
  obtain ⟨C, Tt, Nf, h1, h2, h3, h4⟩ := hf
  obtain ⟨hq0, hsq⟩ := hs
  have hat := wl_at (S := S) (ad := ad) (cA := cA) (h := h) hq0
  rw [show S q0 = _ from hsq] at hat
  refine va_get (D := D) (ci := ci) (v := .ref (ad q1)) (C := C) (T := Tt) (N := Nf) hx hb hts h2 hown hK hP q0 hat h1 j h3 (hts _ h4) (fun _ h9 => h9) ?_ dg (k H locs ls hP hS hl)
  rw [List.getElem?_mapIdx, hj]
  rfl
theorem ce_put {ad : Nat → Nat} {cA : ClassId} {ci j : Nat} {fs : List (Option Nat)} {f : Nat → Int32} {v : Int32} (hj : fs[j]? = some none) : ((ci, (fs.mapIdx (fun j r => match r with | some q => Value.ref (ad q) | none => Value.int (f j))).set j (.int v)) : Nat × List Value) = (ci, fs.mapIdx (fun i r => match r with | some q => Value.ref (ad q) | none => Value.int (upd f j v i))) := by
  congr 1
  apply List.ext_getElem?
  intro i
  by_cases e : j = i
  · subst e
    have hlt : j < fs.length := (List.getElem?_eq_some_iff.mp hj).1
    rw [List.getElem?_set_self (by simp [hlt]), List.getElem?_mapIdx, hj]
    simp [upd]
  · rw [List.getElem?_set_ne e, List.getElem?_mapIdx, List.getElem?_mapIdx]
    cases fs[i]? with
    | none => rfl
    | some r =>
      cases r with
      | some q => rfl
      | none => simp [upd, Ne.symm e]
theorem rn_putf (F : FxT X cc own dd) {idx ci j q0 : Nat} {fs : List (Option Nat)} {ty : FieldType} {v : Int32} (dg : decode cc pc = .ok (.putfield idx, 3)) (hn : pc + 3 = np) (hf : FpT own idx ci j ty) (hsh : shp X.1 q0 (.inr (ci, fs))) (hj : fs[j]? = some none) (hnar : narrow ty (.int v) = .int v) (hfit : fits ty (.int v) = true) (k : rn X np lo st (hs h q0 j v)) : rn X pc lo (.int v :: .ref (gad X.1 q0) :: st) h := by
  obtain ⟨⟨l, N, S, ad, cA, D, tT⟩, p, e, R, s, m, args, below, meth, c, cells, slots, Q, nL, A⟩ := X
  obtain ⟨hx, hb, hml, hown, hts, hlk, hK, hD, hA, hst, hrf, hrl, hrc, hrs⟩ := F
  subst hn
  intro H locs ls hP hS hl
  obtain ⟨C, Tt, Nf, ty0, h1, h2, h3, h4, h5, h6, h7, h8⟩ := hf
  obtain ⟨hq0, hsq⟩ := hsh
  have hat := wl_at (S := S) (ad := ad) (cA := cA) (h := h) hq0
  rw [show S q0 = _ from hsq] at hat
  refine va_put (D := D) (ci := ci) (v := .int v) (ty := ty) (C := C) (T := Tt) (N := Nf) hx hb hts h2 ty0 h5 h6 hown hK hP (hD h) hS q0 hat h1 j h3 (hts _ h4) (fun _ h9 => h9) h7 h8 hnar hfit (by simpa using (List.getElem?_eq_some_iff.mp hj).1) dg (fun H1 locs1 hP1 _ hS1 => ?_)
  refine k H1 locs1 ls ?_ hS1 hl
  have e2 := ce_put (ad := ad) (cA := cA) (ci := ci) (f := h q0) (v := v) hj
  have e4 : (wl N S ad cA h).set q0 (ad q0, .inr (ci, (fs.mapIdx (fun j r => match r with | some q => Value.ref (ad q) | none => Value.int (h q0 j))).set j (.int v))) = wl N S ad cA (hs h q0 j v) := by
    rw [e2]
    have e1 := wl_set (S := S) (ad := ad) (cA := cA) (h := h) hq0 (upd (h q0) j v)
    rw [show S q0 = _ from hsq] at e1
    exact e1
  rw [← e4]
  exact hP1
theorem rn_iald (F : FxT X cc own dd) {q0 n : Nat} {i : Int32} (dg : decode cc pc = .ok (.iaload, 1)) (hn : pc + 1 = np) (hs : shp X.1 q0 (.inl n)) (hin : vp_in i n) (k : rn X np lo (.int (h q0 i.toNatClampNeg) :: st) h) : rn X pc lo (.int i :: .ref (gad X.1 q0) :: st) h := by
  obtain ⟨⟨l, N, S, ad, cA, D, tT⟩, p, e, R, s, m, args, below, meth, c, cells, slots, Q, nL, A⟩ := X
  obtain ⟨hx, hb, hml, hown, hts, hlk, hK, hD, hA, hst, hrf, hrl, hrc, hrs⟩ := F
  subst hn
  intro H locs ls hP hS hl
  obtain ⟨hq0, hsq⟩ := hs
  have hat := wl_at (S := S) (ad := ad) (cA := cA) (h := h) hq0
  rw [show S q0 = _ from hsq] at hat
  exact va_iald hx hb hK hP q0 0 hat rfl hin dg (k H locs ls hP hS hl)
theorem rn_iast (F : FxT X cc own dd) {q0 n : Nat} {i v : Int32} (dg : decode cc pc = .ok (.iastore, 1)) (hn : pc + 1 = np) (hsh : shp X.1 q0 (.inl n)) (hin : vp_in i n) (k : rn X np lo st (hs h q0 i.toNatClampNeg v)) : rn X pc lo (.int v :: .int i :: .ref (gad X.1 q0) :: st) h := by
  obtain ⟨⟨l, N, S, ad, cA, D, tT⟩, p, e, R, s, m, args, below, meth, c, cells, slots, Q, nL, A⟩ := X
  obtain ⟨hx, hb, hml, hown, hts, hlk, hK, hD, hA, hst, hrf, hrl, hrc, hrs⟩ := F
  subst hn
  intro H locs ls hP hS hl
  obtain ⟨hq0, hsq⟩ := hsh
  have hat := wl_at (S := S) (ad := ad) (cA := cA) (h := h) hq0
  rw [show S q0 = _ from hsq] at hat
  refine va_iast hx hb hK hP (hD h) hS q0 0 hat rfl hin dg (fun H1 locs1 hP1 _ hS1 => k H1 locs1 ls ?_ hS1 hl)
  have e1 := wl_set (S := S) (ad := ad) (cA := cA) (h := h) hq0 (upd (h q0) i.toNatClampNeg v)
  rw [show S q0 = _ from hsq] at e1
  unfold ce at e1
  exact e1 ▸ hP1
theorem rn_alen (F : FxT X cc own dd) {q0 n : Nat} {v : Int32} (dg : decode cc pc = .ok (.arraylength, 1)) (hn : pc + 1 = np) (hs : shp X.1 q0 (.inl n)) (hv : Int32.ofNat n = v) (k : rn X np lo (.int v :: st) h) : rn X pc lo (.ref (gad X.1 q0) :: st) h := by
  obtain ⟨⟨l, N, S, ad, cA, D, tT⟩, p, e, R, s, m, args, below, meth, c, cells, slots, Q, nL, A⟩ := X
  obtain ⟨hx, hb, hml, hown, hts, hlk, hK, hD, hA, hst, hrf, hrl, hrc, hrs⟩ := F
  subst hn
  intro H locs ls hP hS hl
  obtain ⟨hq0, hsq⟩ := hs
  have hat := wl_at (S := S) (ad := ad) (cA := cA) (h := h) hq0
  rw [show S q0 = _ from hsq] at hat
  exact va_alen hx hb hK hP q0 0 hat rfl hv dg (k H locs ls hP hS hl)
/-- the table TIMES, read at a place -/
theorem rn_times (F : FxT X cc RX2 dd) (dg : decode cc pc = .ok (.getstatic 87, 3)) (hn : pc + 3 = np) (k : rn X np lo (.ref X.1.2.2.2.2.2.2 :: st) h) : rn X pc lo st h := by
  obtain ⟨⟨l, N, S, ad, cA, D, tT⟩, p, e, R, s, m, args, below, meth, c, cells, slots, Q, nL, A⟩ := X
  obtain ⟨hx, hb, hml, hown, hts, hlk, hK, hD, hA, hst, hrf, hrl, hrc, hrs⟩ := F
  subst hn
  intro H locs ls hP hS hl
  exact va_getsN (C := "PhaseLoads") (n := "TIMES") (d := "[I") (ref := "PhaseLoads") hx hb hst.1 hS hown (nw_use rfl hst.2.2.1) (fun _ h9 => h9) dg (k H locs ls hP hS hl)
theorem rn_tald (F : FxT X cc own dd) {i : Int32} (dg : decode cc pc = .ok (.iaload, 1)) (hn : pc + 1 = np) (hin : vp_in i 36) (k : rn X np lo (.int (tmI.getD i.toNatClampNeg 0) :: st) h) : rn X pc lo (.int i :: .ref X.1.2.2.2.2.2.2 :: st) h := by
  obtain ⟨⟨l, N, S, ad, cA, D, tT⟩, p, e, R, s, m, args, below, meth, c, cells, slots, Q, nL, A⟩ := X
  obtain ⟨hx, hb, hml, hown, hts, hlk, hK, hD, hA, hst, hrf, hrl, hrc, hrs⟩ := F
  subst hn
  intro H locs ls hP hS hl
  exact va_ti hx hb hst.2.1 hS hin rfl dg (k H locs ls hP hS hl)
theorem rn_iret (F : FxT X cc own dd) {post : Option Value → HpT → Prop} (Rr : RxT X (some .int) post) {v : Int32} (dg : decode cc pc = .ok (.ireturn, 1)) (hp : post (some (.int v)) h) : rn X pc lo [.int v] h := by
  obtain ⟨⟨l, N, S, ad, cA, D, tT⟩, p, e, R, s, m, args, below, meth, c, cells, slots, Q, nL, A⟩ := X
  obtain ⟨hx, hb, hml, hown, hts, hlk, hK, hD, hA, hst, hrf, hrl, hrc, hrs⟩ := F
  obtain ⟨hr, rfl, rfl, rfl⟩ := Rr
  intro H locs ls hP hS hl
  exact W.iret (v := v) hx hb hr (fun t ht _ => ⟨⟨_, h, rfl, hp, by rw [ht]; exact hP⟩, hS.F ht⟩) hS.2.2 dg hlk
theorem rn_zret (F : FxT X cc own dd) {post : Option Value → HpT → Prop} (Rr : RxT X (some .boolean) post) {v : Int32} (dg : decode cc pc = .ok (.ireturn, 1)) (hnar : narrow .boolean (.int v) = .int v) (hp : post (some (.int v)) h) : rn X pc lo [.int v] h := by
  obtain ⟨⟨l, N, S, ad, cA, D, tT⟩, p, e, R, s, m, args, below, meth, c, cells, slots, Q, nL, A⟩ := X
  obtain ⟨hx, hb, hml, hown, hts, hlk, hK, hD, hA, hst, hrf, hrl, hrc, hrs⟩ := F
  obtain ⟨hr, rfl, rfl, rfl⟩ := Rr
  intro H locs ls hP hS hl
  exact W.zret (v := v) hx hb hr hnar (fun t ht _ => ⟨⟨_, h, rfl, hp, by rw [ht]; exact hP⟩, hS.F ht⟩) hS.2.2 dg hlk
theorem rn_lret (F : FxT X cc own dd) {post : Option Value → HpT → Prop} (Rr : RxT X (some .long) post) {v : Int64} (dg : decode cc pc = .ok (.lreturn, 1)) (hp : post (some (.long v)) h) : rn X pc lo [.long v] h := by
  obtain ⟨⟨l, N, S, ad, cA, D, tT⟩, p, e, R, s, m, args, below, meth, c, cells, slots, Q, nL, A⟩ := X
  obtain ⟨hx, hb, hml, hown, hts, hlk, hK, hD, hA, hst, hrf, hrl, hrc, hrs⟩ := F
  obtain ⟨hr, rfl, rfl, rfl⟩ := Rr
  intro H locs ls hP hS hl
  exact W.lret (v := v) hx hb hr (fun t ht _ => ⟨⟨_, h, rfl, hp, by rw [ht]; exact hP⟩, hS.F ht⟩) hS.2.2 dg hlk
theorem rn_vret (F : FxT X cc own dd) {post : Option Value → HpT → Prop} (Rr : RxT X none post) (dg : decode cc pc = .ok (.return_, 1)) (hp : post none h) : rn X pc lo [] h := by
  obtain ⟨⟨l, N, S, ad, cA, D, tT⟩, p, e, R, s, m, args, below, meth, c, cells, slots, Q, nL, A⟩ := X
  obtain ⟨hx, hb, hml, hown, hts, hlk, hK, hD, hA, hst, hrf, hrl, hrc, hrs⟩ := F
  obtain ⟨hr, rfl, rfl, rfl⟩ := Rr
  intro H locs ls hP hS hl
  exact W.vret hx hb hr (fun t ht _ => ⟨⟨_, h, rfl, hp, by rw [ht]; exact hP⟩, hS.F ht⟩) hS.2.2 dg hlk
theorem rn_mmax (F : FxT X cc own dd) {idx : Nat} {x y : Int32} (dg : decode cc pc = .ok (.invokestatic idx, 3)) (hn : pc + 3 = np) (h1 : Cond.methodLink own idx Lib.Math.max.name ∈ WG) (h2 : Cond.static Lib.Math.max.name ∈ WG) (h3 : Cond.initialized "java/lang/Math" ∈ WG) (h4 : Cond.code Lib.Math.max.name Lib.Math.max.code 2 (some .int) ∈ WG) (hd1 : 1 ≤ dd) (hw : (st.map fun v => v.category).sum ≤ 8) (k : rn X np lo (.int (if x < y then y else x) :: st) h) : rn X pc lo (.int y :: .int x :: st) h := by
  obtain ⟨⟨l, N, S, ad, cA, D, tT⟩, p, e, R, s, m, args, below, meth, c, cells, slots, Q, nL, A⟩ := X
  obtain ⟨hx, hb, hml, hown, hts, hlk, hK, hD, hA, hst, hrf, hrl, hrc, hrs⟩ := F
  subst hn
  intro H locs ls hP hS hl
  exact va_mmax hx hb (hml.trans hl.1.symm) hown (hts _ h1) (hts _ h2) (hts _ h3) (hts _ h4) (by omega) (by omega) hrc hrs dg (k H locs ls hP hS hl)
theorem rn_mmin (F : FxT X cc own dd) {idx : Nat} {x y : Int32} (dg : decode cc pc = .ok (.invokestatic idx, 3)) (hn : pc + 3 = np) (h1 : Cond.methodLink own idx Lib.Math.min.name ∈ WG) (h2 : Cond.static Lib.Math.min.name ∈ WG) (h3 : Cond.initialized "java/lang/Math" ∈ WG) (h4 : Cond.code Lib.Math.min.name Lib.Math.min.code 2 (some .int) ∈ WG) (hd1 : 1 ≤ dd) (hw : (st.map fun v => v.category).sum ≤ 8) (k : rn X np lo (.int (if y < x then y else x) :: st) h) : rn X pc lo (.int y :: .int x :: st) h := by
  obtain ⟨⟨l, N, S, ad, cA, D, tT⟩, p, e, R, s, m, args, below, meth, c, cells, slots, Q, nL, A⟩ := X
  obtain ⟨hx, hb, hml, hown, hts, hlk, hK, hD, hA, hst, hrf, hrl, hrc, hrs⟩ := F
  subst hn
  intro H locs ls hP hS hl
  exact va_mmin hx hb (hml.trans hl.1.symm) hown (hts _ h1) (hts _ h2) (hts _ h3) (hts _ h4) (by omega) (by omega) hrc hrs dg (k H locs ls hP hS hl)
theorem rn_mabs (F : FxT X cc own dd) {idx : Nat} {x : Int32} (dg : decode cc pc = .ok (.invokestatic idx, 3)) (hn : pc + 3 = np) (h1 : Cond.methodLink own idx Lib.Math.abs.name ∈ WG) (h2 : Cond.static Lib.Math.abs.name ∈ WG) (h3 : Cond.initialized "java/lang/Math" ∈ WG) (h4 : Cond.code Lib.Math.abs.name Lib.Math.abs.code 1 (some .int) ∈ WG) (hd1 : 1 ≤ dd) (hw : (st.map fun v => v.category).sum ≤ 8) (k : rn X np lo (.int (if 0 ≤ x then x else 0 - x) :: st) h) : rn X pc lo (.int x :: st) h := by
  obtain ⟨⟨l, N, S, ad, cA, D, tT⟩, p, e, R, s, m, args, below, meth, c, cells, slots, Q, nL, A⟩ := X
  obtain ⟨hx, hb, hml, hown, hts, hlk, hK, hD, hA, hst, hrf, hrl, hrc, hrs⟩ := F
  subst hn
  intro H locs ls hP hS hl
  exact va_mabs hx hb (hml.trans hl.1.symm) hown (hts _ h1) (hts _ h2) (hts _ h3) (hts _ h4) (by omega) (by omega) hrc hrs dg (k H locs ls hP hS hl)
end RN
