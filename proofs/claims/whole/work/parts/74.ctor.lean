/-! ===== constructors: rows over a world that grows ===== -/
abbrev YxT : Type := Launch × ClassId × va_G × Nat × Program × Env × Room × State × MethodId × Array Value × List Frame × Method × Code × (State → Prop) × Nat × (Nat → Prop)
def cn : YxT → Nat → List (Nat × Value) → List Value → va_W → Nat → Nat → Prop
  | (l, _, D, _, p, e, R, s, m, args, below, meth, c, Q, nL, A), pc, lo, st, ws, cells, slots => ∀ (H : Heap) (locs : List Loc) (ls : Array Slot), va_P D classes ws H → va_D A ws → va_S A s.heap H locs → lv_has ls nL lo → W p l e R s m args below meth c H locs cells slots Q (F0 m pc ls st)
def stC (tT : Nat) (A : Nat → Prop) (U : State) (H : Heap) : Prop := stG tT A U H ∧ va_Nw (.methodLinkNest RX4 34 yX3_init "PhaseLoads") U
theorem stC_go {tT : Nat} {A B : Nat → Prop} {s U : State} {H : Heap} {locs : List Loc} (h : stC tT A s s.heap) (hS : va_S A s.heap H locs) (hW : s.WarmedH U.vm) (hU : U.heap = H) (hBA : ∀ q, B q → A q) : stC tT B U U.heap := ⟨stG_go h.1 hS hW hU hBA, va_Nw.warmM hW h.2⟩
def FyT : YxT → ByteArray → String → Nat → Nat → Nat → Prop
  | (_, cA, D, tT, p, _, R, s, m, args, _, meth, c, _, nL, A), cc, own, d, mC, mS => p.tables.exec = Jvm.exec ∧ c.code = cc ∧ c.maxLocals = nL ∧ s.vm.findClass own = some m.cls ∧ (∀ w ∈ WG, w.before args s = true) ∧ meth.locks = false ∧ va_K D classes [(cA, .int)] s ∧ (∀ q, s.heap.size ≤ q → A q) ∧ stC tT A s s.heap ∧ d ≤ R.frames ∧ 64 * d ≤ R.locals ∧ mC ≤ R.cells ∧ mS ≤ R.slots
def rmC (d mC mS : Nat) : Room := { frames := d, cells := mC, slots := mS, locals := 64 * d }
def kq (D : va_G) (A : Nat → Prop) (post : va_W → Prop) : Array Value → State → Outcome → State → Prop := fun _ st o t => (∃ w1 : va_W, o = .returned none ∧ post w1 ∧ va_P D classes w1 t.heap ∧ va_D A w1) ∧ va_F A st t
def kpre (cA : ClassId) (D : va_G) (tT : Nat) (w0 : va_W) (sz : Nat) (U : State) : Prop := U.heap.size = sz ∧ va_P D classes w0 U.heap ∧ va_K D classes [(cA, .int)] U ∧ va_D (fun _ => True) w0 ∧ stC tT (va_A w0 sz) U U.heap
/-- A CONSTRUCTOR'S CONTRACT -/
def kc (l : Launch) (cA : ClassId) (D : va_G) (tT : Nat) (y : MethodName) (cc : ByteArray) (maxL d mC mS : Nat) (av : List Value) (w0 : va_W) (post : va_W → Prop) : Prop := ∀ sz : Nat, Met l y (.code y cc maxL none :: WG) (rmC d mC mS) (va_Pc av (kpre cA D tT w0 sz)) (kq D (va_A w0 sz) post) mC mS (va_A w0 sz)
def RyT : YxT → Nat → Nat → (va_W → Prop) → Prop
  | (_, _, D, _, _, _, _, s, _, args, below, meth, _, Q, _, A), mC, mS, post => meth.sig.returnType = none ∧ meth.name = "<init>" ∧ Q = MQ below (kq D A post) args s mC mS A
theorem kc_of {l : Launch} {cA : ClassId} {D : va_G} {tT : Nat} {y : MethodName} {cc : ByteArray} {maxL d mC mS : Nat} {av : List Value} {w0 : va_W} {post : va_W → Prop} (hy : plainName y.cls = true) (hyn : y.name = "<init>") (hav : (lg_sl av).length ≤ maxL)
    (body : ∀ Y : YxT, Y.1 = l → Y.2.1 = cA → Y.2.2.1 = D → Y.2.2.2.1 = tT → FyT Y cc y.cls d mC mS → RyT Y mC mS post → Y.2.2.2.2.2.2.2.2.2.2.2.2.2.2.1 = maxL → cn Y 0 (lv_args 0 av) [] w0 0 0) : kc l cA D tT y cc maxL d mC mS av w0 post := by
  intro sz
  refine Met.ofW (cc := cc) (maxL := maxL) (ret := none) hy rfl ?_
  intro p e s m args below meth c s₁ B hml hv
  obtain ⟨rfl, hsz, hP, hK, hD, hst⟩ := hv
  subst hsz
  have hts := atoms_spec (ws := .code y cc maxL none :: WG) B.pre
  have hl := lv_entry av (n := maxL) hav
  rw [lg_entry_eq]
  have hin : meth.name = "<init>" := ((name_of_methodNamed B.named B.method).1).trans hyn
  exact body (l, cA, D, tT, p, e, (headSpec (.code y cc maxL none :: WG) (rmC d mC mS)).room, s, m, av.toArray, below, meth, c, MQ below (kq D (va_A w0 s.heap.size) post) av.toArray s mC mS (va_A w0 s.heap.size), maxL, va_A w0 s.heap.size) rfl rfl rfl rfl
    ⟨B.exec, B.bytes, hml, findClass_of_methodNamed B.named, fun w hw => hts w (List.mem_cons_of_mem _ hw), B.notSynchronized, hK, fun q hq => Or.inr hq, hst, Nat.le_refl _, Nat.le_refl _, Nat.le_refl _, Nat.le_refl _⟩ ⟨B.returns, hin, rfl⟩ rfl s.heap [] _ hP (hD.self) va_S.rf hl
theorem ct_goes {p : Program} {l : Launch} {e : Env} {R : Room} {s : State} {m : MethodId} {args : Array Value} {below : List Frame} {meth : Method} {c : Code} {H : Heap} {locs : List Loc} {cells slots mc ms : Nat} {Q : State → Prop} {pc : Nat} {ls : Array Slot} {stk rest : List Value} {a : Array Value} {D : va_G} {A : Nat → Prop} {w0 : va_W} {post : va_W → Prop}
    (hr : va_Run p l e R s m args below meth c H locs cells slots mc ms (F0 m pc ls stk) rest (kq D (va_A w0 H.size) post a) (va_A w0 H.size)) (hS : va_S A s.heap H locs) (hsub : ∀ q, va_A w0 H.size q → A q)
    (kk : ∀ (w1 : va_W) (H1 : Heap) (locs1 : List Loc), post w1 → va_P D classes w1 H1 → va_D (va_A w0 H.size) w1 → (∀ q : Nat, q < H.size → ¬ va_A w0 H.size q → H1[q]? = H[q]?) → va_S A s.heap H1 locs1 → W p l e R s m args below meth c H1 locs1 (cells + mc) (slots + ms) Q (F0 m (pc + 3) ls rest)) : W p l e R s m args below meth c H locs cells slots Q (F0 m pc ls stk) := by
  intro T hT X
  obtain ⟨v, st₀, t, T', L, h0, X', hL, e1, e2, ⟨⟨w1, hv, hp, hb, hd⟩, hz, hk⟩, st⟩ := hr T hT X
  cases hv
  rw [h0] at hz hk
  obtain ⟨t2, a1, b1⟩ := kk w1 T'.heap (locs ++ L) hp (by rw [e1]; exact hb) hd (fun q h1 h2 => by rw [e1]; exact hk q h1 h2) ⟨Nat.le_trans hS.1 (by rw [e1]; exact hz), fun q h1 h2 => by rw [e1, hk q (Nat.lt_of_lt_of_le h1 hS.1) (fun z => h2 (hsub q z))]; exact hS.2.1 q h1 h2, fun q hq => by
      rcases List.mem_append.mp hq with h | h
      · exact hS.2.2 q h
      · exact hsub _ (hL q h)⟩ T' rfl X'
  exact ⟨t2, st t2 a1, b1⟩
theorem blind_k {cA : ClassId} {D : va_G} {tT : Nat} {w0 : va_W} {sz : Nat} {av : List Value} : FrameBlind (va_Pc av (kpre cA D tT w0 sz)) := by
  intro a U g mk q
  obtain ⟨q0, q1, qP, qK, qD, ⟨z1, z2, z3, z4, z5, z6⟩, z7⟩ := q
  exact ⟨q0, q1, qP, va_K.moved (u := U) (U := U.calling g mk a) (Vm.Alike.refl U.vm) qK, qD, ⟨va_Z.moved (u := U) (U := U.calling g mk a) (Vm.Alike.refl U.vm) z1, va_T.moved (u := U) (U := U.calling g mk a) (Vm.Alike.refl U.vm) z2, va_Nw.same rfl (rfl : U.vm = (U.calling g mk a).vm) z3, va_Nw.same rfl (rfl : U.vm = (U.calling g mk a).vm) z4, va_Nw.same rfl (rfl : U.vm = (U.calling g mk a).vm) z5, va_Nw.same rfl (rfl : U.vm = (U.calling g mk a).vm) z6⟩, va_Nw.same rfl (rfl : U.vm = (U.calling g mk a).vm) z7⟩
section CN
variable {Y : YxT} {cc : ByteArray} {own : String} {dd mC mS pc np cells slots : Nat} {lo : List (Nat × Value)} {st : List Value} {ws : va_W}
theorem cn_aload_n (F : FyT Y cc own dd mC mS) {q : Fin 4} {x : Nat} (dg : decode cc pc = .ok (.aload_n q, 1)) (hn : pc + 1 = np) (hf : lfind lo (q : Nat) = some (.ref x)) (k : cn Y np lo (.ref x :: st) ws cells slots) : cn Y pc lo st ws cells slots := by
  obtain ⟨l, cA, D, tT, p, e, R, s, m, args, below, meth, c, Q, nL, A⟩ := Y
  obtain ⟨hx, hb, hml, hown, hts, hlk, hK, hA, hst, hrf, hrl, hrc, hrs⟩ := F
  subst hn
  intro H locs ls hP hD hS hl
  exact lv_aload_n hx hb dg rfl (lfind_at hl hf) (k H locs ls hP hD hS hl)
theorem cn_bipush (F : FyT Y cc own dd mC mS) {n : Int} {v : Int32} (dg : decode cc pc = .ok (.bipush n, 2)) (hn : pc + 2 = np) (hv : (Int8.ofInt n).toInt32 = v) (k : cn Y np lo (.int v :: st) ws cells slots) : cn Y pc lo st ws cells slots := by
  obtain ⟨l, cA, D, tT, p, e, R, s, m, args, below, meth, c, Q, nL, A⟩ := Y
  obtain ⟨hx, hb, hml, hown, hts, hlk, hK, hA, hst, hrf, hrl, hrc, hrs⟩ := F
  subst hn
  intro H locs ls hP hD hS hl
  exact lv_bipush hx hb dg hv (k H locs ls hP hD hS hl)
theorem cn_sipush (F : FyT Y cc own dd mC mS) {n : Int} {v : Int32} (dg : decode cc pc = .ok (.sipush n, 3)) (hn : pc + 3 = np) (hv : (Int16.ofInt n).toInt32 = v) (k : cn Y np lo (.int v :: st) ws cells slots) : cn Y pc lo st ws cells slots := by
  obtain ⟨l, cA, D, tT, p, e, R, s, m, args, below, meth, c, Q, nL, A⟩ := Y
  obtain ⟨hx, hb, hml, hown, hts, hlk, hK, hA, hst, hrf, hrl, hrc, hrs⟩ := F
  subst hn
  intro H locs ls hP hD hS hl
  exact lv_sipush hx hb dg hv (k H locs ls hP hD hS hl)
theorem cn_iconst (F : FyT Y cc own dd mC mS) {n : Int} {v : Int32} (dg : decode cc pc = .ok (.iconst n, 1)) (hn : pc + 1 = np) (hv : Int32.ofInt n = v) (k : cn Y np lo (.int v :: st) ws cells slots) : cn Y pc lo st ws cells slots := by
  obtain ⟨l, cA, D, tT, p, e, R, s, m, args, below, meth, c, Q, nL, A⟩ := Y
  obtain ⟨hx, hb, hml, hown, hts, hlk, hK, hA, hst, hrf, hrl, hrc, hrs⟩ := F
  subst hn
  intro H locs ls hP hD hS hl
  exact lv_iconst hx hb dg hv (k H locs ls hP hD hS hl)
theorem cn_dup (F : FyT Y cc own dd mC mS) {v : Value} (dg : decode cc pc = .ok (.dup, 1)) (hn : pc + 1 = np) (hv : v.category = 1) (k : cn Y np lo (v :: v :: st) ws cells slots) : cn Y pc lo (v :: st) ws cells slots := by
  obtain ⟨l, cA, D, tT, p, e, R, s, m, args, below, meth, c, Q, nL, A⟩ := Y
  obtain ⟨hx, hb, hml, hown, hts, hlk, hK, hA, hst, hrf, hrl, hrc, hrs⟩ := F
  subst hn
  intro H locs ls hP hD hS hl
  exact lv_dup hx hb dg hv (k H locs ls hP hD hS hl)
theorem cn_astore_n (F : FyT Y cc own dd mC mS) {q : Fin 4} {x nl : Nat} (dg : decode cc pc = .ok (.astore_n q, 1)) (hn : pc + 1 = np) (hL : Y.2.2.2.2.2.2.2.2.2.2.2.2.2.2.1 = nl) (hb2 : Nat.blt (q : Nat) nl = true) (k : cn Y np ((q.val, Value.ref x) :: lo.filter (fun z => !(z.1 == q.val) && !(z.1 + 1 == q.val && z.2.category == 2))) st ws cells slots) : cn Y pc lo (.ref x :: st) ws cells slots := by
  obtain ⟨l, cA, D, tT, p, e, R, s, m, args, below, meth, c, Q, nL, A⟩ := Y
  obtain ⟨hx, hb, hml, hown, hts, hlk, hK, hA, hst, hrf, hrl, hrc, hrs⟩ := F
  subst hn
  intro H locs ls hP hD hS hl
  subst hL
  exact lv_astore_n hx hb dg rfl hl (Nat.le_of_ble_eq_true hb2) rfl (fun ls' hl' => k H locs ls' hP hD hS hl')
theorem cn_obj (F : FyT Y cc own dd mC mS) {idx a : Nat} (dg : decode cc pc = .ok (.invokespecial idx, 3)) (hn : pc + 3 = np) (hm : Cond.methodLink own idx objectInit ∈ WG) (hd : 1 ≤ dd) (hst0 : (st.map fun v => v.category).sum ≤ 8) (k : cn Y np lo st ws cells slots) : cn Y pc lo (.ref a :: st) ws cells slots := by
  obtain ⟨l, cA, D, tT, p, e, R, s, m, args, below, meth, c, Q, nL, A⟩ := Y
  obtain ⟨hx, hb, hml, hown, hts, hlk, hK, hA, hst, hrf, hrl, hrc, hrs⟩ := F
  subst hn
  intro H locs ls hP hD hS hl
  refine W.objInit hx hb hown (hts _ hm) (hts _ wI_objectInit) (hts _ wC_objectInit) rfl (by rw [hml]; exact hl.1) rfl dg (by omega) (by have := lv_room (m := m) (pc := pc) (ls := ls) (rest := .ref a :: st) hst0; omega) ?_
  exact k H locs ls hP hD hS hl
theorem cn_newa (F : FyT Y cc own dd mC mS) {n : Int32} {N : Nat} (dg : decode cc pc = .ok (.newarray .int, 2)) (hn : pc + 2 = np) (h0 : ¬ n < 0) (hN : n.toNatClampNeg = N) (hby : N * 4 ≤ 536870912) (hc : cells + 1 ≤ mC) (hs : slots + N ≤ mS) (k : ∀ q : Nat, cn Y np lo (.ref q :: st) (ws ++ [(q, .inl (Y.2.1, N, .inl (fun _ => 0)))]) (cells + 1) (slots + N)) : cn Y pc lo (.int n :: st) ws cells slots := by
  obtain ⟨l, cA, D, tT, p, e, R, s, m, args, below, meth, c, Q, nL, A⟩ := Y
  obtain ⟨hx, hb, hml, hown, hts, hlk, hK, hA, hst, hrf, hrl, hrc, hrs⟩ := F
  subst hn
  intro H locs ls hP hD hS hl
  refine va_newa (atype := .int) (ty := .int) (a0 := (N, .inl (fun _ => 0))) hx hb (hts _ wA_int) rfl hK hP hD hS hA (fun _ => rfl) h0 hN hby (by omega) (by omega) dg (fun q cB H1 hK1 hP1 hD1 hS1 => ?_)
  have e1 : s.vm.findClass ("[" ++ FieldType.int.toString) = some cA := (hK.2 0 (cA, .int) rfl).2
  have e2 : s.vm.findClass ("[" ++ FieldType.int.toString) = some cB := (hK1.2 1 (cB, .int) rfl).2
  have e3 : cB = cA := Option.some.inj (e2.symm.trans e1)
  subst e3
  exact k q H1 locs ls hP1 hD1 hS1 hl
theorem cn_iast (F : FyT Y cc own dd mC mS) {q0 a n j : Nat} {f : Nat → Int32} {x i : Int32} (dg : decode cc pc = .ok (.iastore, 1)) (hn : pc + 1 = np) (he : ws[q0]? = some (a, .inl (Y.2.1, n, .inl f))) (hi : i = nI j) (hj : j < n ∧ j < 2147483648) (k : cn Y np lo st (ws.set q0 (a, .inl (Y.2.1, n, .inl (upd f j x)))) cells slots) : cn Y pc lo (.int x :: .int i :: .ref a :: st) ws cells slots := by
  obtain ⟨l, cA, D, tT, p, e, R, s, m, args, below, meth, c, Q, nL, A⟩ := Y
  obtain ⟨hx, hb, hml, hown, hts, hlk, hK, hA, hst, hrf, hrl, hrc, hrs⟩ := F
  subst hn
  subst hi
  intro H locs ls hP hD hS hl
  refine va_iast hx hb hK hP hD hS q0 0 he rfl (vp_in_iff.mpr ⟨by rw [nI_toInt hj.2]; omega, by rw [nI_toInt hj.2]; omega⟩) dg (fun H1 locs1 hP1 hD1 hS1 => ?_)
  rw [nI_clamp hj.2] at hP1 hD1
  exact k H1 locs1 ls hP1 hD1 hS1 hl
/-- facts of a final field that a constructor writes -/
def FgT (own : String) (idx ci j : Nat) (ty : FieldType) (fin : Bool) : Prop := ∃ (C : String) (Tt : u_T) (Nf : Nat) (ty0 : Nat → FieldType), classes[ci]? = some (C, Tt, Nf) ∧ (∀ w ∈ u_ws C Tt Nf, w ∈ WG) ∧ j < Nf ∧ Cond.fieldLink own idx (Tt j).1 (Tt j).2.1 (Tt j).2.2.1 ∈ WG ∧ (∀ k, k < Nf → parseFieldDescriptor (Tt k).2.2.1 = some (ty0 k)) ∧ (∀ a, a < Nf → ∀ b, b < Nf → a ≠ b → (Tt a).2.1 ≠ (Tt b).2.1) ∧ (Tt j).2.2.2 = fin ∧ parseFieldDescriptor (Tt j).2.2.1 = some ty ∧ (Tt j).1 = own
theorem cn_putF (F : FyT Y cc own dd mC mS) {post : va_W → Prop} (Ry : RyT Y mC mS post) {idx ci j q0 a : Nat} {fs : List Value} {ty : FieldType} {v : Value} (dg : decode cc pc = .ok (.putfield idx, 3)) (hn : pc + 3 = np) (hf : FgT own idx ci j ty true) (he : ws[q0]? = some (a, .inr (ci, fs))) (hnar : narrow ty v = v) (hfit : fits ty v = true) (hl0 : j < fs.length) (k : cn Y np lo st (ws.set q0 (a, .inr (ci, fs.set j v))) cells slots) : cn Y pc lo (v :: .ref a :: st) ws cells slots := by
  obtain ⟨l, cA, D, tT, p, e, R, s, m, args, below, meth, c, Q, nL, A⟩ := Y
  obtain ⟨hx, hb, hml, hown, hts, hlk, hK, hA, hst, hrf, hrl, hrc, hrs⟩ := F
  obtain ⟨hr, hin, -⟩ := Ry
  subst hn
  intro H locs ls hP hD hS hl
  obtain ⟨C, Tt, Nf, ty0, h1, h2, h3, h4, h5, h6, h7, h8, h9⟩ := hf
  exact va_putF (D := D) (ci := ci) (v := v) (ty := ty) (C := C) (T := Tt) (N := Nf) hx hb hts h2 ty0 h5 h6 hown hK hP hD hS q0 he h1 j h3 (hts _ h4) (fun _ h9 => h9) h7 hin h9 h8 hnar hfit hl0 dg (fun H1 locs1 hP1 hD1 hS1 => k H1 locs1 ls hP1 hD1 hS1 hl)
theorem cn_put (F : FyT Y cc own dd mC mS) {idx ci j q0 a : Nat} {fs : List Value} {ty : FieldType} {v : Value} (dg : decode cc pc = .ok (.putfield idx, 3)) (hn : pc + 3 = np) (hf : FgT own idx ci j ty false) (he : ws[q0]? = some (a, .inr (ci, fs))) (hnar : narrow ty v = v) (hfit : fits ty v = true) (hl0 : j < fs.length) (k : cn Y np lo st (ws.set q0 (a, .inr (ci, fs.set j v))) cells slots) : cn Y pc lo (v :: .ref a :: st) ws cells slots := by
  obtain ⟨l, cA, D, tT, p, e, R, s, m, args, below, meth, c, Q, nL, A⟩ := Y
  obtain ⟨hx, hb, hml, hown, hts, hlk, hK, hA, hst, hrf, hrl, hrc, hrs⟩ := F
  subst hn
  intro H locs ls hP hD hS hl
  obtain ⟨C, Tt, Nf, ty0, h1, h2, h3, h4, h5, h6, h7, h8, h9⟩ := hf
  exact va_put (D := D) (ci := ci) (v := v) (ty := ty) (C := C) (T := Tt) (N := Nf) hx hb hts h2 ty0 h5 h6 hown hK hP hD hS q0 he h1 j h3 (hts _ h4) (fun _ h9 => h9) h7 h8 hnar hfit hl0 dg (fun H1 locs1 hP1 hD1 hS1 => k H1 locs1 ls hP1 hD1 hS1 hl)
theorem cn_get (F : FyT Y cc own dd mC mS) {idx ci j q0 a : Nat} {fs : List Value} {v : Value} (dg : decode cc pc = .ok (.getfield idx, 3)) (hn : pc + 3 = np) (hf : FdT own idx ci j) (he : ws[q0]? = some (a, .inr (ci, fs))) (hv : fs[j]? = some v) (k : cn Y np lo (v :: st) ws cells slots) : cn Y pc lo (.ref a :: st) ws cells slots := by
  obtain ⟨l, cA, D, tT, p, e, R, s, m, args, below, meth, c, Q, nL, A⟩ := Y
  obtain ⟨hx, hb, hml, hown, hts, hlk, hK, hA, hst, hrf, hrl, hrc, hrs⟩ := F
  subst hn
  intro H locs ls hP hD hS hl
  obtain ⟨C, Tt, Nf, h1, h2, h3, h4⟩ := hf
  exact va_get (D := D) (ci := ci) (v := v) (C := C) (T := Tt) (N := Nf) hx hb hts h2 hown hK hP q0 he h1 j h3 (hts _ h4) (fun _ h9 => h9) hv dg (k H locs ls hP hD hS hl)
theorem cn_new (F : FyT Y cc own dd mC mS) {idx ci Nf : Nat} {C : String} {Tt : u_T} {ty0 : Nat → FieldType} {fs : List Value} (dg : decode cc pc = .ok (.new idx, 3)) (hn : pc + 3 = np) (hcl : classes[ci]? = some (C, Tt, Nf)) (hin : ∀ w ∈ u_ws C Tt Nf, w ∈ WG) (hty : ∀ k, k < Nf → parseFieldDescriptor (Tt k).2.2.1 = some (ty0 k)) (hL : Cond.classLink own idx C ∈ WG) (hB : Cond.instantiable C Nf ∈ WG) (hI : Cond.initialized C ∈ WG) (hfs : ∀ j, j < Nf → defaultValue (ty0 j) = vp_V fs j) (hc : cells + 1 ≤ mC) (hs : slots + Nf ≤ mS) (k : ∀ q : Nat, cn Y np lo (.ref q :: st) (ws ++ [(q, .inr (ci, fs))]) (cells + 1) (slots + Nf)) : cn Y pc lo st ws cells slots := by
  obtain ⟨l, cA, D, tT, p, e, R, s, m, args, below, meth, c, Q, nL, A⟩ := Y
  obtain ⟨hx, hb, hml, hown, hts, hlk, hK, hA, hst, hrf, hrl, hrc, hrs⟩ := F
  subst hn
  intro H locs ls hP hD hS hl
  exact va_new (ci := ci) (fs := fs) (C := C) (T := Tt) (N := Nf) hx hb hts hin ty0 hty hown (hts _ hL) (hts _ hB) (hts _ hI) hK hP hD hS hA hcl hfs (by omega) (by omega) dg (fun q H1 hP1 hD1 hS1 => k q H1 locs ls hP1 hD1 hS1 hl)
/-- a call of a constructor: its object stands last -/
theorem cn_callI (F : FyT Y cc own dd mC mS) {y : MethodName} {bytes : ByteArray} {maxL n d' mc ms idx b : Nat} {As rest : List Value} {w0 wr : va_W} {post : va_W → Prop} (dg : decode cc pc = .ok (.invokespecial idx, 3)) (hn : pc + 3 = np) (hm : Cond.methodLink own idx y ∈ WG) (hi : Cond.instanceMethod y ∈ WG) (hini : Cond.initialized y.cls ∈ WG) (hcode : Cond.code y bytes maxL none ∈ WG) (hyn : y.name = "<init>") (hdsc : y.cls ≠ "java/lang/invoke/MethodHandle" ∧ y.cls ≠ "java/lang/invoke/VarHandle" ∧ (parseMethodDescriptor y.desc).map (fun d => d.parameters.length) = some n) (hlen : As.length = n)
    (hM : kc Y.1 Y.2.1 Y.2.2.1 Y.2.2.2.1 y bytes maxL d' mc ms (.ref b :: As) w0 post) (isC isR : List Nat) (hC : isC.map (fun i => ws[i]?) = w0.map some) (hC2 : isC.filterMap (fun i => ws[i]?) = w0) (hR : isR.map (fun i => ws[i]?) = wr.map some) (hnc : va_nd isC = true) (hnr : va_nd isR = true) (hdis : ∀ i ∈ isR, i ∉ isC) (hd : d' + 1 ≤ dd) (hmL : maxL ≤ 40) (hc : cells + mc ≤ mC) (hs : slots + ms ≤ mS) (hw : (rest.map fun v => v.category).sum ≤ 8)
    (k : ∀ w1, post w1 → cn Y np lo rest (wr ++ w1) (cells + mc) (slots + ms)) : cn Y pc lo (As.reverse ++ .ref b :: rest) ws cells slots := by
  obtain ⟨l, cA, D, tT, p, e, R, s, m, args, below, meth, c, Q, nL, A⟩ := Y
  obtain ⟨hx, hb, hml, hown, hts, hlk, hK, hA, hst, hrf, hrl, hrc, hrs⟩ := F
  subst hn
  intro H locs ls hP hD hS hl
  have hPc := hP.sub (ws' := w0) isC hC2
  have hDc := hD.sub (ws' := w0) isC hnc hC
  have hFc := va_free (wc := w0) hD hS hA isC hC
  have hwm : ∀ w ∈ (.code y bytes maxL none :: WG), w ∈ WG := by
    intro w hw
    rcases List.mem_cons.mp hw with rfl | hw
    · exact hcode
    · exact hw
  refine ct_goes (va_runI (Ts := WG) (As := As) (rest := rest) (maxL := maxL) (bytes := bytes) ⟨hx, hb, hml, hown, hts⟩ (hM H.size) (cwI n hts (wg_goodG hwm) rfl rfl rfl (hts _ hini) (hts _ hm) (hts _ hi) hyn hdsc ⟨by show d' + 1 ≤ _; omega, by show 8 + (maxL + 11) + 64 * d' ≤ _; omega⟩) ⟨blind_k, fun U hU hW => ⟨rfl, by rw [hU], by rw [hU]; exact hPc, va_K.moved hW.alike hK, hDc.weaken (fun _ _ _ _ => trivial), stC_go hst hS hW hU hFc⟩⟩ rfl hlen hl.1 rfl (lv_room hw) dg ⟨by omega, by omega⟩) hS hFc (fun w1 H1 locs1 hp hP1 hD1 hk1 hS1 => ?_)
  obtain ⟨hP2, hD2⟩ := va_join (wr := wr) (w1 := w1) hP hD isC isR hC hR hnr hdis hk1 hFc hP1 hD1
  exact k w1 hp H1 locs1 ls hP2 hD2 hS1 hl
/-- a nest mate's private constructor -/
theorem cn_callN (F : FyT Y cc own dd mC mS) {y : MethodName} {bytes : ByteArray} {maxL n d' mc ms idx b : Nat} {host : String} {As rest : List Value} {w0 wr : va_W} {post : va_W → Prop} (dg : decode cc pc = .ok (.invokespecial idx, 3)) (hn : pc + 3 = np) (hm : va_Nw (.methodLinkNest own idx y host) Y.2.2.2.2.2.2.2.1) (hi : Cond.instanceMethod y ∈ WG) (hini : Cond.initialized y.cls ∈ WG) (hcode : Cond.code y bytes maxL none ∈ WG) (hyn : y.name = "<init>") (hdsc : y.cls ≠ "java/lang/invoke/MethodHandle" ∧ y.cls ≠ "java/lang/invoke/VarHandle" ∧ (parseMethodDescriptor y.desc).map (fun d => d.parameters.length) = some n) (hlen : As.length = n)
    (hM : kc Y.1 Y.2.1 Y.2.2.1 Y.2.2.2.1 y bytes maxL d' mc ms (.ref b :: As) w0 post) (isC isR : List Nat) (hC : isC.map (fun i => ws[i]?) = w0.map some) (hC2 : isC.filterMap (fun i => ws[i]?) = w0) (hR : isR.map (fun i => ws[i]?) = wr.map some) (hnc : va_nd isC = true) (hnr : va_nd isR = true) (hdis : ∀ i ∈ isR, i ∉ isC) (hd : d' + 1 ≤ dd) (hmL : maxL ≤ 40) (hc : cells + mc ≤ mC) (hs : slots + ms ≤ mS) (hw : (rest.map fun v => v.category).sum ≤ 8)
    (k : ∀ w1, post w1 → cn Y np lo rest (wr ++ w1) (cells + mc) (slots + ms)) : cn Y pc lo (As.reverse ++ .ref b :: rest) ws cells slots := by
  obtain ⟨l, cA, D, tT, p, e, R, s, m, args, below, meth, c, Q, nL, A⟩ := Y
  obtain ⟨hx, hb, hml, hown, hts, hlk, hK, hA, hst, hrf, hrl, hrc, hrs⟩ := F
  subst hn
  intro H locs ls hP hD hS hl
  have hPc := hP.sub (ws' := w0) isC hC2
  have hDc := hD.sub (ws' := w0) isC hnc hC
  have hFc := va_free (wc := w0) hD hS hA isC hC
  have hwm : ∀ w ∈ (.code y bytes maxL none :: WG), w ∈ WG := by
    intro w hw
    rcases List.mem_cons.mp hw with rfl | hw
    · exact hcode
    · exact hw
  refine ct_goes (va_runIN (Ts := WG) (As := As) (rest := rest) (maxL := maxL) (bytes := bytes) (host := host) ⟨hx, hb, hml, hown, hts⟩ (hM H.size) ⟨va_cnB n hts (wg_goodG hwm) rfl rfl rfl hm (hts _ hini) hdsc ⟨by show d' + 1 ≤ _; omega, by show 8 + (maxL + 11) + 64 * d' ≤ _; omega⟩, hyn, hts _ hi⟩ ⟨blind_k, fun U hU hW => ⟨rfl, by rw [hU], by rw [hU]; exact hPc, va_K.moved hW.alike hK, hDc.weaken (fun _ _ _ _ => trivial), stC_go hst hS hW hU hFc⟩⟩ rfl hlen hl.1 rfl (lv_room hw) dg ⟨by omega, by omega⟩) hS hFc (fun w1 H1 locs1 hp hP1 hD1 hk1 hS1 => ?_)
  obtain ⟨hP2, hD2⟩ := va_join (wr := wr) (w1 := w1) hP hD isC isR hC hR hnr hdis hk1 hFc hP1 hD1
  exact k w1 hp H1 locs1 ls hP2 hD2 hS1 hl
theorem cn_vret (F : FyT Y cc own dd mC mS) {post : va_W → Prop} (Ry : RyT Y mC mS post) (dg : decode cc pc = .ok (.return_, 1)) (hc : cells ≤ mC) (hs : slots ≤ mS) (hp : post ws) : cn Y pc lo [] ws cells slots := by
  obtain ⟨l, cA, D, tT, p, e, R, s, m, args, below, meth, c, Q, nL, A⟩ := Y
  obtain ⟨hx, hb, hml, hown, hts, hlk, hK, hA, hst, hrf, hrl, hrc, hrs⟩ := F
  obtain ⟨hr, hin, rfl⟩ := Ry
  intro H locs ls hP hD hS hl
  refine W.widen (k := mC) (n := mS) hc hs ?_
  exact W.vret hx hb hr (fun t ht _ => ⟨⟨ws, rfl, hp, by rw [ht]; exact hP, hD⟩, hS.F ht⟩) hS.2.2 dg hlk
theorem cn_wsE {ws2 : va_W} (e : ws = ws2) (k : cn Y pc lo st ws2 cells slots) : cn Y pc lo st ws cells slots := e ▸ k
/-- from here on the world is of a fixed shape -/
theorem cn_rn (F : FyT Y cc own dd mC mS) {N : Nat} {S : ShT} {ad : Nat → Nat} {h : HpT} (e : ws = wl N S ad Y.2.1 h) (hc : cells ≤ mC) (hs : slots ≤ mS)
    (k : ∀ X : XxT, X.1 = (Y.1, N, S, ad, Y.2.1, Y.2.2.1, Y.2.2.2.1) → FxT X cc own dd → X.2.2.2.2.2.2.2.2.2.2.2.2.2.1 = Y.2.2.2.2.2.2.2.2.2.2.2.2.2.2.1 → X.2.2.2.2.1 = Y.2.2.2.2.2.2.2.1 → X.2.2.2.2.2.2.2.2.2.2.2.2.2.2 = Y.2.2.2.2.2.2.2.2.2.2.2.2.2.2.2 → (∀ pc lo st h2, cn Y pc lo st (wl N S ad Y.2.1 h2) cells slots → rn X pc lo st h2) → rn X pc lo st h) : cn Y pc lo st ws cells slots := by
  subst e
  obtain ⟨l, cA, D, tT, p, e, R, s, m, args, below, meth, c, Q, nL, A⟩ := Y
  obtain ⟨hx, hb, hml, hown, hts, hlk, hK, hA, hst, hrf, hrl, hrc, hrs⟩ := F
  intro H locs ls hP hD hS hl
  exact k ((l, N, S, ad, cA, D, tT), p, e, R, s, m, args, below, meth, c, cells, slots, Q, nL, A) rfl ⟨hx, hb, hml, hown, hts, hlk, hK, fun h2 => wl_D hD, hA, hst.1, hrf, hrl, Nat.le_trans hc hrc, Nat.le_trans hs hrs⟩ rfl rfl rfl (fun pc lo st h2 z H2 locs2 ls2 hP2 hS2 hl2 => z H2 locs2 ls2 hP2 (wl_D hD) hS2 hl2) H locs ls hP hS hl
end CN
