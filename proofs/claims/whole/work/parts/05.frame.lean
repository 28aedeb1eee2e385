/-! ===== the layer of rows over one fixed world: h : cell -> place -> int ===== -/
abbrev HpT : Type := Nat → Nat → Int32
/-- a cell's shape: an int array of a length; or an object: its class' number, its fields: a reference to a cell, or an int -/
abbrev ShT : Type := Nat → (Nat ⊕ (Nat × List (Option Nat)))
/-- launch, number of cells, their shapes, their addresses, the class of int arrays, classes, the table's address -/
abbrev GxT : Type := Launch × Nat × ShT × (Nat → Nat) × ClassId × va_G × Nat
abbrev classes : List vw_C := [(RX0, TX0, 14), (RX1, TX1, 6), (RX2, TX2, 12), (RX3, TX3, 2), (RX4, TX4, 7), (RX5, TX5, 21)]
def ce (ad : Nat → Nat) (cA : ClassId) (sh : Nat ⊕ (Nat × List (Option Nat))) (f : Nat → Int32) : va_E := match sh with
  | .inl n => .inl (cA, n, .inl f)
  | .inr o => .inr (o.1, o.2.mapIdx (fun j r => match r with | some q => Value.ref (ad q) | none => Value.int (f j)))
def wl (N : Nat) (S : ShT) (ad : Nat → Nat) (cA : ClassId) (h : HpT) : va_W := (List.range N).map (fun k => (ad k, ce ad cA (S k) (h k)))
theorem wl_at {N : Nat} {S : ShT} {ad : Nat → Nat} {cA : ClassId} {h : HpT} {k : Nat} (hk : k < N) : (wl N S ad cA h)[k]? = some (ad k, ce ad cA (S k) (h k)) := by
  simp [wl, hk]
theorem wl_set {N : Nat} {S : ShT} {ad : Nat → Nat} {cA : ClassId} {h : HpT} {k : Nat} (hk : k < N) (f : Nat → Int32) : (wl N S ad cA h).set k (ad k, ce ad cA (S k) f) = wl N S ad cA (va_up h k f) := by
  apply List.ext_getElem?
  intro i
  by_cases hi : i < N
  · by_cases e : k = i
    · subst e
      rw [wl_at hi, va_up_self, List.getElem?_set_self (by simp [wl, hk])]
    · rw [List.getElem?_set_ne e, wl_at hi, wl_at hi, va_up_ne _ _ (fun q => e q.symm)]
  · rw [List.getElem?_eq_none (by simp [wl]; omega), List.getElem?_eq_none (by simp [wl]; omega)]
theorem wl_D {N : Nat} {S : ShT} {ad : Nat → Nat} {cA : ClassId} {A : Nat → Prop} {h h' : HpT} (hD : va_D A (wl N S ad cA h)) : va_D A (wl N S ad cA h') := by
  have key : ∀ (k : Nat) (q : Nat × va_E), (wl N S ad cA h')[k]? = some q → k < N ∧ q.1 = ad k := by
    intro k q hq
    by_cases hk : k < N
    · rw [wl_at hk] at hq
      cases hq
      exact ⟨hk, rfl⟩
    · rw [List.getElem?_eq_none (by simp [wl]; omega)] at hq
      cases hq
  refine ⟨fun i j p q hp hq e => ?_, fun k q hq => ?_⟩
  · obtain ⟨h1, e1⟩ := key i p hp
    obtain ⟨h2, e2⟩ := key j q hq
    exact hD.1 i j _ _ (wl_at h1) (wl_at h2) (by rw [← e1, ← e2]; exact e)
  · obtain ⟨h1, e1⟩ := key k q hq
    rw [e1]
    exact hD.2 k _ (wl_at h1)
def hs (h : HpT) (k j : Nat) (v : Int32) : HpT := va_up h k (upd (h k) j v)
theorem hs_at (h : HpT) (k j : Nat) (v : Int32) (k' j' : Nat) : hs h k j v k' j' = if k' = k ∧ j' = j then v else h k' j' := by
  unfold hs va_up upd
  by_cases h1 : k' = k
  · subst h1
    by_cases h2 : j' = j <;> simp [h2]
  · simp [h1]
/-- what a method may change: the world's cells, and those that come -/
def Af (N : Nat) (ad : Nat → Nat) (sz : Nat) : Nat → Prop := fun q => (∃ k : Nat, k < N ∧ q = ad k) ∨ sz ≤ q
/-- the table: how many times its size a house takes -/
def tmI : List Int32 := [1, 1, 1, 1, 1, 1, 1, 1, 2, 2, 1, 1, 1, 1, 0, 0, 1, 1, 0, 1, 2, 2, 1, 0, 0, 3, 0, 0, 3, 0, 0, 0, -1, -1, -1, -1]
def tmV (j : Nat) : Value := .int (tmI.getD j 0)
def stG (tT : Nat) (A : Nat → Prop) (U : State) (H : Heap) : Prop := va_Z "PhaseLoads" "TIMES" "[I" (.ref tT) A U H ∧ va_T .int tT 36 tmV A U H ∧ va_Nw (.fieldLinkNest RX2 87 "PhaseLoads" "TIMES" "[I" "PhaseLoads") U ∧ va_Nw (.methodLinkNest RX2 80 yX4_pack "PhaseLoads") U ∧ va_Nw (.methodLinkNest RX2 84 yX4_phaseIn "PhaseLoads") U ∧ va_Nw (.methodLinkNest RX0 138 yX4_pack "PhaseLoads") U
theorem stG_go {tT : Nat} {A B : Nat → Prop} {s U : State} {H : Heap} {locs : List Loc} (h : stG tT A s s.heap) (hS : va_S A s.heap H locs) (hW : s.WarmedH U.vm) (hU : U.heap = H) (hBA : ∀ q, B q → A q) : stG tT B U U.heap := by
  obtain ⟨h1, h2, h3, h4, h5, h6⟩ := h
  rw [hU]
  exact ⟨((h1.kept (fun a q1 q2 => hS.2.1 a q1 q2)).moved hW.alike).narrow hBA, ((h2.kept (fun a q1 q2 => hS.2.1 a q1 q2)).moved hW.alike).narrow hBA, va_Nw.warmF hW h3, va_Nw.warmM hW h4, va_Nw.warmM hW h5, va_Nw.warmM hW h6⟩
def rmD (d : Nat) : Room := { frames := d, cells := 0, slots := 0, locals := 64 * d }
/-- what holds at a method's start -/
def preG : GxT → Nat → HpT → State → Prop
  | (_, N, S, ad, cA, D, tT), sz, h, U => U.heap.size = sz ∧ va_P D classes (wl N S ad cA h) U.heap ∧ va_K D classes [(cA, .int)] U ∧ va_D (fun _ => True) (wl N S ad cA h) ∧ stG tT (Af N ad sz) U U.heap
/-- and at its end -/
def mqG : GxT → (Nat → Prop) → (Option Value → HpT → Prop) → Array Value → State → Outcome → State → Prop
  | (_, N, S, ad, cA, D, _), A, post, _, st, o, t => (∃ (r : Option Value) (h' : HpT), o = .returned r ∧ post r h' ∧ va_P D classes (wl N S ad cA h') t.heap) ∧ va_F A st t
/-- A METHOD'S CONTRACT over the fixed world -/
def mc : GxT → MethodName → ByteArray → Nat → Option FieldType → Nat → List Value → HpT → (Option Value → HpT → Prop) → Prop
  | (l, N, S, ad, cA, D, tT), y, cc, maxL, ret, d, av, h, post => ∀ sz : Nat, Met l y (.code y cc maxL ret :: WG) (rmD d) (va_Pc av (preG (l, N, S, ad, cA, D, tT) sz h)) (mqG (l, N, S, ad, cA, D, tT) (Af N ad sz) post) 0 0 (Af N ad sz)
abbrev mci (G : GxT) (y : MethodName) (cc : ByteArray) (maxL : Nat) (ret : Option FieldType) (d : Nat) (av : List Value) (h : HpT) (x : Int32) (h' : HpT) : Prop := mc G y cc maxL ret d av h (fun r h2 => r = some (.int x) ∧ h2 = h')
abbrev mcl (G : GxT) (y : MethodName) (cc : ByteArray) (maxL : Nat) (ret : Option FieldType) (d : Nat) (av : List Value) (h : HpT) (x : Int64) (h' : HpT) : Prop := mc G y cc maxL ret d av h (fun r h2 => r = some (.long x) ∧ h2 = h')
abbrev mcv (G : GxT) (y : MethodName) (cc : ByteArray) (maxL : Nat) (ret : Option FieldType) (d : Nat) (av : List Value) (h : HpT) (h' : HpT) : Prop := mc G y cc maxL ret d av h (fun r h2 => r = none ∧ h2 = h')
abbrev gad (G : GxT) : Nat → Nat := G.2.2.2.1
/-- cell k is there, of that shape -/
def shp (G : GxT) (k : Nat) (s : Nat ⊕ (Nat × List (Option Nat))) : Prop := k < G.2.1 ∧ G.2.2.1 k = s
/-- all that stays the same in a method's body -/
abbrev XxT : Type := GxT × Program × Env × Room × State × MethodId × Array Value × List Frame × Method × Code × Nat × Nat × (State → Prop) × Nat × (Nat → Prop)
def rn : XxT → Nat → List (Nat × Value) → List Value → HpT → Prop
  | ((l, N, S, ad, cA, D, _), p, e, R, s, m, args, below, meth, c, cells, slots, Q, nL, A), pc, lo, st, h => ∀ (H : Heap) (locs : List Loc) (ls : Array Slot), va_P D classes (wl N S ad cA h) H → va_S A s.heap H locs → lv_has ls nL lo → W p l e R s m args below meth c H locs cells slots Q (F0 m pc ls st)
def FxT : XxT → ByteArray → String → Nat → Prop
  | ((_, N, S, ad, cA, D, tT), p, _, R, s, m, args, _, meth, c, cells, slots, _, nL, A), cc, own, d => p.tables.exec = Jvm.exec ∧ c.code = cc ∧ c.maxLocals = nL ∧ s.vm.findClass own = some m.cls ∧ (∀ w ∈ WG, w.before args s = true) ∧ meth.locks = false ∧ va_K D classes [(cA, .int)] s ∧ (∀ h : HpT, va_D A (wl N S ad cA h)) ∧ (∀ q, s.heap.size ≤ q → A q) ∧ stG tT A s s.heap ∧ d ≤ R.frames ∧ 64 * d ≤ R.locals ∧ cells ≤ R.cells ∧ slots ≤ R.slots
/-- how it returns -/
def RxT : XxT → Option FieldType → (Option Value → HpT → Prop) → Prop
  | (G, _, _, _, s, _, args, below, meth, _, cells, slots, Q, _, A), ret, post => meth.sig.returnType = ret ∧ cells = 0 ∧ slots = 0 ∧ Q = MQ below (mqG G A post) args s 0 0 A
theorem wg_good (c0 : Cond) {ws : List Cond} (h : ∀ w ∈ ws, w ∈ WG) : GoodIn (c0 :: WG) ws := fun w hw => ⟨List.mem_cons_of_mem _ (h w hw), good_of_word (List.mem_filter.mp (h w hw)).2⟩
theorem wg_goodG {ws : List Cond} (h : ∀ w ∈ ws, w ∈ WG) : GoodIn WG ws := fun w hw => ⟨h w hw, good_of_word (List.mem_filter.mp (h w hw)).2⟩
theorem Af_sub {N : Nat} {S : ShT} {ad : Nat → Nat} {cA : ClassId} {A : Nat → Prop} {h : HpT} {sz : Nat} (hD : va_D A (wl N S ad cA h)) (hA : ∀ q, sz ≤ q → A q) : ∀ q, Af N ad sz q → A q := by
  intro q hq
  rcases hq with ⟨k, hk, rfl⟩ | hq
  · exact hD.2 k _ (wl_at hk)
  · exact hA q hq
theorem mc_of {G : GxT} {y : MethodName} {cc : ByteArray} {maxL : Nat} {ret : Option FieldType} {d : Nat} {av : List Value} {h : HpT} {post : Option Value → HpT → Prop} (hy : plainName y.cls = true) (hav : (lg_sl av).length ≤ maxL)
    (body : ∀ X : XxT, X.1 = G → FxT X cc y.cls d → RxT X ret post → X.2.2.2.2.2.2.2.2.2.2.2.2.2.1 = maxL → rn X 0 (lv_args 0 av) [] h) : mc G y cc maxL ret d av h post := by
  obtain ⟨l, N, S, ad, cA, D, tT⟩ := G
  intro sz
  refine Met.ofW (cc := cc) (maxL := maxL) (ret := ret) hy rfl ?_
  intro p e s m args below meth c s₁ B hml hv
  obtain ⟨rfl, hsz, hP, hK, hD, hst⟩ := hv
  subst hsz
  have hts := atoms_spec (ws := .code y cc maxL ret :: WG) B.pre
  have hl := lv_entry av (n := maxL) hav
  rw [lg_entry_eq]
  have hDA : ∀ h2 : HpT, va_D (Af N ad s.heap.size) (wl N S ad cA h2) := fun h2 => wl_D (h := h) ⟨hD.1, fun k q hq => by
    by_cases hk : k < N
    · rw [wl_at hk] at hq
      cases hq
      exact Or.inl ⟨k, hk, rfl⟩
    · rw [List.getElem?_eq_none (by simp [wl]; omega)] at hq
      cases hq⟩
  have key := body ((l, N, S, ad, cA, D, tT), p, e, (headSpec (.code y cc maxL ret :: WG) (rmD d)).room, s, m, av.toArray, below, meth, c, 0, 0, MQ below (mqG (l, N, S, ad, cA, D, tT) (Af N ad s.heap.size) post) av.toArray s 0 0 (Af N ad s.heap.size), maxL, Af N ad s.heap.size) rfl
    ⟨B.exec, B.bytes, hml, findClass_of_methodNamed B.named, fun w hw => hts w (List.mem_cons_of_mem _ hw), B.notSynchronized, hK, hDA, fun q hq => Or.inr hq, hst, Nat.le_refl _, Nat.le_refl _, Nat.zero_le _, Nat.zero_le _⟩
    ⟨B.returns, rfl, rfl, rfl⟩ rfl
  exact key s.heap [] _ hP va_S.rf hl
