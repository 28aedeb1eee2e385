theorem run_goes {p : Program} {l : Launch} {e : Env} {R : Room} {s : State} {m : MethodId} {args : Array Value} {below : List Frame} {meth : Method} {c : Code} {H : Heap} {locs : List Loc} {cells slots : Nat} {Q : State → Prop} {pc : Nat} {ls : Array Slot} {stk rest : List Value} {a : Array Value} {N : Nat} {S : ShT} {ad : Nat → Nat} {cA : ClassId} {D : va_G} {tT : Nat} {A : Nat → Prop} {post : Option Value → HpT → Prop}
    (hr : va_Run p l e R s m args below meth c H locs cells slots 0 0 (F0 m pc ls stk) rest (mqG (l, N, S, ad, cA, D, tT) (Af N ad H.size) post a) (Af N ad H.size)) (hS : va_S A s.heap H locs) (hsub : ∀ q, Af N ad H.size q → A q)
    (kk : ∀ (r : Option Value) (h' : HpT) (H1 : Heap) (locs1 : List Loc), post r h' → va_P D classes (wl N S ad cA h') H1 → va_S A s.heap H1 locs1 → W p l e R s m args below meth c H1 locs1 cells slots Q (F0 m (pc + 3) ls (r.toList ++ rest))) : W p l e R s m args below meth c H locs cells slots Q (F0 m pc ls stk) := by
  intro T hT X
  obtain ⟨v, st₀, t, T', L, h0, X', hL, e1, e2, ⟨⟨r, h', hv, hp, hb⟩, hz, hk⟩, st⟩ := hr T hT X
  cases hv
  rw [h0] at hz hk
  obtain ⟨t2, a1, b1⟩ := kk v h' T'.heap (locs ++ L) hp (by rw [e1]; exact hb) ⟨Nat.le_trans hS.1 (by rw [e1]; exact hz), fun q h1 h2 => by rw [e1, hk q (Nat.lt_of_lt_of_le h1 hS.1) (fun z => h2 (hsub q z))]; exact hS.2.1 q h1 h2, fun q hq => by
      rcases List.mem_append.mp hq with h | h
      · exact hS.2.2 q h
      · exact hsub _ (hL q h)⟩ T' rfl X'
  exact ⟨t2, st t2 a1, b1⟩
theorem blind_pre {G : GxT} {sz : Nat} {h : HpT} {av : List Value} : FrameBlind (va_Pc av (preG G sz h)) := by
  obtain ⟨l, N, S, ad, cA, D, tT⟩ := G
  intro a U g mk q
  obtain ⟨q0, q1, qP, qK, qD, z1, z2, z3, z4, z5, z6⟩ := q
  exact ⟨q0, q1, qP, va_K.moved (u := U) (U := U.calling g mk a) (Vm.Alike.refl U.vm) qK, qD, va_Z.moved (u := U) (U := U.calling g mk a) (Vm.Alike.refl U.vm) z1, va_T.moved (u := U) (U := U.calling g mk a) (Vm.Alike.refl U.vm) z2, va_Nw.same rfl (rfl : U.vm = (U.calling g mk a).vm) z3, va_Nw.same rfl (rfl : U.vm = (U.calling g mk a).vm) z4, va_Nw.same rfl (rfl : U.vm = (U.calling g mk a).vm) z5, va_Nw.same rfl (rfl : U.vm = (U.calling g mk a).vm) z6⟩
def CvT (y : MethodName) (bytes : ByteArray) (maxL : Nat) (ret : Option FieldType) (n : Nat) : Prop := Cond.instanceMethod y ∈ WG ∧ Cond.selects y.cls y y ∈ WG ∧ Cond.initialized y.cls ∈ WG ∧ Cond.code y bytes maxL ret ∈ WG ∧ (y.cls ≠ "java/lang/invoke/MethodHandle" ∧ y.cls ≠ "java/lang/invoke/VarHandle" ∧ (parseMethodDescriptor y.desc).map (fun d => d.parameters.length) = some n) ∧ maxL ≤ 40
def CsT (y : MethodName) (bytes : ByteArray) (maxL : Nat) (ret : Option FieldType) (n : Nat) : Prop := Cond.static y ∈ WG ∧ Cond.initialized y.cls ∈ WG ∧ Cond.code y bytes maxL ret ∈ WG ∧ (y.cls ≠ "java/lang/invoke/MethodHandle" ∧ y.cls ≠ "java/lang/invoke/VarHandle" ∧ (parseMethodDescriptor y.desc).map (fun d => d.parameters.length) = some n) ∧ maxL ≤ 40
section RC
variable {X : XxT} {cc : ByteArray} {own : String} {dd pc np : Nat} {lo : List (Nat × Value)} {rest : List Value} {h : HpT} {y : MethodName} {bytes : ByteArray} {maxL n d' idx q0 ci Nf : Nat} {ret : Option FieldType} {fs : List (Option Nat)} {Tt : u_T} {As : List Value} {post : Option Value → HpT → Prop}
theorem rn_cV (F : FxT X cc own dd) (hc : CvT y bytes maxL ret n) (hm : Cond.methodLink own idx y ∈ WG) (hs : shp X.1 q0 (.inr (ci, fs))) (hcl : classes[ci]? = some (y.cls, Tt, Nf)) (hlen : As.length = n) (hd : d' + 1 ≤ dd) (hw : (rest.map fun v => v.category).sum ≤ 8) (dg : decode cc pc = .ok (.invokevirtual idx, 3)) (hM : mc X.1 y bytes maxL ret d' (.ref (gad X.1 q0) :: As) h post)
    (kk : ∀ r h', post r h' → rn X (pc + 3) lo (r.toList ++ rest) h') : rn X pc lo (As.reverse ++ .ref (gad X.1 q0) :: rest) h := by
  obtain ⟨⟨l, N, S, ad, cA, D, tT⟩, p, e, R, s, m, args, below, meth, c, cells, slots, Q, nL, A⟩ := X
  obtain ⟨hx, hb, hml, hown, hts, hlk, hK, hD, hA, hst, hrf, hrl, hrc, hrs⟩ := F
  intro H locs ls hP hS hl
  obtain ⟨c1, c2, c3, c4, c5, c6⟩ := hc
  obtain ⟨hq0, hsq⟩ := hs
  have hat := wl_at (S := S) (ad := ad) (cA := cA) (h := h) hq0
  rw [show S q0 = _ from hsq] at hat
  have hsub := Af_sub (hD h) (sz := H.size) (fun q hq => hA q (Nat.le_trans hS.1 hq))
  have hwm : ∀ w ∈ wsV own idx y.cls y (.code y bytes maxL ret :: WG), w ∈ WG := by
    intro w hw
    unfold wsV at hw
    rcases List.mem_append.mp hw with hw | hw
    · simp only [List.mem_cons, List.not_mem_nil, or_false] at hw
      rcases hw with rfl | rfl | rfl | rfl
      · exact hm
      · exact c1
      · exact c2
      · exact c3
    · rcases List.mem_cons.mp hw with rfl | hw
      · exact c4
      · exact hw
  exact run_goes (tT := tT) (va_runV (Ts := WG) (As := As) (rest := rest) (C := y.cls) (b := ad q0) (maxL := maxL) (bytes := bytes) (ret := ret) ⟨hx, hb, hml, hown, hts⟩ (hM H.size) (cwV n hts (wg_goodG hwm) rfl rfl rfl ⟨rfl, c5.1, c5.2.1, c5.2.2⟩ ⟨by show d' + 1 ≤ _; omega, by show 8 + (maxL + 11) + 64 * d' ≤ _; omega⟩) ⟨blind_pre, va_recv hK hP hcl hat, fun U hU hW => ⟨rfl, by rw [hU], by rw [hU]; exact hP, va_K.moved hW.alike hK, (hD h).weaken (fun _ _ _ _ => trivial), stG_go hst hS hW hU hsub⟩⟩ rfl hlen hl.1 rfl (lv_room hw) dg ⟨hrc, hrs⟩) hS hsub (fun r h' H1 locs1 hp hP1 hS1 => kk r h' hp H1 locs1 ls hP1 hS1 hl)
theorem rn_cS (F : FxT X cc own dd) (hc : CsT y bytes maxL ret n) (hm : Cond.methodLink own idx y ∈ WG) (hlen : As.length = n) (hd : d' + 1 ≤ dd) (hw : (rest.map fun v => v.category).sum ≤ 8) (dg : decode cc pc = .ok (.invokestatic idx, 3)) (hM : mc X.1 y bytes maxL ret d' As h post)
    (kk : ∀ r h', post r h' → rn X (pc + 3) lo (r.toList ++ rest) h') : rn X pc lo (As.reverse ++ rest) h := by
  obtain ⟨⟨l, N, S, ad, cA, D, tT⟩, p, e, R, s, m, args, below, meth, c, cells, slots, Q, nL, A⟩ := X
  obtain ⟨hx, hb, hml, hown, hts, hlk, hK, hD, hA, hst, hrf, hrl, hrc, hrs⟩ := F
  intro H locs ls hP hS hl
  obtain ⟨c1, c3, c4, c5, c6⟩ := hc
  have hsub := Af_sub (hD h) (sz := H.size) (fun q hq => hA q (Nat.le_trans hS.1 hq))
  have hwm : ∀ w ∈ va_wsS own idx y (.code y bytes maxL ret :: WG), w ∈ WG := by
    intro w hw
    unfold va_wsS at hw
    rcases List.mem_append.mp hw with hw | hw
    · simp only [List.mem_cons, List.not_mem_nil, or_false] at hw
      rcases hw with rfl | rfl | rfl
      · exact hm
      · exact c1
      · exact c3
    · rcases List.mem_cons.mp hw with rfl | hw
      · exact c4
      · exact hw
  exact run_goes (tT := tT) (va_runS (Ts := WG) (As := As) (rest := rest) (maxL := maxL) (bytes := bytes) (ret := ret) ⟨hx, hb, hml, hown, hts⟩ (hM H.size) (va_cwS n hts (wg_goodG hwm) rfl rfl rfl ⟨c5.1, c5.2.1, c5.2.2⟩ ⟨by show d' + 1 ≤ _; omega, by show 8 + (maxL + 11) + 64 * d' ≤ _; omega⟩) ⟨blind_pre, fun U hU hW => ⟨rfl, by rw [hU], by rw [hU]; exact hP, va_K.moved hW.alike hK, (hD h).weaken (fun _ _ _ _ => trivial), stG_go hst hS hW hU hsub⟩⟩ rfl hlen hl.1 rfl (lv_room hw) dg ⟨hrc, hrs⟩) hS hsub (fun r h' H1 locs1 hp hP1 hS1 => kk r h' hp H1 locs1 ls hP1 hS1 hl)
/-- a nest mate's private static method -/
theorem rn_cN (F : FxT X cc own dd) {host : String} (hc : CsT y bytes maxL ret n) (hm : va_Nw (.methodLinkNest own idx y host) X.2.2.2.2.1) (hlen : As.length = n) (hd : d' + 1 ≤ dd) (hw : (rest.map fun v => v.category).sum ≤ 8) (dg : decode cc pc = .ok (.invokestatic idx, 3)) (hM : mc X.1 y bytes maxL ret d' As h post)
    (kk : ∀ r h', post r h' → rn X (pc + 3) lo (r.toList ++ rest) h') : rn X pc lo (As.reverse ++ rest) h := by
  obtain ⟨⟨l, N, S, ad, cA, D, tT⟩, p, e, R, s, m, args, below, meth, c, cells, slots, Q, nL, A⟩ := X
  obtain ⟨hx, hb, hml, hown, hts, hlk, hK, hD, hA, hst, hrf, hrl, hrc, hrs⟩ := F
  intro H locs ls hP hS hl
  obtain ⟨c1, c3, c4, c5, c6⟩ := hc
  have hsub := Af_sub (hD h) (sz := H.size) (fun q hq => hA q (Nat.le_trans hS.1 hq))
  have hwm : ∀ w ∈ (.code y bytes maxL ret :: WG), w ∈ WG := by
    intro w hw
    rcases List.mem_cons.mp hw with rfl | hw
    · exact c4
    · exact hw
  exact run_goes (tT := tT) (va_runSN (Ts := WG) (As := As) (rest := rest) (maxL := maxL) (bytes := bytes) (ret := ret) (host := host) ⟨hx, hb, hml, hown, hts⟩ (hM H.size) ⟨va_cnB n hts (wg_goodG hwm) rfl rfl rfl hm (hts _ c3) ⟨c5.1, c5.2.1, c5.2.2⟩ ⟨by show d' + 1 ≤ _; omega, by show 8 + (maxL + 11) + 64 * d' ≤ _; omega⟩, hts _ c1, trivial⟩ ⟨blind_pre, fun U hU hW => ⟨rfl, by rw [hU], by rw [hU]; exact hP, va_K.moved hW.alike hK, (hD h).weaken (fun _ _ _ _ => trivial), stG_go hst hS hW hU hsub⟩⟩ rfl hlen hl.1 rfl (lv_room hw) dg ⟨hrc, hrs⟩) hS hsub (fun r h' H1 locs1 hp hP1 hS1 => kk r h' hp H1 locs1 ls hP1 hS1 hl)
theorem rn_cV0i (F : FxT X cc own dd) {x : Int32} {h2 : HpT} (dg : decode cc pc = .ok (.invokevirtual idx, 3)) (hn : pc + 3 = np) (hc : CvT y bytes maxL ret 0) (hm : Cond.methodLink own idx y ∈ WG) (hs : shp X.1 q0 (.inr (ci, fs))) (hcl : classes[ci]? = some (y.cls, Tt, Nf)) (hM : mci X.1 y bytes maxL ret d' [.ref (gad X.1 q0)] h x h2) (hd : d' + 1 ≤ dd) (hw : (rest.map fun v => v.category).sum ≤ 8) (k : rn X np lo (.int x :: rest) h2) : rn X pc lo (.ref (gad X.1 q0) :: rest) h := by
  subst hn
  exact rn_cV (As := []) F hc hm hs hcl rfl hd hw dg hM (fun r h3 e => by obtain ⟨rfl, rfl⟩ := e; exact k)
theorem rn_cV0l (F : FxT X cc own dd) {x : Int64} {h2 : HpT} (dg : decode cc pc = .ok (.invokevirtual idx, 3)) (hn : pc + 3 = np) (hc : CvT y bytes maxL ret 0) (hm : Cond.methodLink own idx y ∈ WG) (hs : shp X.1 q0 (.inr (ci, fs))) (hcl : classes[ci]? = some (y.cls, Tt, Nf)) (hM : mcl X.1 y bytes maxL ret d' [.ref (gad X.1 q0)] h x h2) (hd : d' + 1 ≤ dd) (hw : (rest.map fun v => v.category).sum ≤ 8) (k : rn X np lo (.long x :: rest) h2) : rn X pc lo (.ref (gad X.1 q0) :: rest) h := by
  subst hn
  exact rn_cV (As := []) F hc hm hs hcl rfl hd hw dg hM (fun r h3 e => by obtain ⟨rfl, rfl⟩ := e; exact k)
theorem rn_cV0v (F : FxT X cc own dd) {h2 : HpT} (dg : decode cc pc = .ok (.invokevirtual idx, 3)) (hn : pc + 3 = np) (hc : CvT y bytes maxL ret 0) (hm : Cond.methodLink own idx y ∈ WG) (hs : shp X.1 q0 (.inr (ci, fs))) (hcl : classes[ci]? = some (y.cls, Tt, Nf)) (hM : mcv X.1 y bytes maxL ret d' [.ref (gad X.1 q0)] h h2) (hd : d' + 1 ≤ dd) (hw : (rest.map fun v => v.category).sum ≤ 8) (k : rn X np lo rest h2) : rn X pc lo (.ref (gad X.1 q0) :: rest) h := by
  subst hn
  exact rn_cV (As := []) F hc hm hs hcl rfl hd hw dg hM (fun r h3 e => by obtain ⟨rfl, rfl⟩ := e; exact k)
theorem rn_cV1i (F : FxT X cc own dd) {v1 : Value} {x : Int32} {h2 : HpT} (dg : decode cc pc = .ok (.invokevirtual idx, 3)) (hn : pc + 3 = np) (hc : CvT y bytes maxL ret 1) (hm : Cond.methodLink own idx y ∈ WG) (hs : shp X.1 q0 (.inr (ci, fs))) (hcl : classes[ci]? = some (y.cls, Tt, Nf)) (hM : mci X.1 y bytes maxL ret d' [.ref (gad X.1 q0), v1] h x h2) (hd : d' + 1 ≤ dd) (hw : (rest.map fun v => v.category).sum ≤ 8) (k : rn X np lo (.int x :: rest) h2) : rn X pc lo (v1 :: .ref (gad X.1 q0) :: rest) h := by
  subst hn
  exact rn_cV (As := [v1]) F hc hm hs hcl rfl hd hw dg hM (fun r h3 e => by obtain ⟨rfl, rfl⟩ := e; exact k)
theorem rn_cS1i (F : FxT X cc own dd) {v1 : Value} {x : Int32} {h2 : HpT} (dg : decode cc pc = .ok (.invokestatic idx, 3)) (hn : pc + 3 = np) (hc : CsT y bytes maxL ret 1) (hm : Cond.methodLink own idx y ∈ WG) (hM : mci X.1 y bytes maxL ret d' [v1] h x h2) (hd : d' + 1 ≤ dd) (hw : (rest.map fun v => v.category).sum ≤ 8) (k : rn X np lo (.int x :: rest) h2) : rn X pc lo (v1 :: rest) h := by
  subst hn
  exact rn_cS (As := [v1]) F hc hm rfl hd hw dg hM (fun r h3 e => by obtain ⟨rfl, rfl⟩ := e; exact k)
theorem rn_cV1l (F : FxT X cc own dd) {v1 : Value} {x : Int64} {h2 : HpT} (dg : decode cc pc = .ok (.invokevirtual idx, 3)) (hn : pc + 3 = np) (hc : CvT y bytes maxL ret 1) (hm : Cond.methodLink own idx y ∈ WG) (hs : shp X.1 q0 (.inr (ci, fs))) (hcl : classes[ci]? = some (y.cls, Tt, Nf)) (hM : mcl X.1 y bytes maxL ret d' [.ref (gad X.1 q0), v1] h x h2) (hd : d' + 1 ≤ dd) (hw : (rest.map fun v => v.category).sum ≤ 8) (k : rn X np lo (.long x :: rest) h2) : rn X pc lo (v1 :: .ref (gad X.1 q0) :: rest) h := by
  subst hn
  exact rn_cV (As := [v1]) F hc hm hs hcl rfl hd hw dg hM (fun r h3 e => by obtain ⟨rfl, rfl⟩ := e; exact k)
theorem rn_cS1l (F : FxT X cc own dd) {v1 : Value} {x : Int64} {h2 : HpT} (dg : decode cc pc = .ok (.invokestatic idx, 3)) (hn : pc + 3 = np) (hc : CsT y bytes maxL ret 1) (hm : Cond.methodLink own idx y ∈ WG) (hM : mcl X.1 y bytes maxL ret d' [v1] h x h2) (hd : d' + 1 ≤ dd) (hw : (rest.map fun v => v.category).sum ≤ 8) (k : rn X np lo (.long x :: rest) h2) : rn X pc lo (v1 :: rest) h := by
  subst hn
  exact rn_cS (As := [v1]) F hc hm rfl hd hw dg hM (fun r h3 e => by obtain ⟨rfl, rfl⟩ := e; exact k)
theorem rn_cV1v (F : FxT X cc own dd) {v1 : Value} {h2 : HpT} (dg : decode cc pc = .ok (.invokevirtual idx, 3)) (hn : pc + 3 = np) (hc : CvT y bytes maxL ret 1) (hm : Cond.methodLink own idx y ∈ WG) (hs : shp X.1 q0 (.inr (ci, fs))) (hcl : classes[ci]? = some (y.cls, Tt, Nf)) (hM : mcv X.1 y bytes maxL ret d' [.ref (gad X.1 q0), v1] h h2) (hd : d' + 1 ≤ dd) (hw : (rest.map fun v => v.category).sum ≤ 8) (k : rn X np lo rest h2) : rn X pc lo (v1 :: .ref (gad X.1 q0) :: rest) h := by
  subst hn
  exact rn_cV (As := [v1]) F hc hm hs hcl rfl hd hw dg hM (fun r h3 e => by obtain ⟨rfl, rfl⟩ := e; exact k)
theorem rn_cS1v (F : FxT X cc own dd) {v1 : Value} {h2 : HpT} (dg : decode cc pc = .ok (.invokestatic idx, 3)) (hn : pc + 3 = np) (hc : CsT y bytes maxL ret 1) (hm : Cond.methodLink own idx y ∈ WG) (hM : mcv X.1 y bytes maxL ret d' [v1] h h2) (hd : d' + 1 ≤ dd) (hw : (rest.map fun v => v.category).sum ≤ 8) (k : rn X np lo rest h2) : rn X pc lo (v1 :: rest) h := by
  subst hn
  exact rn_cS (As := [v1]) F hc hm rfl hd hw dg hM (fun r h3 e => by obtain ⟨rfl, rfl⟩ := e; exact k)
theorem rn_cV2i (F : FxT X cc own dd) {v1 v2 : Value} {x : Int32} {h2 : HpT} (dg : decode cc pc = .ok (.invokevirtual idx, 3)) (hn : pc + 3 = np) (hc : CvT y bytes maxL ret 2) (hm : Cond.methodLink own idx y ∈ WG) (hs : shp X.1 q0 (.inr (ci, fs))) (hcl : classes[ci]? = some (y.cls, Tt, Nf)) (hM : mci X.1 y bytes maxL ret d' [.ref (gad X.1 q0), v1, v2] h x h2) (hd : d' + 1 ≤ dd) (hw : (rest.map fun v => v.category).sum ≤ 8) (k : rn X np lo (.int x :: rest) h2) : rn X pc lo (v2 :: v1 :: .ref (gad X.1 q0) :: rest) h := by
  subst hn
  exact rn_cV (As := [v1, v2]) F hc hm hs hcl rfl hd hw dg hM (fun r h3 e => by obtain ⟨rfl, rfl⟩ := e; exact k)
theorem rn_cS2i (F : FxT X cc own dd) {v1 v2 : Value} {x : Int32} {h2 : HpT} (dg : decode cc pc = .ok (.invokestatic idx, 3)) (hn : pc + 3 = np) (hc : CsT y bytes maxL ret 2) (hm : Cond.methodLink own idx y ∈ WG) (hM : mci X.1 y bytes maxL ret d' [v1, v2] h x h2) (hd : d' + 1 ≤ dd) (hw : (rest.map fun v => v.category).sum ≤ 8) (k : rn X np lo (.int x :: rest) h2) : rn X pc lo (v2 :: v1 :: rest) h := by
  subst hn
  exact rn_cS (As := [v1, v2]) F hc hm rfl hd hw dg hM (fun r h3 e => by obtain ⟨rfl, rfl⟩ := e; exact k)
theorem rn_cV2l (F : FxT X cc own dd) {v1 v2 : Value} {x : Int64} {h2 : HpT} (dg : decode cc pc = .ok (.invokevirtual idx, 3)) (hn : pc + 3 = np) (hc : CvT y bytes maxL ret 2) (hm : Cond.methodLink own idx y ∈ WG) (hs : shp X.1 q0 (.inr (ci, fs))) (hcl : classes[ci]? = some (y.cls, Tt, Nf)) (hM : mcl X.1 y bytes maxL ret d' [.ref (gad X.1 q0), v1, v2] h x h2) (hd : d' + 1 ≤ dd) (hw : (rest.map fun v => v.category).sum ≤ 8) (k : rn X np lo (.long x :: rest) h2) : rn X pc lo (v2 :: v1 :: .ref (gad X.1 q0) :: rest) h := by
  subst hn
  exact rn_cV (As := [v1, v2]) F hc hm hs hcl rfl hd hw dg hM (fun r h3 e => by obtain ⟨rfl, rfl⟩ := e; exact k)
theorem rn_cS2l (F : FxT X cc own dd) {v1 v2 : Value} {x : Int64} {h2 : HpT} (dg : decode cc pc = .ok (.invokestatic idx, 3)) (hn : pc + 3 = np) (hc : CsT y bytes maxL ret 2) (hm : Cond.methodLink own idx y ∈ WG) (hM : mcl X.1 y bytes maxL ret d' [v1, v2] h x h2) (hd : d' + 1 ≤ dd) (hw : (rest.map fun v => v.category).sum ≤ 8) (k : rn X np lo (.long x :: rest) h2) : rn X pc lo (v2 :: v1 :: rest) h := by
  subst hn
  exact rn_cS (As := [v1, v2]) F hc hm rfl hd hw dg hM (fun r h3 e => by obtain ⟨rfl, rfl⟩ := e; exact k)
theorem rn_cV2v (F : FxT X cc own dd) {v1 v2 : Value} {h2 : HpT} (dg : decode cc pc = .ok (.invokevirtual idx, 3)) (hn : pc + 3 = np) (hc : CvT y bytes maxL ret 2) (hm : Cond.methodLink own idx y ∈ WG) (hs : shp X.1 q0 (.inr (ci, fs))) (hcl : classes[ci]? = some (y.cls, Tt, Nf)) (hM : mcv X.1 y bytes maxL ret d' [.ref (gad X.1 q0), v1, v2] h h2) (hd : d' + 1 ≤ dd) (hw : (rest.map fun v => v.category).sum ≤ 8) (k : rn X np lo rest h2) : rn X pc lo (v2 :: v1 :: .ref (gad X.1 q0) :: rest) h := by
  subst hn
  exact rn_cV (As := [v1, v2]) F hc hm hs hcl rfl hd hw dg hM (fun r h3 e => by obtain ⟨rfl, rfl⟩ := e; exact k)
theorem rn_cS2v (F : FxT X cc own dd) {v1 v2 : Value} {h2 : HpT} (dg : decode cc pc = .ok (.invokestatic idx, 3)) (hn : pc + 3 = np) (hc : CsT y bytes maxL ret 2) (hm : Cond.methodLink own idx y ∈ WG) (hM : mcv X.1 y bytes maxL ret d' [v1, v2] h h2) (hd : d' + 1 ≤ dd) (hw : (rest.map fun v => v.category).sum ≤ 8) (k : rn X np lo rest h2) : rn X pc lo (v2 :: v1 :: rest) h := by
  subst hn
  exact rn_cS (As := [v1, v2]) F hc hm rfl hd hw dg hM (fun r h3 e => by obtain ⟨rfl, rfl⟩ := e; exact k)
theorem rn_cV3i (F : FxT X cc own dd) {v1 v2 v3 : Value} {x : Int32} {h2 : HpT} (dg : decode cc pc = .ok (.invokevirtual idx, 3)) (hn : pc + 3 = np) (hc : CvT y bytes maxL ret 3) (hm : Cond.methodLink own idx y ∈ WG) (hs : shp X.1 q0 (.inr (ci, fs))) (hcl : classes[ci]? = some (y.cls, Tt, Nf)) (hM : mci X.1 y bytes maxL ret d' [.ref (gad X.1 q0), v1, v2, v3] h x h2) (hd : d' + 1 ≤ dd) (hw : (rest.map fun v => v.category).sum ≤ 8) (k : rn X np lo (.int x :: rest) h2) : rn X pc lo (v3 :: v2 :: v1 :: .ref (gad X.1 q0) :: rest) h := by
  subst hn
  exact rn_cV (As := [v1, v2, v3]) F hc hm hs hcl rfl hd hw dg hM (fun r h3 e => by obtain ⟨rfl, rfl⟩ := e; exact k)
theorem rn_cS3i (F : FxT X cc own dd) {v1 v2 v3 : Value} {x : Int32} {h2 : HpT} (dg : decode cc pc = .ok (.invokestatic idx, 3)) (hn : pc + 3 = np) (hc : CsT y bytes maxL ret 3) (hm : Cond.methodLink own idx y ∈ WG) (hM : mci X.1 y bytes maxL ret d' [v1, v2, v3] h x h2) (hd : d' + 1 ≤ dd) (hw : (rest.map fun v => v.category).sum ≤ 8) (k : rn X np lo (.int x :: rest) h2) : rn X pc lo (v3 :: v2 :: v1 :: rest) h := by
  subst hn
  exact rn_cS (As := [v1, v2, v3]) F hc hm rfl hd hw dg hM (fun r h3 e => by obtain ⟨rfl, rfl⟩ := e; exact k)
theorem rn_cV3l (F : FxT X cc own dd) {v1 v2 v3 : Value} {x : Int64} {h2 : HpT} (dg : decode cc pc = .ok (.invokevirtual idx, 3)) (hn : pc + 3 = np) (hc : CvT y bytes maxL ret 3) (hm : Cond.methodLink own idx y ∈ WG) (hs : shp X.1 q0 (.inr (ci, fs))) (hcl : classes[ci]? = some (y.cls, Tt, Nf)) (hM : mcl X.1 y bytes maxL ret d' [.ref (gad X.1 q0), v1, v2, v3] h x h2) (hd : d' + 1 ≤ dd) (hw : (rest.map fun v => v.category).sum ≤ 8) (k : rn X np lo (.long x :: rest) h2) : rn X pc lo (v3 :: v2 :: v1 :: .ref (gad X.1 q0) :: rest) h := by
  subst hn
  exact rn_cV (As := [v1, v2, v3]) F hc hm hs hcl rfl hd hw dg hM (fun r h3 e => by obtain ⟨rfl, rfl⟩ := e; exact k)
theorem rn_cS3l (F : FxT X cc own dd) {v1 v2 v3 : Value} {x : Int64} {h2 : HpT} (dg : decode cc pc = .ok (.invokestatic idx, 3)) (hn : pc + 3 = np) (hc : CsT y bytes maxL ret 3) (hm : Cond.methodLink own idx y ∈ WG) (hM : mcl X.1 y bytes maxL ret d' [v1, v2, v3] h x h2) (hd : d' + 1 ≤ dd) (hw : (rest.map fun v => v.category).sum ≤ 8) (k : rn X np lo (.long x :: rest) h2) : rn X pc lo (v3 :: v2 :: v1 :: rest) h := by
  subst hn
  exact rn_cS (As := [v1, v2, v3]) F hc hm rfl hd hw dg hM (fun r h3 e => by obtain ⟨rfl, rfl⟩ := e; exact k)
theorem rn_cV3v (F : FxT X cc own dd) {v1 v2 v3 : Value} {h2 : HpT} (dg : decode cc pc = .ok (.invokevirtual idx, 3)) (hn : pc + 3 = np) (hc : CvT y bytes maxL ret 3) (hm : Cond.methodLink own idx y ∈ WG) (hs : shp X.1 q0 (.inr (ci, fs))) (hcl : classes[ci]? = some (y.cls, Tt, Nf)) (hM : mcv X.1 y bytes maxL ret d' [.ref (gad X.1 q0), v1, v2, v3] h h2) (hd : d' + 1 ≤ dd) (hw : (rest.map fun v => v.category).sum ≤ 8) (k : rn X np lo rest h2) : rn X pc lo (v3 :: v2 :: v1 :: .ref (gad X.1 q0) :: rest) h := by
  subst hn
  exact rn_cV (As := [v1, v2, v3]) F hc hm hs hcl rfl hd hw dg hM (fun r h3 e => by obtain ⟨rfl, rfl⟩ := e; exact k)
theorem rn_cS3v (F : FxT X cc own dd) {v1 v2 v3 : Value} {h2 : HpT} (dg : decode cc pc = .ok (.invokestatic idx, 3)) (hn : pc + 3 = np) (hc : CsT y bytes maxL ret 3) (hm : Cond.methodLink own idx y ∈ WG) (hM : mcv X.1 y bytes maxL ret d' [v1, v2, v3] h h2) (hd : d' + 1 ≤ dd) (hw : (rest.map fun v => v.category).sum ≤ 8) (k : rn X np lo rest h2) : rn X pc lo (v3 :: v2 :: v1 :: rest) h := by
  subst hn
  exact rn_cS (As := [v1, v2, v3]) F hc hm rfl hd hw dg hM (fun r h3 e => by obtain ⟨rfl, rfl⟩ := e; exact k)
theorem rn_nw80 (F : FxT X cc own dd) : va_Nw (.methodLinkNest RX2 80 yX4_pack "PhaseLoads") X.2.2.2.2.1 := by
  obtain ⟨⟨l, N, S, ad, cA, D, tT⟩, p, e, R, s, m, args, below, meth, c, cells, slots, Q, nL, A⟩ := X
  obtain ⟨hx, hb, hml, hown, hts, hlk, hK, hD, hA, hst, hrf, hrl, hrc, hrs⟩ := F
  exact hst.2.2.2.1
theorem rn_nw84 (F : FxT X cc own dd) : va_Nw (.methodLinkNest RX2 84 yX4_phaseIn "PhaseLoads") X.2.2.2.2.1 := by
  obtain ⟨⟨l, N, S, ad, cA, D, tT⟩, p, e, R, s, m, args, below, meth, c, cells, slots, Q, nL, A⟩ := X
  obtain ⟨hx, hb, hml, hown, hts, hlk, hK, hD, hA, hst, hrf, hrl, hrc, hrs⟩ := F
  exact hst.2.2.2.2.1
theorem rn_nw138 (F : FxT X cc own dd) : va_Nw (.methodLinkNest RX0 138 yX4_pack "PhaseLoads") X.2.2.2.2.1 := by
  obtain ⟨⟨l, N, S, ad, cA, D, tT⟩, p, e, R, s, m, args, below, meth, c, cells, slots, Q, nL, A⟩ := X
  obtain ⟨hx, hb, hml, hown, hts, hlk, hK, hD, hA, hst, hrf, hrl, hrc, hrs⟩ := F
  exact hst.2.2.2.2.2
theorem rn_cN2i (F : FxT X cc own dd) {v1 v2 : Value} {x : Int32} {h2 : HpT} {host : String} (dg : decode cc pc = .ok (.invokestatic idx, 3)) (hn : pc + 3 = np) (hc : CsT y bytes maxL ret 2) (hm : va_Nw (.methodLinkNest own idx y host) X.2.2.2.2.1) (hM : mci X.1 y bytes maxL ret d' [v1, v2] h x h2) (hd : d' + 1 ≤ dd) (hw : (rest.map fun v => v.category).sum ≤ 8) (k : rn X np lo (.int x :: rest) h2) : rn X pc lo (v2 :: v1 :: rest) h := by
  subst hn
  exact rn_cN (As := [v1, v2]) F hc hm rfl hd hw dg hM (fun r h3 e => by obtain ⟨rfl, rfl⟩ := e; exact k)
theorem rn_copy (F : FxT X cc own dd) {q1 n0 n1 : Nat} {sp dp n : Int32} (dg : decode cc pc = .ok (.invokestatic idx, 3)) (hn : pc + 3 = np) (hm : Cond.methodLink own idx arraycopyName ∈ WG) (h01 : Cond.native arraycopyName ∈ WG) (h02 : Cond.static arraycopyName ∈ WG) (h03 : Cond.initialized "java/lang/System" ∈ WG) (hs0 : shp X.1 q0 (.inl n0)) (hs1 : shp X.1 q1 (.inl n1)) (h1 : ¬ sp < 0) (h2 : ¬ dp < 0) (h3 : ¬ n < 0) (h4 : sp.toNatClampNeg + n.toNatClampNeg ≤ n0) (h5 : dp.toNatClampNeg + n.toNatClampNeg ≤ n1) (hd : 1 ≤ dd) (hw : (rest.map fun v => v.category).sum ≤ 8)
    (k : rn X np lo rest (va_up h q1 (va_cpy (h q0) (h q1) sp.toNatClampNeg dp.toNatClampNeg n.toNatClampNeg))) : rn X pc lo (.int n :: .int dp :: .ref (gad X.1 q1) :: .int sp :: .ref (gad X.1 q0) :: rest) h := by
  subst hn
  obtain ⟨⟨l, N, S, ad, cA, D, tT⟩, p, e, R, s, m, args, below, meth, c, cells, slots, Q, nL, A⟩ := X
  obtain ⟨hx, hb, hml, hown, hts, hlk, hK, hD, hA, hst, hrf, hrl, hrc, hrs⟩ := F
  intro H locs ls hP hS hl
  obtain ⟨hq0, hsq⟩ := hs0
  obtain ⟨hq1, hsq1⟩ := hs1
  have hat := wl_at (S := S) (ad := ad) (cA := cA) (h := h) hq0
  rw [show S q0 = _ from hsq] at hat
  have hat1 := wl_at (S := S) (ad := ad) (cA := cA) (h := h) hq1
  rw [show S q1 = _ from hsq1] at hat1
  refine va_copyi hx hb (hml.trans hl.1.symm) hown (hts _ hm) (hts _ h01) (hts _ h02) (hts _ h03) hK hP (hD h) hS q0 q1 0 0 hat hat1 rfl rfl rfl h1 h2 h3 h4 h5 (fun _ _ => rfl) (by omega) (Nat.le_trans (Nat.add_le_add hw (Nat.le_of_ble_eq_true rfl : nativeFrameWords "java/lang/System" "arraycopy" 5 + 11 ≤ 56)) (by omega)) dg (fun H1 locs1 hP1 _ hS1 => k H1 locs1 ls ?_ hS1 hl)
  have e1 := wl_set (S := S) (ad := ad) (cA := cA) (h := h) hq1 (va_cpy (h q0) (h q1) sp.toNatClampNeg dp.toNatClampNeg n.toNatClampNeg)
  rw [show S q1 = _ from hsq1] at e1
  unfold ce at e1
  exact e1 ▸ hP1
theorem rn_cV0p (F : FxT X cc own dd) {P : HpT → Prop} (dg : decode cc pc = .ok (.invokevirtual idx, 3)) (hn : pc + 3 = np) (hc : CvT y bytes maxL ret 0) (hm : Cond.methodLink own idx y ∈ WG) (hs : shp X.1 q0 (.inr (ci, fs))) (hcl : classes[ci]? = some (y.cls, Tt, Nf)) (hM : mc X.1 y bytes maxL ret d' [.ref (gad X.1 q0)] h (fun r h3 => r = none ∧ P h3)) (hd : d' + 1 ≤ dd) (hw : (rest.map fun v => v.category).sum ≤ 8) (k : ∀ h2, P h2 → rn X np lo rest h2) : rn X pc lo (.ref (gad X.1 q0) :: rest) h := by
  subst hn
  exact rn_cV (As := []) F hc hm hs hcl rfl hd hw dg hM (fun r h3 e => by obtain ⟨rfl, e⟩ := e; exact k h3 e)
theorem rn_cV0q (F : FxT X cc own dd) {P : Int32 → HpT → Prop} (dg : decode cc pc = .ok (.invokevirtual idx, 3)) (hn : pc + 3 = np) (hc : CvT y bytes maxL ret 0) (hm : Cond.methodLink own idx y ∈ WG) (hs : shp X.1 q0 (.inr (ci, fs))) (hcl : classes[ci]? = some (y.cls, Tt, Nf)) (hM : mc X.1 y bytes maxL ret d' [.ref (gad X.1 q0)] h (fun r h3 => ∃ x, r = some (.int x) ∧ P x h3)) (hd : d' + 1 ≤ dd) (hw : (rest.map fun v => v.category).sum ≤ 8) (k : ∀ x h2, P x h2 → rn X np lo (.int x :: rest) h2) : rn X pc lo (.ref (gad X.1 q0) :: rest) h := by
  subst hn
  exact rn_cV (As := []) F hc hm hs hcl rfl hd hw dg hM (fun r h3 e => by obtain ⟨x, rfl, e⟩ := e; exact k x h3 e)
theorem rn_cV1p (F : FxT X cc own dd) {v1 : Value} {P : HpT → Prop} (dg : decode cc pc = .ok (.invokevirtual idx, 3)) (hn : pc + 3 = np) (hc : CvT y bytes maxL ret 1) (hm : Cond.methodLink own idx y ∈ WG) (hs : shp X.1 q0 (.inr (ci, fs))) (hcl : classes[ci]? = some (y.cls, Tt, Nf)) (hM : mc X.1 y bytes maxL ret d' [.ref (gad X.1 q0), v1] h (fun r h3 => r = none ∧ P h3)) (hd : d' + 1 ≤ dd) (hw : (rest.map fun v => v.category).sum ≤ 8) (k : ∀ h2, P h2 → rn X np lo rest h2) : rn X pc lo (v1 :: .ref (gad X.1 q0) :: rest) h := by
  subst hn
  exact rn_cV (As := [v1]) F hc hm hs hcl rfl hd hw dg hM (fun r h3 e => by obtain ⟨rfl, e⟩ := e; exact k h3 e)
theorem rn_cV1q (F : FxT X cc own dd) {v1 : Value} {P : Int32 → HpT → Prop} (dg : decode cc pc = .ok (.invokevirtual idx, 3)) (hn : pc + 3 = np) (hc : CvT y bytes maxL ret 1) (hm : Cond.methodLink own idx y ∈ WG) (hs : shp X.1 q0 (.inr (ci, fs))) (hcl : classes[ci]? = some (y.cls, Tt, Nf)) (hM : mc X.1 y bytes maxL ret d' [.ref (gad X.1 q0), v1] h (fun r h3 => ∃ x, r = some (.int x) ∧ P x h3)) (hd : d' + 1 ≤ dd) (hw : (rest.map fun v => v.category).sum ≤ 8) (k : ∀ x h2, P x h2 → rn X np lo (.int x :: rest) h2) : rn X pc lo (v1 :: .ref (gad X.1 q0) :: rest) h := by
  subst hn
  exact rn_cV (As := [v1]) F hc hm hs hcl rfl hd hw dg hM (fun r h3 e => by obtain ⟨x, rfl, e⟩ := e; exact k x h3 e)
theorem rn_cV2p (F : FxT X cc own dd) {v1 v2 : Value} {P : HpT → Prop} (dg : decode cc pc = .ok (.invokevirtual idx, 3)) (hn : pc + 3 = np) (hc : CvT y bytes maxL ret 2) (hm : Cond.methodLink own idx y ∈ WG) (hs : shp X.1 q0 (.inr (ci, fs))) (hcl : classes[ci]? = some (y.cls, Tt, Nf)) (hM : mc X.1 y bytes maxL ret d' [.ref (gad X.1 q0), v1, v2] h (fun r h3 => r = none ∧ P h3)) (hd : d' + 1 ≤ dd) (hw : (rest.map fun v => v.category).sum ≤ 8) (k : ∀ h2, P h2 → rn X np lo rest h2) : rn X pc lo (v2 :: v1 :: .ref (gad X.1 q0) :: rest) h := by
  subst hn
  exact rn_cV (As := [v1, v2]) F hc hm hs hcl rfl hd hw dg hM (fun r h3 e => by obtain ⟨rfl, e⟩ := e; exact k h3 e)
theorem rn_cV2q (F : FxT X cc own dd) {v1 v2 : Value} {P : Int32 → HpT → Prop} (dg : decode cc pc = .ok (.invokevirtual idx, 3)) (hn : pc + 3 = np) (hc : CvT y bytes maxL ret 2) (hm : Cond.methodLink own idx y ∈ WG) (hs : shp X.1 q0 (.inr (ci, fs))) (hcl : classes[ci]? = some (y.cls, Tt, Nf)) (hM : mc X.1 y bytes maxL ret d' [.ref (gad X.1 q0), v1, v2] h (fun r h3 => ∃ x, r = some (.int x) ∧ P x h3)) (hd : d' + 1 ≤ dd) (hw : (rest.map fun v => v.category).sum ≤ 8) (k : ∀ x h2, P x h2 → rn X np lo (.int x :: rest) h2) : rn X pc lo (v2 :: v1 :: .ref (gad X.1 q0) :: rest) h := by
  subst hn
  exact rn_cV (As := [v1, v2]) F hc hm hs hcl rfl hd hw dg hM (fun r h3 e => by obtain ⟨x, rfl, e⟩ := e; exact k x h3 e)
theorem rn_cV3p (F : FxT X cc own dd) {v1 v2 v3 : Value} {P : HpT → Prop} (dg : decode cc pc = .ok (.invokevirtual idx, 3)) (hn : pc + 3 = np) (hc : CvT y bytes maxL ret 3) (hm : Cond.methodLink own idx y ∈ WG) (hs : shp X.1 q0 (.inr (ci, fs))) (hcl : classes[ci]? = some (y.cls, Tt, Nf)) (hM : mc X.1 y bytes maxL ret d' [.ref (gad X.1 q0), v1, v2, v3] h (fun r h3 => r = none ∧ P h3)) (hd : d' + 1 ≤ dd) (hw : (rest.map fun v => v.category).sum ≤ 8) (k : ∀ h2, P h2 → rn X np lo rest h2) : rn X pc lo (v3 :: v2 :: v1 :: .ref (gad X.1 q0) :: rest) h := by
  subst hn
  exact rn_cV (As := [v1, v2, v3]) F hc hm hs hcl rfl hd hw dg hM (fun r h3 e => by obtain ⟨rfl, e⟩ := e; exact k h3 e)
theorem rn_cV3q (F : FxT X cc own dd) {v1 v2 v3 : Value} {P : Int32 → HpT → Prop} (dg : decode cc pc = .ok (.invokevirtual idx, 3)) (hn : pc + 3 = np) (hc : CvT y bytes maxL ret 3) (hm : Cond.methodLink own idx y ∈ WG) (hs : shp X.1 q0 (.inr (ci, fs))) (hcl : classes[ci]? = some (y.cls, Tt, Nf)) (hM : mc X.1 y bytes maxL ret d' [.ref (gad X.1 q0), v1, v2, v3] h (fun r h3 => ∃ x, r = some (.int x) ∧ P x h3)) (hd : d' + 1 ≤ dd) (hw : (rest.map fun v => v.category).sum ≤ 8) (k : ∀ x h2, P x h2 → rn X np lo (.int x :: rest) h2) : rn X pc lo (v3 :: v2 :: v1 :: .ref (gad X.1 q0) :: rest) h := by
  subst hn
  exact rn_cV (As := [v1, v2, v3]) F hc hm hs hcl rfl hd hw dg hM (fun r h3 e => by obtain ⟨x, rfl, e⟩ := e; exact k x h3 e)
end RC
