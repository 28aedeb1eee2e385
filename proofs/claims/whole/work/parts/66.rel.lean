/-- equal cells of class and reference -/
def RQ (n : Nat) (h : HpT) : Prop := h 24 = h 2 ∧ h 25 = h 3 ∧ h 27 = h 5 ∧ h 28 = h 9 ∧ agr n (h 26) (h 4)
def RP (q : Nat) (tx ty : Nat → Nat) (h : HpT) : Prop := h 23 6 = h 1 11 ∧ h 1 10 = nI q ∧ ∀ k, k < q → h 7 k = nI (tx k) ∧ h 8 k = nI (ty k)
def RU (n u : Nat) (h : HpT) : Prop := u ≤ 8 ∧ h 21 0 = nI u ∧ h 23 10 = nI u ∧ ∀ j, j < u → (∀ i, i < n → h 30 (9 * j + i) = phF (h 22 j) (nI i)) ∧ (∀ i, i < 9 → ∃ p, p < 3 ∧ h 30 (9 * j + i) = nI p)
def RF (h : HpT) : Prop := h 31 0 = h 0 4 ∧ h 31 1 = h 0 5 ∧ h 31 2 = h 0 6
def RG (h : HpT) : Prop := (∀ i, i < 9 → ∃ z, z < 21 ∧ h 3 i = nI z) ∧ WB (h 9) ∧ ∃ f, f ≤ 400 ∧ h 1 11 = nI f
noncomputable def sR (h : HpT) (n q : Nat) (tx ty : Nat → Nat) : RsT := srR (h 2) (h 3) (h 4) (h 5) (h 9) (h 1 11) n q tx ty
def RC (n q : Nat) (tx ty : Nat → Nat) (h : HpT) : Prop := ¬ h 11 13 = 0 → RB n (h 11, h 12, h 13) (sR h n q tx ty)
def Rel (n q u : Nat) (tx ty lt : Nat → Nat) (h : HpT) : Prop := SI n h ∧ RI n h ∧ TI2 q tx ty h ∧ LTI n q tx ty lt ∧ (∀ i, i < n → h 6 i = nI (lt i)) ∧ RQ n h ∧ RP q tx ty h ∧ RU n u h ∧ RF h ∧ (∀ j, j < 18 → h 18 j = 0) ∧ RG h ∧ RC n q tx ty h
section REL
variable {n q u : Nat} {tx ty lt : Nat → Nat} {h : HpT}
theorem r_lt (R : Rel n q u tx ty lt h) : ∀ i, i < n → lt i ≤ i ∧ h 6 i = nI (lt i) := fun i hi => ⟨(R.2.2.2.1.1 i hi).1, R.2.2.2.2.1 i hi⟩
theorem r_q (R : Rel n q u tx ty lt h) : q ≤ 6 := R.2.2.1.1
theorem r_n (R : Rel n q u tx ty lt h) : n ≤ 9 := R.1.1
theorem r_L (R : Rel n q u tx ty lt h) : LTI n q tx ty lt := R.2.2.2.1
theorem r_Q (R : Rel n q u tx ty lt h) : RQ n h := R.2.2.2.2.2.1
theorem r_P (R : Rel n q u tx ty lt h) : RP q tx ty h := R.2.2.2.2.2.2.1
theorem r_U (R : Rel n q u tx ty lt h) : RU n u h := R.2.2.2.2.2.2.2.1
theorem r_F (R : Rel n q u tx ty lt h) : RF h := R.2.2.2.2.2.2.2.2.1
theorem r_18 (R : Rel n q u tx ty lt h) : ∀ j, j < 18 → h 18 j = 0 := R.2.2.2.2.2.2.2.2.2.1
theorem r_G (R : Rel n q u tx ty lt h) : RG h := R.2.2.2.2.2.2.2.2.2.2.1
theorem r_C (R : Rel n q u tx ty lt h) : RC n q tx ty h := R.2.2.2.2.2.2.2.2.2.2.2
theorem r_TB (R : Rel n q u tx ty lt h) : TB (tkf (h 2) (h 3)) n := TB_of R.1.1 R.1.2.2.1 (r_G R).1
theorem r_fu (R : Rel n q u tx ty lt h) : bz 400 (h 1 11) := by
  obtain ⟨f, hf, e⟩ := (r_G R).2.2
  rw [e]
  unfold bz
  rw [nI_toInt (by omega)]
  omega
end REL
def RX (h : HpT) : Prop := ∃ n q u tx ty lt, Rel n q u tx ty lt h
theorem Rel_s {n q u : Nat} {tx ty lt : Nat → Nat} {h g : HpT} (R : Rel n q u tx ty lt h) (hk : ∀ k, k ≤ 10 ∨ k = 18 ∨ k = 21 ∨ k = 22 ∨ (24 ≤ k ∧ k ≤ 31) → g k = h k) (h4 : g 23 4 = h 23 4) (h6 : g 23 6 = h 23 6) (h8 : g 23 8 = h 23 8) (h10 : g 23 10 = h 23 10) (hc : ¬ g 11 13 = 0 → RB n (g 11, g 12, g 13) (sR h n q tx ty)) : Rel n q u tx ty lt g := by
  have k0 := hk 0 (by omega)
  have k1 := hk 1 (by omega)
  have k2 := hk 2 (by omega)
  have k3 := hk 3 (by omega)
  have k4 := hk 4 (by omega)
  have k5 := hk 5 (by omega)
  have k6 := hk 6 (by omega)
  have k7 := hk 7 (by omega)
  have k8 := hk 8 (by omega)
  have k9 := hk 9 (by omega)
  have k10 := hk 10 (by omega)
  have k18 := hk 18 (by omega)
  have k21 := hk 21 (by omega)
  have k22 := hk 22 (by omega)
  have k24 := hk 24 (by omega)
  have k25 := hk 25 (by omega)
  have k26 := hk 26 (by omega)
  have k27 := hk 27 (by omega)
  have k28 := hk 28 (by omega)
  have k29 := hk 29 (by omega)
  have k30 := hk 30 (by omega)
  have k31 := hk 31 (by omega)
  unfold Rel SI LI RI TI2 RQ RP RU RF RG RC sR
  rw [k0, k1, k2, k3, k4, k5, k6, k7, k8, k9, k10, k18, k21, k22, k24, k25, k26, k27, k28, k29, k30, k31, h4, h6, h8, h10]
  obtain ⟨a1, a2, a3, a4, a5, a6, a7, a8, a9, a10, a11, -⟩ := R
  exact ⟨a1, a2, a3, a4, a5, a6, a7, a8, a9, a10, a11, hc⟩
theorem Rel_q {n q u : Nat} {tx ty lt : Nat → Nat} {h g : HpT} (R : Rel n q u tx ty lt h) (hk : ∀ k, k ≤ 13 ∨ k = 18 ∨ k = 21 ∨ k = 22 ∨ (24 ≤ k ∧ k ≤ 31) → g k = h k) (h4 : g 23 4 = h 23 4) (h6 : g 23 6 = h 23 6) (h8 : g 23 8 = h 23 8) (h10 : g 23 10 = h 23 10) : Rel n q u tx ty lt g := Rel_s R (fun k z => hk k (by omega)) h4 h6 h8 h10 (by
  rw [hk 11 (by omega), hk 12 (by omega), hk 13 (by omega)]
  exact r_C R)
/-- a call refused by both -/
theorem Rel_ref {n q u : Nat} {tx ty lt : Nat → Nat} {h : HpT} (R : Rel n q u tx ty lt h) {k : Nat} (hk : k < 3) : Rel n q u tx ty lt (hs (hs h 0 (4 + k) (h 0 (4 + k) + 1)) 31 k (h 31 k + 1)) := by
  obtain ⟨a1, a2, a3, a4, a5, a6, a7, a8, a9, a10, a11, a12⟩ := R
  refine ⟨a1, a2, a3, a4, a5, a6, a7, a8, ?_, a10, a11, a12⟩
  obtain ⟨b1, b2, b3⟩ := a9
  show upd (h 31) k (h 31 k + 1) 0 = upd (h 0) (4 + k) (h 0 (4 + k) + 1) 4 ∧ upd (h 31) k (h 31 k + 1) 1 = upd (h 0) (4 + k) (h 0 (4 + k) + 1) 5 ∧ upd (h 31) k (h 31 k + 1) 2 = upd (h 0) (4 + k) (h 0 (4 + k) + 1) 6
  rcases (show k = 0 ∨ k = 1 ∨ k = 2 by omega) with rfl | rfl | rfl
  · simp [upd, b1, b2, b3]
  · simp [upd, b1, b2, b3]
  · simp [upd, b1, b2, b3]
theorem RB_RA {n : Nat} {x r s : RsT} (h : RB n x r) (g : RA n r s) : RB n x s := by
  obtain ⟨h1, h2, h3, h4⟩ := h
  obtain ⟨g1, g2, g3, g4⟩ := g
  refine ⟨h1.trans g1, h2.trans g2, h3.trans g3, fun c hc => ⟨(h4 c hc).1.trans (g4 c hc).1, fun y i hi => ?_⟩⟩
  rw [← (g4 c hc).2 y i hi]
  exact (h4 c hc).2 (by rw [(g4 c hc).1]; exact y) i hi
theorem RA_sym {n : Nat} {r s : RsT} (g : RA n r s) : RA n s r := by
  obtain ⟨g1, g2, g3, g4⟩ := g
  exact ⟨g1.symm, g2.symm, g3.symm, fun c hc => ⟨(g4 c hc).1.symm, fun y i hi => ((g4 c hc).2 (by rw [← (g4 c hc).1]; exact y) i hi).symm⟩⟩
theorem GR_RA {n : Nat} {r s : RsT} (h : GR n r) (g : RA n r s) : GR n s := by
  obtain ⟨g1, g2, g3, g4⟩ := RA_sym g
  obtain ⟨h1, h2, h3, h4, h5⟩ := h
  refine ⟨by rw [g2]; exact h1, fun c hc => by rw [(g4 c hc).1]; exact h2 c hc, fun c hc y i hi => ?_, fun y c hc => ?_, fun y => ?_⟩
  · have y2 : ¬ r.2.1 c < 0 := by rw [← (g4 c hc).1]; exact y
    rw [(g4 c hc).2 y2 i hi]
    exact h3 c hc y2 i hi
  · rw [(g4 c hc).1]; exact h4 (by rw [← g2]; exact y) c hc
  · obtain ⟨⟨c, hc, e⟩, hle⟩ := h5 (by rw [← g2]; exact y)
    refine ⟨⟨c, hc, by rw [(g4 c hc).1, g2]; exact e⟩, fun c hc y => ?_⟩
    rw [(g4 c hc).1, g2]
    exact hle c hc (by rw [← (g4 c hc).1]; exact y)
theorem fa5_11 (h : HpT) : fa5 h 11 = upd (upd (upd (upd (h 11) 13 1) 11 0) 2 0) 12 (-1) := by
  unfold fa5 hs
  simp [va_up]
theorem fa_start (h : HpT) (n : Nat) : RB n (fa8 h n 11, fa8 h n 12, h 13) (fun j => if j = 18 then -1 else 0, fun _ => -1, fun _ => 0) := by
  have e6 : fa6 h n 11 = fa5 h 11 := by unfold fa6; exact va_up_ne _ _ (by decide)
  have e12 : fa8 h n 12 = fillF (h 12) 10 (-1) := by
    unfold fa8 fa7 tgh fa6
    rw [va_up_ne _ _ (by decide), va_up_ne _ _ (by decide), va_up_ne _ _ (by decide), va_up_ne _ _ (by decide)]
    unfold fa5 hs
    simp [va_up]
  unfold RB
  rw [fa8_11, e6, fa5_11, e12]
  refine ⟨by simp [upd], by simp [upd], by simp [upd], fun c hc => ⟨?_, fun y => absurd m1_lt y⟩⟩
  show fillF (h 12) 10 (-1) c = -1
  unfold fillF
  rw [if_pos hc]
theorem fa_PRF (h : HpT) {n : Nat} (hn : n ≤ 9) : PRF (h 9) (rtF (fa5 h) (n * 6)) (mpF (fa7 h n) n 0) n := by
  intro i o hi ho
  have e9 : fa7 h n 9 = h 9 := by
    unfold fa7 tgh fa6
    rw [va_up_ne _ _ (by decide), va_up_ne _ _ (by decide), va_up_ne _ _ (by decide), fa5_cell (by decide) (by decide)]
  have e15 : fa7 h n 15 = rtF (fa5 h) (n * 6) := by
    unfold fa7 tgh fa6
    rw [va_up_ne _ _ (by decide), va_up_ne _ _ (by decide), va_up_self]
  unfold mpF
  rw [e9, e15, if_pos (Or.inl ⟨by omega, by omega⟩), show (i * 9 + o) / 9 = i by omega, show (i * 9 + o) % 9 = o by omega]
/-- a search of the class leaves what must be -/
theorem fa_RB {n q u : Nat} {tx ty lt : Nat → Nat} {h g : HpT} (R : Rel n q u tx ty lt h) (hf : FaR h n lt g) : RB n (g 11, g 12, g 13) (sR h n q tx ty) := by
  rcases hf with ⟨h0, rfl⟩ | ⟨h0, a', m', rfl⟩
  · exact r_C R h0
  · have hn := r_n R
    have htk : agr (n * 6) (rtF (fa5 h) (n * 6)) (tkf (h 2) (h 3)) := by
      intro j hj
      unfold rtF tkf
      rw [if_pos hj, fa5_cell (by decide) (by decide), fa5_cell (by decide) (by decide)]
    have hT : TB (rtF (fa5 h) (n * 6)) n := ⟨hn, fun j hj => by rw [htk j hj]; exact (r_TB R).2 j hj⟩
    have z := (pl_go (fx := h 5) hn (r_L R) hT (r_G R).2.1 (r_fu R) (fun i hi => R.1.2.2.2.1 i (by omega)) (fa_PRF h hn) n 0 (h 14) (fun _ => 0) (h 18) (gaF (mpF (fa7 h n) n 0) n) 0 (fa8 h n 11, fa8 h n 12, h 13) (fun j => if j = 18 then -1 else 0, fun _ => -1, fun _ => 0) (by omega) (fun i hi => absurd hi (Nat.not_lt_zero _)) (fun i hi => absurd hi (Nat.not_lt_zero _)) (fun i hi => absurd hi (Nat.not_lt_zero _)) (fun t ht _ p hp => r_18 R _ (by omega)) (show gaF (mpF (fa7 h n) n 0) n = gaF (mpF (fa7 h n) n 0) n + 0 by grind) rfl (fa_start h n) (GR_0 n)).1
    have e : RB n (plF (fab h n) (h 4) (h 5) (rtF (fa5 h) (n * 6)) (mpF (fa7 h n) n 0) lt (h 1 11) n n 0 (h 14) (h 18) (gaF (mpF (fa7 h n) n 0) n) 0 (fa8 h n 11, fa8 h n 12, h 13)) (sR h n q tx ty) := by
      refine RB_RA z ?_
      unfold sR srR
      exact go_go (R := RA n) (agr_rfl n _) (agr_rfl n _) (fun a b r s hab hh => km_RA hn (r_L R) htk rfl (agr_rfl n _) hab hh) n 0 _ _ _ _ (by omega) (fun i hi => rfl) ⟨rfl, rfl, rfl, fun c hc => ⟨rfl, fun _ i hi => rfl⟩⟩
    generalize plF (fab h n) (h 4) (h 5) (rtF (fa5 h) (n * 6)) (mpF (fa7 h n) n 0) lt (h 1 11) n n 0 (h 14) (h 18) (gaF (mpF (fa7 h n) n 0) n) 0 (fa8 h n 11, fa8 h n 12, h 13) = r at e ⊢
    have e11 : lyh (fa8 h n) r a' m' (h 18) 11 = r.1 := by unfold lyh; simp [va_up]
    have e12 : lyh (fa8 h n) r a' m' (h 18) 12 = r.2.1 := by unfold lyh; simp [va_up]
    have e13 : lyh (fa8 h n) r a' m' (h 18) 13 = r.2.2 := by unfold lyh; simp [va_up]
    rw [e11, e12, e13]
    exact e
theorem sr_GR {n q u : Nat} {tx ty lt : Nat → Nat} {h : HpT} (R : Rel n q u tx ty lt h) : GR n (sR h n q tx ty) := by
  have hn := r_n R
  have hT := r_TB R
  have htk : agr (n * 6) (rtF (fa5 h) (n * 6)) (tkf (h 2) (h 3)) := by
    intro j hj
    unfold rtF tkf
    rw [if_pos hj, fa5_cell (by decide) (by decide), fa5_cell (by decide) (by decide)]
  have hT : TB (rtF (fa5 h) (n * 6)) n := ⟨hn, fun j hj => by rw [htk j hj]; exact (r_TB R).2 j hj⟩
  have z := (pl_go (fx := h 5) hn (r_L R) hT (r_G R).2.1 (r_fu R) (fun i hi => R.1.2.2.2.1 i (by omega)) (fa_PRF h hn) n 0 (h 14) (fun _ => 0) (h 18) (gaF (mpF (fa7 h n) n 0) n) 0 (fa8 h n 11, fa8 h n 12, h 13) (fun j => if j = 18 then -1 else 0, fun _ => -1, fun _ => 0) (by omega) (fun i hi => absurd hi (Nat.not_lt_zero _)) (fun i hi => absurd hi (Nat.not_lt_zero _)) (fun i hi => absurd hi (Nat.not_lt_zero _)) (fun t ht _ p hp => r_18 R _ (by omega)) (show gaF (mpF (fa7 h n) n 0) n = gaF (mpF (fa7 h n) n 0) n + 0 by grind) rfl (fa_start h n) (GR_0 n)).2
  refine GR_RA z ?_
  unfold sR srR
  exact go_go (R := RA n) (agr_rfl n _) (agr_rfl n _) (fun a b r s hab hh => km_RA hn (r_L R) htk rfl (agr_rfl n _) hab hh) n 0 _ _ _ _ (by omega) (fun i hi => rfl) ⟨rfl, rfl, rfl, fun c hc => ⟨rfl, fun _ i hi => rfl⟩⟩
/-- the reference's search, where class and reference are alike -/
theorem go_sR {n q u : Nat} {tx ty lt : Nat → Nat} {h : HpT} (R : Rel n q u tx ty lt h) : RA n (goR h n q tx ty) (sR h n q tx ty) := by
  have hn := r_n R
  obtain ⟨e1, e2, e3, e4, e5⟩ := r_Q R
  have z := go_sr (h := h) hn (r_L R)
  have z2 := sr_agr (w := h 9) (fu := h 1 11) hn (r_L R) (agr_rfl n (h 2)) (agr_rfl n (h 3)) e5 (agr_rfl n (h 5))
  rw [e1, e2, e3, e4, (r_P R).1] at z
  obtain ⟨a1, a2, a3, a4⟩ := z
  obtain ⟨b1, b2, b3, b4⟩ := z2
  exact ⟨a1.trans b1, a2.trans b2, a3.trans b3, fun c hc => ⟨(a4 c hc).1.trans (b4 c hc).1, fun y i hi => ((a4 c hc).2 (by rw [(b4 c hc).1]; exact y) i hi).trans ((b4 c hc).2 y i hi)⟩⟩
