def agr (n : Nat) (a b : Nat → Int32) : Prop := ∀ i, i < n → a i = b i
theorem agr_upd {n i : Nat} {a b : Nat → Int32} {x : Int32} (h : agr n a b) : agr n (upd a i x) (upd b i x) := by
  intro j hj
  by_cases e : j = i
  · subst e; rw [pk_us, pk_us]
  · rw [pk_un e, pk_un e]; exact h j hj
theorem agr_swp {n i o : Nat} {a b : Nat → Int32} (hi : i < n) (ho : o < n) (h : agr n a b) : agr n (swp a i o) (swp b i o) := by
  unfold swp
  rw [h i hi, h o ho]
  exact agr_upd (agr_upd h)
def cmE (n : Nat) (c d : CmF) : Prop := ∀ (f : StF) (a b : Nat → Int32) (k x y : Int32), agr n a b → c f a k x y = d f b k x y
theorem tcF_ext {n : Nat} {c d : CmF} {a b : Nat → Int32} (hc : cmE n c d) (hab : agr n a b) {i : Nat} (hi : i < n) (f : StF) : ∀ p, tcF c a i f p = tcF d b i f p
  | 0 => rfl
  | p + 1 => by rw [tcF, tcF, tcF_ext hc hab hi f p, hab i hi, hc _ _ _ _ _ _ (agr_upd hab)]
theorem tsF_ext {n : Nat} {c d : CmF} {a b fr : Nat → Int32} (hc : cmE n c d) (hab : agr n a b) {i : Nat} (hi : i < n) (f : StF) : ∀ m, i + 1 + m ≤ n → tsF c fr a i f m = tsF d fr b i f m
  | 0, _ => rfl
  | m + 1, hm => by rw [tsF, tsF, tsF_ext hc hab hi f m (by omega), hab i hi, hab (i + 1 + m) (by omega), hc _ _ _ _ _ _ (agr_swp hi (by omega) hab)]
theorem fcF_ext {n : Nat} {c d : CmF} {a b fr : Nat → Int32} (hc : cmE n c d) (hab : agr n a b) (f : StF) : ∀ i, i ≤ n → fcF c fr a f i = fcF d fr b f i
  | 0, _ => rfl
  | i + 1, hi => by rw [fcF, fcF, fcF_ext hc hab f i (by omega), tcF_ext hc hab (by omega)]
theorem fsF_ext {n : Nat} {c d : CmF} {a b fr : Nat → Int32} (hc : cmE n c d) (hab : agr n a b) (f : StF) : ∀ i, i ≤ n → fsF c fr a n f i = fsF d fr b n f i
  | 0, _ => rfl
  | i + 1, hi => by rw [fsF, fsF, fsF_ext hc hab f i (by omega), tsF_ext hc hab (by omega) _ _ (by omega)]
theorem fdF_ext {n : Nat} {c d : CmF} {a b fr : Nat → Int32} (hc : cmE n c d) (hab : agr n a b) (f : StF) : fdF c fr a n f = fdF d fr b n f := by
  unfold fdF
  rw [fcF_ext hc hab f n (Nat.le_refl n), fsF_ext hc hab _ n (Nat.le_refl n)]
theorem ldT_V {so sz tk a b : Nat → Int32} {p t : Nat} (ht : t < 6) : ∀ {n : Nat}, agr n a b → (∀ j, j < n * 6 → tk j = tkV (so (j / 6)) (sz (j / 6)) (j % 6)) → ldT tk a p t n = ldV so sz b p t n
  | 0, _, _ => rfl
  | n + 1, hab, htk => by
    rw [ldT, ldV, ldT_V ht (fun i hi => hab i (by omega)) (fun j hj => htk j (by omega)), hab n (by omega), htk (n * 6 + t) (by omega), show (n * 6 + t) / 6 = n by omega, show (n * 6 + t) % 6 = t by omega]
def sfW (so sz ph : Nat → Int32) (fu : Int32) (n : Nat) : Prop := ∀ j, j < 18 → -fu ≤ ldV so sz ph (j % 3) (j / 3) n ∧ ldV so sz ph (j % 3) (j / 3) n ≤ fu
noncomputable def cmV (so sz w : Nat → Int32) (fu : Int32) (n : Nat) : CmF := fun f ph k a b => if bP (sfW so sz ph fu n) = 1 ∧ (f 0 < 0 ∨ grV so sz ph w n < f 0) then st4 f (grV so sz ph w n) k a b else f
theorem gT_V {so sz tk a b w : Nat → Int32} {n : Nat} (hab : agr n a b) (htk : ∀ j, j < n * 6 → tk j = tkV (so (j / 6)) (sz (j / 6)) (j % 6)) : gT tk a w n = grV so sz b w n := by
  unfold gT grV
  exact gsum_cong (fun t ht => by rw [ldT_V ht hab htk, ldT_V ht hab htk, ldT_V ht hab htk])
theorem sT_V {so sz tk a b : Nat → Int32} {fu : Int32} {n : Nat} (hab : agr n a b) (htk : ∀ j, j < n * 6 → tk j = tkV (so (j / 6)) (sz (j / 6)) (j % 6)) : sT tk a fu n ↔ sfW so sz b fu n := by
  unfold sT sfW
  constructor
  · intro q j hj; rw [← ldT_V (tk := tk) (a := a) (by omega) hab htk]; exact q j hj
  · intro q j hj; rw [ldT_V (by omega) hab htk]; exact q j hj
theorem cmR_V {so sz tk w : Nat → Int32} {fu : Int32} {n : Nat} (htk : ∀ j, j < n * 6 → tk j = tkV (so (j / 6)) (sz (j / 6)) (j % 6)) : cmE n (cmR tk w fu n) (cmV so sz w fu n) := by
  intro f a b k x y hab
  unfold cmR cmV
  rw [gT_V hab htk, bP_iff (sT_V hab htk)]
theorem as_fd (h : HpT) (n : Nat) : asH (hs h 37 0 (-1)) n = fdh (va_up h 32 (rtR h (n * 6))) (lnF (asT (hs h 37 0 (-1)) n) n) (cpF (h 34) (h 26) n) (upd (h 37) 0 (-1)) := by
  generalize hl : lnF (asT (hs h 37 0 (-1)) n) n = l
  unfold asH
  rw [hl]
  unfold asT
  rw [show rtR (hs h 37 0 (-1)) (n * 6) = rtR h (n * 6) from rfl]
  generalize rtR h (n * 6) = r
  unfold fdh hs
  funext q
  simp only [va_up]
  by_cases h1 : q = 32 <;> by_cases h2 : q = 33 <;> by_cases h3 : q = 34 <;> by_cases h4 : q = 37 <;> simp_all
noncomputable def fcP (c : CmF) (fr g : Nat → Int32) (f : StF) (i p : Nat) : StF := if fr i = 0 then fcF c fr g f i else tcF c g i (fcF c fr g f i) p
noncomputable def fsP (c : CmF) (fr g : Nat → Int32) (n : Nat) (f : StF) (i m : Nat) : StF := if fr i = 0 then fsF c fr g n f i else tsF c fr g i (fsF c fr g n f i) m
theorem fd_b1 {h : HpT} {l g f : Nat → Int32} {i : Nat} {x y : Int32} (e : g i = y) : hs (fdh h l (upd g i x) f) 34 i y = fdh h l g f := by rw [fd_hs34, upd_upd, ← e, upd_id]
theorem fd_s1 {h : HpT} {l g f : Nat → Int32} {i o : Nat} {x y : Int32} (e1 : g o = x) (e2 : g i = y) : hs (fdh h l (upd g i x) f) 34 o y = fdh h l (swp g i o) f := by rw [fd_hs34, ← e1, ← e2]; rfl
theorem fd_s2 {h : HpT} {l g f : Nat → Int32} {i o : Nat} {x y : Int32} (hio : i ≠ o) (e1 : g i = x) (e2 : g o = y) : hs (fdh h l (upd (swp g i o) i x) f) 34 o y = fdh h l g f := by
  rw [fd_hs34, ← e1, ← e2]
  congr 1
  funext j
  simp only [swp, upd]
  by_cases h1 : j = o <;> by_cases h2 : j = i <;> simp_all
theorem upd_back {g : Nat → Int32} {i : Nat} {x y : Int32} (e : g i = y) : upd (upd g i x) i y = g := by rw [upd_upd, ← e, upd_id]
theorem swp_back {g : Nat → Int32} {i o : Nat} (h : i ≠ o) : upd (upd (swp g i o) i (g i)) o (g o) = g := by
  funext j
  simp only [swp, upd]
  by_cases h1 : j = o <;> by_cases h2 : j = i <;> simp_all
