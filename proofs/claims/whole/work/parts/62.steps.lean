theorem fb_holes : ∀ (m n : Nat) (f : Nat → Nat), (∀ i, i < n → f i < m) → (∀ i j, i < j → j < n → f i ≠ f j) → n ≤ m := by
  intro m
  induction m with
  | zero =>
    intro n f h1 _
    rcases Nat.eq_zero_or_pos n with h | h
    · omega
    · exact absurd (h1 0 h) (Nat.not_lt_zero _)
  | succ m ih =>
    intro n f h1 h2
    by_cases hx : ∃ i, i < n ∧ f i = m
    · obtain ⟨a, ha, hfa⟩ := hx
      have hg := ih (n - 1) (fun i => if i < a then f i else f (i + 1)) (by
        intro i hi
        by_cases q : i < a
        · simp only [if_pos q]
          have b1 := h1 i (by omega)
          have b2 := h2 i a q ha
          omega
        · simp only [if_neg q]
          have b1 := h1 (i + 1) (by omega)
          have b2 := h2 a (i + 1) (by omega) (by omega)
          omega) (by
        intro i j hij hj
        by_cases q : i < a
        · by_cases r : j < a
          · simp only [if_pos q, if_pos r]
            exact h2 i j hij (by omega)
          · simp only [if_pos q, if_neg r]
            exact h2 i (j + 1) (by omega) (by omega)
        · have r : ¬ j < a := by omega
          simp only [if_neg q, if_neg r]
          exact h2 (i + 1) (j + 1) (by omega) (by omega))
      omega
    · have hg := ih n f (fun i hi => by
        have b1 := h1 i hi
        have b2 : f i ≠ m := fun e => hx ⟨i, hi, e⟩
        omega) h2
      omega
def tkf (so sz : Nat → Int32) : Nat → Int32 := fun j => tkV (so (j / 6)) (sz (j / 6)) (j % 6)
theorem agr_rfl (n : Nat) (a : Nat → Int32) : agr n a a := fun _ _ => rfl
theorem ldV_f {so sz a : Nat → Int32} {p t n : Nat} (ht : t < 6) : ldV so sz a p t n = ldT (tkf so sz) a p t n := (ldT_V ht (agr_rfl n a) (fun _ _ => rfl)).symm
theorem TB_of {so sz : Nat → Int32} {n : Nat} (hn : n ≤ 9) (h1 : ∀ i, i < 9 → ∃ a, a < 6 ∧ so i = nI a) (h2 : ∀ i, i < 9 → ∃ z, z < 21 ∧ sz i = nI z) : TB (tkf so sz) n := by
  refine ⟨hn, fun j hj => ?_⟩
  obtain ⟨a, ha, ea⟩ := h1 (j / 6) (by omega)
  obtain ⟨z, hz, ez⟩ := h2 (j / 6) (by omega)
  unfold tkf
  rw [ea, ez]
  exact tk_bd a ha z hz (j % 6) (by omega)
theorem grV_f {so sz a b w : Nat → Int32} {n : Nat} (hab : agr n a b) : grV so sz b w n = gT (tkf so sz) a w n := (gT_V hab (fun _ _ => rfl)).symm
theorem grV_agr {so sz a b w : Nat → Int32} {n : Nat} (hab : agr n a b) : grV so sz a w n = grV so sz b w n := by rw [grV_f (agr_rfl n a), grV_f hab]
theorem grV_nn {so sz a w : Nat → Int32} {n : Nat} (hT : TB (tkf so sz) n) (hw : WB w) : ¬ grV so sz a w n < 0 := by rw [grV_f (agr_rfl n a)]; exact gT_nn hT hw
theorem ldV_agr {so sz a b : Nat → Int32} {p t n : Nat} (hab : agr n a b) : ldV so sz a p t n = ldV so sz b p t n := ldV_cong (fun i hi => ⟨rfl, rfl, hab i hi⟩)
theorem sfV_W {so sz a b : Nat → Int32} {fu : Int32} {n : Nat} (hab : agr n a b) (hT : TB (tkf so sz) n) (hf : bz 400 fu) : sfV so sz a fu n ↔ sfW so sz b fu n := by
  unfold sfV sfW
  constructor
  · intro q j hj
    have z := q ((j % 3) * 6 + j / 3) (by omega)
    rw [show ((j % 3) * 6 + j / 3) / 6 = j % 3 by omega, show ((j % 3) * 6 + j / 3) % 6 = j / 3 by omega, ldV_agr hab, ldV_f (by omega)] at z
    rw [ldV_f (by omega)]
    exact (abs_iff (ld_540 hT (by omega)) (by decide) hf).mp z
  · intro q j hj
    have z := q (3 * (j % 6) + j / 6) (by omega)
    rw [show (3 * (j % 6) + j / 6) % 3 = j / 6 by omega, show (3 * (j % 6) + j / 6) / 3 = j % 6 by omega, ldV_f (by omega)] at z
    rw [ldV_agr hab, ldV_f (by omega)]
    exact (abs_iff (ld_540 hT (by omega)) (by decide) hf).mpr z
/-- class and reference hold the same step -/
def SR (f g : StF) : Prop := (f 0 = 0 ∧ g 0 < 0) ∨ (f 0 = 1 ∧ ¬ g 0 < 0 ∧ f 1 = g 0 ∧ f 2 = g 1 ∧ f 3 = g 2 ∧ f 4 = g 3)
/-- what was found is a step -/
def VI (n : Nat) (so sz w b : Nat → Int32) (g : StF) : Prop := ¬ g 0 < 0 → FVr n g ∧ g 0 = grV so sz (nsR b g) w n
section LOCK
variable {n : Nat} {c d : CmF} {fr fq a b : Nat → Int32} {L : StF → StF → Prop}
theorem tc_ls (hab : agr n a b) (hc : ∀ f g i p, i < n → p < 3 → L f g → L (c f (upd a i (nI p)) 0 (nI i) (nI p)) (d g (upd b i (nI p)) 0 (nI i) (nI p))) {i : Nat} (hi : i < n) {f g : StF} (h : L f g) : ∀ p, p ≤ 3 → L (tcF c a i f p) (tcF d b i g p)
  | 0, _ => h
  | p + 1, hp => by
    have ih := tc_ls hab hc hi h p (by omega)
    unfold tcF
    rw [hab i hi]
    split
    · exact ih
    · exact hc _ _ i p hi (by omega) ih
theorem ts_ls (hab : agr n a b) (hfr : agr n fr fq) (hc : ∀ f g i o, i < n → o < n → i < o → L f g → L (c f (swp a i o) 1 (nI i) (nI o)) (d g (swp b i o) 1 (nI i) (nI o))) {i : Nat} (hi : i < n) {f g : StF} (h : L f g) : ∀ m, i + 1 + m ≤ n → L (tsF c fr a i f m) (tsF d fq b i g m)
  | 0, _ => h
  | m + 1, hm => by
    have ih := ts_ls hab hfr hc hi h m (by omega)
    unfold tsF
    rw [hab i hi, hab (i + 1 + m) (by omega), hfr (i + 1 + m) (by omega)]
    split
    · exact ih
    · exact hc _ _ i _ hi (by omega) (by omega) ih
theorem fc_ls (hab : agr n a b) (hfr : agr n fr fq) (hc : ∀ f g i p, i < n → p < 3 → L f g → L (c f (upd a i (nI p)) 0 (nI i) (nI p)) (d g (upd b i (nI p)) 0 (nI i) (nI p))) {f g : StF} (h : L f g) : ∀ i, i ≤ n → L (fcF c fr a f i) (fcF d fq b g i)
  | 0, _ => h
  | i + 1, hi => by
    have ih := fc_ls hab hfr hc h i (by omega)
    unfold fcF
    rw [hfr i (by omega)]
    split
    · exact ih
    · exact tc_ls hab hc (by omega) ih 3 (Nat.le_refl 3)
theorem fs_ls (hab : agr n a b) (hfr : agr n fr fq) (hc : ∀ f g i o, i < n → o < n → i < o → L f g → L (c f (swp a i o) 1 (nI i) (nI o)) (d g (swp b i o) 1 (nI i) (nI o))) {f g : StF} (h : L f g) : ∀ i, i ≤ n → L (fsF c fr a n f i) (fsF d fq b n g i)
  | 0, _ => h
  | i + 1, hi => by
    have ih := fs_ls hab hfr hc h i (by omega)
    unfold fsF
    rw [hfr i (by omega)]
    split
    · exact ih
    · exact ts_ls hab hfr hc (by omega) ih _ (by omega)
theorem fd_ls (hab : agr n a b) (hfr : agr n fr fq) (hc1 : ∀ f g i p, i < n → p < 3 → L f g → L (c f (upd a i (nI p)) 0 (nI i) (nI p)) (d g (upd b i (nI p)) 0 (nI i) (nI p))) (hc2 : ∀ f g i o, i < n → o < n → i < o → L f g → L (c f (swp a i o) 1 (nI i) (nI o)) (d g (swp b i o) 1 (nI i) (nI o))) {f g : StF} (h : L f g) : L (fdF c fr a n f) (fdF d fq b n g) := fs_ls hab hfr hc2 (fc_ls hab hfr hc1 h n (Nat.le_refl n)) n (Nat.le_refl n)
end LOCK
theorem cm_SR {so sz w a b : Nat → Int32} {fu : Int32} {n : Nat} (hT : TB (tkf so sz) n) (hw : WB w) (hf : bz 400 fu) (hab : agr n a b) {f g : StF} {k x y : Int32} (h : SR f g) : SR (cmpC so sz w fu n f a k x y) (cmV so sz w fu n g b k x y) := by
  unfold cmpC cmV
  rw [bP_iff (sfV_W hab hT hf), grV_agr hab]
  have hnn := grV_nn (a := b) hT hw
  have hiff : (f 0 = 0 ∨ grV so sz b w n < f 1) ↔ (g 0 < 0 ∨ grV so sz b w n < g 0) := by
    rcases h with ⟨h1, h2⟩ | ⟨h1, h2, h3, -⟩
    · exact ⟨fun _ => Or.inl h2, fun _ => Or.inl h1⟩
    · rw [h1, h3]
      constructor
      · rintro (z | z)
        · exact absurd z (by decide)
        · exact Or.inr z
      · rintro (z | z)
        · exact absurd z h2
        · exact Or.inr z
  by_cases q : bP (sfW so sz b fu n) = 1 ∧ (g 0 < 0 ∨ grV so sz b w n < g 0)
  · rw [if_pos q, if_pos ⟨q.1, hiff.mpr q.2⟩]
    refine Or.inr ⟨by simp [st5, upd], ?_, by simp [st5, st4, upd], by simp [st5, st4, upd], by simp [st5, st4, upd], by simp [st5, st4, upd]⟩
    rw [show st4 g (grV so sz b w n) k x y 0 = grV so sz b w n by simp [st4, upd]]
    exact hnn
  · rw [if_neg q, if_neg (fun z => q ⟨z.1, hiff.mp z.2⟩)]
    exact h
theorem st4_at {g : StF} {e k x y : Int32} : st4 g e k x y 0 = e ∧ st4 g e k x y 1 = k ∧ st4 g e k x y 2 = x ∧ st4 g e k x y 3 = y := ⟨by simp [st4, upd], by simp [st4, upd], by simp [st4, upd], by simp [st4, upd]⟩
theorem VI_c {so sz w b : Nat → Int32} {fu : Int32} {n i p : Nat} (hn : n ≤ 9) (hi : i < n) (hp : p < 3) {g : StF} (h : VI n so sz w b g) : VI n so sz w b (cmV so sz w fu n g (upd b i (nI p)) 0 (nI i) (nI p)) := by
  unfold cmV
  split
  · intro _
    obtain ⟨s0, s1, s2, s3⟩ := st4_at (g := g) (e := grV so sz (upd b i (nI p)) w n) (k := 0) (x := nI i) (y := nI p)
    refine ⟨Or.inl ⟨s1, i, p, hi, hp, s2, s3⟩, ?_⟩
    unfold nsR
    rw [s0, s1, s2, s3, if_pos rfl, nI_clamp (by omega)]
  · exact h
theorem VI_s {so sz w b : Nat → Int32} {fu : Int32} {n i o : Nat} (hn : n ≤ 9) (hi : i < n) (ho : o < n) {g : StF} (h : VI n so sz w b g) : VI n so sz w b (cmV so sz w fu n g (swp b i o) 1 (nI i) (nI o)) := by
  unfold cmV
  split
  · intro _
    obtain ⟨s0, s1, s2, s3⟩ := st4_at (g := g) (e := grV so sz (swp b i o) w n) (k := 1) (x := nI i) (y := nI o)
    refine ⟨Or.inr ⟨by rw [s1]; decide, i, o, hi, ho, s2, s3⟩, ?_⟩
    unfold nsR
    rw [s0, s1, s2, s3, if_neg (by decide), nI_clamp (by omega), nI_clamp (by omega)]
  · exact h
/-- both searches for a step end alike -/
theorem fd_SR {so sz w a b fr fq : Nat → Int32} {fu : Int32} {n : Nat} (hn : n ≤ 9) (hT : TB (tkf so sz) n) (hw : WB w) (hf : bz 400 fu) (hab : agr n a b) (hfr : agr n fr fq) (f g : StF) : SR (fdF (cmpC so sz w fu n) fr a n (upd f 0 0)) (fdF (cmV so sz w fu n) fq b n (upd g 0 (-1))) ∧ VI n so sz w b (fdF (cmV so sz w fu n) fq b n (upd g 0 (-1))) := by
  refine fd_ls (L := fun f g => SR f g ∧ VI n so sz w b g) hab hfr (fun f g i p hi hp h => ⟨cm_SR hT hw hf (agr_upd hab) h.1, VI_c hn hi hp h.2⟩) (fun f g i o hi ho hio h => ⟨cm_SR hT hw hf (agr_swp hi ho hab) h.1, VI_s hn hi ho h.2⟩) ⟨Or.inl ⟨by rw [pk_us], by rw [pk_us]; decide⟩, fun z => ?_⟩
  rw [pk_us] at z
  exact absurd (by decide) z
theorem ns_agr {a b : Nat → Int32} {n : Nat} {f g : StF} (hn : n ≤ 9) (hab : agr n a b) (hs : SR f g) (hg : ¬ g 0 < 0) (hv : FVr n g) : agr n (nsF a f) (nsR b g) := by
  rcases hs with ⟨h1, h2⟩ | ⟨h1, h2, h3, h4, h5, h6⟩
  · exact absurd h2 hg
  · unfold nsF nsR
    rw [h4, h5, h6]
    rcases hv with ⟨h0, i, p, hi, hp, e3, e4⟩ | ⟨h0, i, o, hi, ho, e3, e4⟩
    · rw [if_pos h0, if_pos h0]; exact agr_upd hab
    · rw [if_neg h0, if_neg h0, e3, e4, nI_clamp (by omega), nI_clamp (by omega)]; exact agr_swp hi ho hab
theorem FV_of {n : Nat} {f g : StF} (hs : SR f g) (hg : ¬ g 0 < 0) (hv : FVr n g) : FV n f := by
  rcases hs with ⟨h1, h2⟩ | ⟨h1, h2, h3, h4, h5, h6⟩
  · exact absurd h2 hg
  · unfold FV
    rw [h4, h5, h6]
    exact hv
theorem ls_iff {so sz w : Nat → Int32} {n : Nat} {q r : (Nat → Int32) × StF} (hab : agr n q.1 r.1) (hs : SR q.2 r.2) : lsP so sz w n q ↔ lsQ so sz w n r := by
  unfold lsP lsQ
  rw [grV_agr hab]
  rcases hs with ⟨h1, h2⟩ | ⟨h1, h2, h3, -⟩
  · exact ⟨fun z => absurd h1 z.1, fun z => absurd h2 z.1⟩
  · rw [h1, h3]
    exact ⟨fun z => ⟨h2, z.2⟩, fun z => ⟨by decide, z.2⟩⟩
section DOWN
variable {so sz w a b fr fq : Nat → Int32} {fu : Int32} {n : Nat} {f g : StF}
def rg9 (b : Nat → Int32) : Prop := ∀ i, i < 9 → ∃ p, p < 3 ∧ b i = nI p
theorem dn_lock (hn : n ≤ 9) (hT : TB (tkf so sz) n) (hw : WB w) (hf : bz 400 fu) (hab : agr n a b) (hfr : agr n fr fq) (hb : rg9 b) : ∀ j, (∀ i, i < j → lsQ so sz w n (dnR so sz w fu fq n b g i)) → agr n (dnP so sz w fu fr n a f j).1 (dnR so sz w fu fq n b g j).1 ∧ SR (dnP so sz w fu fr n a f j).2 (dnR so sz w fu fq n b g j).2 ∧ VI n so sz w (dnR so sz w fu fq n b g j).1 (dnR so sz w fu fq n b g j).2 ∧ rg9 (dnR so sz w fu fq n b g j).1
  | 0, _ => ⟨hab, (fd_SR hn hT hw hf hab hfr f g).1, (fd_SR hn hT hw hf hab hfr f g).2, hb⟩
  | j + 1, h => by
    obtain ⟨i1, i2, i3, i4⟩ := dn_lock hn hT hw hf hab hfr hb j (fun i hi => h i (by omega))
    have hl := h j (by omega)
    have hv := i3 hl.1
    have hag := ns_agr hn i1 i2 hl.1 hv.1
    have hz := fd_SR hn hT hw hf hag hfr (dnP so sz w fu fr n a f j).2 (dnR so sz w fu fq n b g j).2
    exact ⟨hag, hz.1, hz.2, nsR_rg hn i4 hv.1⟩
theorem dn_fall (hn : n ≤ 9) (hT : TB (tkf so sz) n) (hw : WB w) (hf : bz 400 fu) (hfr : agr n fr fq) (hb : rg9 b) {j : Nat} (h : ∀ i, i < j + 1 → lsQ so sz w n (dnR so sz w fu fq n b g i)) : grV so sz (dnR so sz w fu fq n b g (j + 1)).1 w n < grV so sz (dnR so sz w fu fq n b g j).1 w n := by
  obtain ⟨-, -, i3, -⟩ := dn_lock (a := b) (f := g) hn hT hw hf (agr_rfl n b) hfr hb j (fun i hi => h i (by omega))
  have hl := h j (by omega)
  have hv := i3 hl.1
  have e : grV so sz (dnR so sz w fu fq n b g (j + 1)).1 w n = (dnR so sz w fu fq n b g j).2 0 := hv.2.symm
  rw [e]
  exact hl.2
theorem dn_falls (hn : n ≤ 9) (hT : TB (tkf so sz) n) (hw : WB w) (hf : bz 400 fu) (hfr : agr n fr fq) (hb : rg9 b) {i : Nat} : ∀ {j : Nat}, i < j → (∀ i, i < j → lsQ so sz w n (dnR so sz w fu fq n b g i)) → grV so sz (dnR so sz w fu fq n b g j).1 w n < grV so sz (dnR so sz w fu fq n b g i).1 w n
  | 0, hij, _ => absurd hij (Nat.not_lt_zero _)
  | j + 1, hij, h => by
    have hl := dn_fall hn hT hw hf hfr hb h
    by_cases e : i = j
    · subst e; exact hl
    · exact Int32.lt_trans hl (dn_falls hn hT hw hf hfr hb (by omega) (fun i hi => h i (by omega)))
def cdN (b : Nat → Int32) : Nat → Nat
  | 0 => 0
  | k + 1 => cdN b k * 3 + (b k).toNatClampNeg
theorem cd_lt {b : Nat → Int32} (hb : rg9 b) : ∀ k, k ≤ 9 → cdN b k < 3 ^ k
  | 0, _ => Nat.zero_lt_one
  | k + 1, hk => by
    have ih := cd_lt hb k (by omega)
    obtain ⟨p, hp, ep⟩ := hb k (by omega)
    unfold cdN
    rw [ep, nI_clamp (by omega), Nat.pow_succ]
    omega
theorem cd_inj {b c : Nat → Int32} (hb : rg9 b) (hc : rg9 c) : ∀ k, k ≤ 9 → cdN b k = cdN c k → agr k b c
  | 0, _, _ => fun i hi => absurd hi (Nat.not_lt_zero _)
  | k + 1, hk, e => by
    obtain ⟨p, hp, ep⟩ := hb k (by omega)
    obtain ⟨r, hr, er⟩ := hc k (by omega)
    unfold cdN at e
    rw [ep, er, nI_clamp (by omega), nI_clamp (by omega)] at e
    have ih := cd_inj hb hc k (by omega) (by omega)
    intro i hi
    by_cases z : i = k
    · subst z; rw [ep, er, show p = r by omega]
    · exact ih i (by omega)
theorem least_m {P : Nat → Prop} : ∀ N, ¬ (∀ j, j ≤ N → P j) → ∃ m, m ≤ N ∧ ¬ P m ∧ ∀ j, j < m → P j
  | 0, h => ⟨0, Nat.le_refl 0, fun z => h (fun j hj => by rw [show j = 0 by omega]; exact z), fun j hj => absurd hj (Nat.not_lt_zero _)⟩
  | N + 1, h => by
    by_cases z : ∀ j, j ≤ N → P j
    · refine ⟨N + 1, Nat.le_refl _, fun y => h (fun j hj => ?_), fun j hj => z j (by omega)⟩
      by_cases e : j = N + 1
      · rw [e]; exact y
      · exact z j (by omega)
    · obtain ⟨m, hm, h1, h2⟩ := least_m N z
      exact ⟨m, by omega, h1, h2⟩
/-- steps come to an end -/
theorem dn_end (hn : n ≤ 9) (hT : TB (tkf so sz) n) (hw : WB w) (hf : bz 400 fu) (hfr : agr n fr fq) (hb : rg9 b) : ∃ m, m ≤ 19683 ∧ ¬ lsQ so sz w n (dnR so sz w fu fq n b g m) ∧ ∀ j, j < m → lsQ so sz w n (dnR so sz w fu fq n b g j) := by
  refine least_m 19683 (fun hall => ?_)
  have hlk := fun j (hj : j ≤ 19683) => dn_lock (a := b) (f := g) (g := g) hn hT hw hf (agr_rfl n b) hfr hb j (fun i hi => hall i (by omega))
  have h3 : 3 ^ n ≤ 19683 := by
    have := Nat.pow_le_pow_right (n := 3) (by decide) hn
    exact this
  have := fb_holes 19683 19684 (fun j => cdN (dnR so sz w fu fq n b g j).1 n) (fun i hi => by
    have := cd_lt (hlk i (by omega)).2.2.2 n hn
    show cdN (dnR so sz w fu fq n b g i).1 n < 19683
    omega) (fun i j hij hj e => by
    have hag := cd_inj (hlk i (by omega)).2.2.2 (hlk j (by omega)).2.2.2 n hn e
    have hfl := dn_falls hn hT hw hf hfr hb hij (fun i hi => hall i (by omega))
    rw [grV_agr hag] at hfl
    exact absurd hfl Int32.lt_irrefl)
  omega
end DOWN
