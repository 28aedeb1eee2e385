/-- hours' sum of weight and two rows -/
def dtI (w u v : Nat → Int32) : Nat → Int32
  | 0 => 0
  | t + 1 => dtI w u v t + w t * u t * v t
theorem dt_add (w u v x : Nat → Int32) : ∀ k, dtI w u (fun t => v t + x t) k = dtI w u v k + dtI w u x k
  | 0 => by unfold dtI; rfl
  | k + 1 => by unfold dtI; rw [dt_add w u v x k]; grind
theorem dt_zero (w u : Nat → Int32) : ∀ k, dtI w u (fun _ => 0) k = 0
  | 0 => rfl
  | k + 1 => by unfold dtI; rw [dt_zero w u k]; grind
theorem pr_dt (w f : Nat → Int32) (i o : Nat) : ∀ k, prF w f i o k = dtI w (fun t => f (i * 6 + t)) (fun t => f (o * 6 + t)) k
  | 0 => rfl
  | k + 1 => by unfold prF dtI; rw [pr_dt w f i o k]
theorem dt_cong {w u v x : Nat → Int32} : ∀ {k : Nat}, (∀ t, t < k → v t = x t) → dtI w u v k = dtI w u x k
  | 0, _ => rfl
  | k + 1, h => by unfold dtI; rw [dt_cong (fun t ht => h t (by omega)), h k (by omega)]
def mtX (a f : Nat → Int32) (i : Nat) (v : Int32) : Nat → Int32
  | 0 => 0
  | o + 1 => mtX a f i v o + (if a o = v then f (i * 9 + o) else 0)
theorem mtF_X (a f : Nat → Int32) (i p : Nat) : ∀ k, mtF a f i p k = mtX a f i (nI p) k
  | 0 => rfl
  | k + 1 => by unfold mtF mtX; rw [mtF_X a f i p k]
def smF (a f : Nat → Int32) : Nat → Int32
  | 0 => 0
  | i + 1 => smF a f i + 3 * mtX a f i (a i) i
def spX (f : Nat → Int32) (i : Nat) : Nat → Int32
  | 0 => 0
  | o + 1 => spX f i o + f (i * 9 + o)
def ttI (tk : Nat → Int32) (t : Nat) : Nat → Int32
  | 0 => 0
  | o + 1 => ttI tk t o + tk (o * 6 + t)
theorem gaI_X (f : Nat → Int32) (i : Nat) (x : Int32) : ∀ k, gaI f i x k = x - spX f i k
  | 0 => by unfold gaI spX; grind
  | k + 1 => by unfold gaI spX; rw [gaI_X f i x k]; grind
/-- products of pairs as the reference would have them -/
def PRF (w tk pr : Nat → Int32) (n : Nat) : Prop := ∀ i o, i < n → o ≤ i → pr (i * 9 + o) = prF w tk i o 6
theorem mtX_dt {w tk pr a : Nat → Int32} {n i p : Nat} (hp : PRF w tk pr n) (hi : i < n) : ∀ k, k ≤ i → mtX a pr i (nI p) k = dtI w (fun t => tk (i * 6 + t)) (fun t => ldT tk a p t k) 6
  | 0, _ => by
    unfold mtX
    exact (dt_zero _ _ 6).symm
  | k + 1, hk => by
    unfold mtX
    rw [mtX_dt hp hi k (by omega)]
    have e : dtI w (fun t => tk (i * 6 + t)) (fun t => ldT tk a p t (k + 1)) 6 = dtI w (fun t => tk (i * 6 + t)) (fun t => ldT tk a p t k + (if a k = nI p then tk (k * 6 + t) else 0)) 6 := rfl
    rw [e, dt_add]
    congr 1
    by_cases h : a k = nI p
    · simp only [h, if_true]
      rw [hp i k hi (by omega), pr_dt]
    · simp only [h, if_false]
      exact (dt_zero _ _ 6).symm
theorem spX_dt {w tk pr : Nat → Int32} {n i : Nat} (hp : PRF w tk pr n) (hi : i < n) : ∀ k, k ≤ i → spX pr i k = dtI w (fun t => tk (i * 6 + t)) (fun t => ttI tk t k) 6
  | 0, _ => by
    unfold spX
    exact (dt_zero _ _ 6).symm
  | k + 1, hk => by
    unfold spX
    rw [spX_dt hp hi k (by omega)]
    have e : dtI w (fun t => tk (i * 6 + t)) (fun t => ttI tk t (k + 1)) 6 = dtI w (fun t => tk (i * 6 + t)) (fun t => ttI tk t k + tk (k * 6 + t)) 6 := rfl
    rw [e, dt_add, hp i k hi (by omega), pr_dt]
theorem tt_ld {tk a : Nat → Int32} {t n : Nat} (ha : ∀ o, o < n → ∃ p, p < 3 ∧ a o = nI p) : ∀ k, k ≤ n → ttI tk t k = ldT tk a 0 t k + ldT tk a 1 t k + ldT tk a 2 t k
  | 0, _ => by unfold ttI ldT; rfl
  | k + 1, hk => by
    unfold ttI ldT
    rw [tt_ld ha k (by omega)]
    obtain ⟨p, hp, e⟩ := ha k (by omega)
    rw [e]
    rcases (show p = 0 ∨ p = 1 ∨ p = 2 by omega) with rfl | rfl | rfl
    · rw [if_pos rfl, if_neg (by decide), if_neg (by decide)]; grind
    · rw [if_neg (by decide), if_pos rfl, if_neg (by decide)]; grind
    · rw [if_neg (by decide), if_neg (by decide), if_pos rfl]; grind
theorem nt_0 (a b c x : Int32) : ntF (a + x) (b + 0) (c + 0) = ntF a b c + x * x + 3 * (x * a) - x * (a + b + c) := by unfold ntF; grind
theorem nt_1 (a b c x : Int32) : ntF (a + 0) (b + x) (c + 0) = ntF a b c + x * x + 3 * (x * b) - x * (a + b + c) := by unfold ntF; grind
theorem nt_2 (a b c x : Int32) : ntF (a + 0) (b + 0) (c + x) = ntF a b c + x * x + 3 * (x * c) - x * (a + b + c) := by unfold ntF; grind
theorem gs_step {w u f g v s : Nat → Int32} (h : ∀ t, g t = f t + u t * u t + 3 * (u t * v t) - u t * s t) : ∀ k, gsum w g k = gsum w f k + dtI w u u k + 3 * dtI w u v k - dtI w u s k
  | 0 => by unfold gsum dtI; grind
  | k + 1 => by unfold gsum dtI; rw [gs_step h k, h k]; grind
/-- grief by loads is grief by pairs -/
theorem gT_pairs {w tk pr a : Nat → Int32} {n : Nat} (hp : PRF w tk pr n) (ha : ∀ o, o < n → ∃ p, p < 3 ∧ a o = nI p) : ∀ k, k ≤ n → gT tk a w k = gaF pr k + smF a pr k
  | 0, _ => by
    unfold gT gaF smF
    have : ∀ k, gsum w (fun t => ntF (ldT tk a 0 t 0) (ldT tk a 1 t 0) (ldT tk a 2 t 0)) k = 0 := by
      intro k
      induction k with
      | zero => rfl
      | succ k ih =>
        unfold gsum
        rw [ih]
        show 0 + w k * ntF 0 0 0 = 0
        rw [show ntF 0 0 0 = 0 from rfl]
        grind
    rw [this]
    rfl
  | k + 1, hk => by
    have ih := gT_pairs hp ha k (by omega)
    obtain ⟨p, hp3, e⟩ := ha k (by omega)
    unfold gaF smF
    rw [gaI_X, e, mtX_dt hp (by omega) k (Nat.le_refl k), spX_dt hp (by omega) k (Nat.le_refl k), hp k k (by omega) (Nat.le_refl k), pr_dt]
    have es : dtI w (fun t => tk (k * 6 + t)) (fun t => ttI tk t k) 6 = dtI w (fun t => tk (k * 6 + t)) (fun t => ldT tk a 0 t k + ldT tk a 1 t k + ldT tk a 2 t k) 6 := dt_cong (fun t _ => tt_ld ha k (by omega))
    rw [es]
    have key := gs_step (w := w) (u := fun t => tk (k * 6 + t)) (f := fun t => ntF (ldT tk a 0 t k) (ldT tk a 1 t k) (ldT tk a 2 t k)) (g := fun t => ntF (ldT tk a 0 t (k + 1)) (ldT tk a 1 t (k + 1)) (ldT tk a 2 t (k + 1))) (v := fun t => ldT tk a p t k) (s := fun t => ldT tk a 0 t k + ldT tk a 1 t k + ldT tk a 2 t k) (fun t => by
      show ntF (ldT tk a 0 t k + _) (ldT tk a 1 t k + _) (ldT tk a 2 t k + _) = _
      rw [e]
      rcases (show p = 0 ∨ p = 1 ∨ p = 2 by omega) with rfl | rfl | rfl
      · rw [if_pos rfl, if_neg (by decide), if_neg (by decide)]; exact nt_0 _ _ _ _
      · rw [if_neg (by decide), if_pos rfl, if_neg (by decide)]; exact nt_1 _ _ _ _
      · rw [if_neg (by decide), if_neg (by decide), if_pos rfl]; exact nt_2 _ _ _ _) 6
    have e1 : gT tk a w (k + 1) = gsum w (fun t => ntF (ldT tk a 0 t (k + 1)) (ldT tk a 1 t (k + 1)) (ldT tk a 2 t (k + 1))) 6 := rfl
    have e2 : gT tk a w k = gsum w (fun t => ntF (ldT tk a 0 t k) (ldT tk a 1 t k) (ldT tk a 2 t k)) 6 := rfl
    rw [e1, key, ← e2, ih]
    grind
theorem ldT_cong {tk a b : Nat → Int32} {p t : Nat} : ∀ {n : Nat}, agr n a b → ldT tk a p t n = ldT tk b p t n
  | 0, _ => rfl
  | n + 1, h => by unfold ldT; rw [ldT_cong (fun i hi => h i (by omega)), h n (by omega)]
theorem gT_cong {tk a b w : Nat → Int32} {n : Nat} (h : agr n a b) : gT tk a w n = gT tk b w n := by
  unfold gT
  exact gsum_cong (fun t _ => by rw [ldT_cong h, ldT_cong h, ldT_cong h])
theorem sT_cong {tk a b : Nat → Int32} {fu : Int32} {n : Nat} (h : agr n a b) : sT tk a fu n ↔ sT tk b fu n := by
  unfold sT
  constructor
  · intro q j hj; rw [← ldT_cong h]; exact q j hj
  · intro q j hj; rw [ldT_cong h]; exact q j hj
theorem mtX_cong {a b f : Nat → Int32} {i : Nat} {v : Int32} : ∀ {k : Nat}, agr k a b → mtX a f i v k = mtX b f i v k
  | 0, _ => rfl
  | k + 1, h => by unfold mtX; rw [mtX_cong (fun i hi => h i (by omega)), h k (by omega)]
theorem smF_cong {a b f : Nat → Int32} : ∀ {k : Nat}, agr k a b → smF a f k = smF b f k
  | 0, _ => rfl
  | k + 1, h => by unfold smF; rw [smF_cong (fun i hi => h i (by omega)), mtX_cong (fun i hi => h i (by omega)), h k (by omega)]
theorem chN_cong {ph ph2 a b : Nat → Int32} : ∀ {k : Nat}, agr k a b → agr k ph ph2 → chN ph a k = chN ph2 b k
  | 0, _, _ => rfl
  | k + 1, h, h2 => by unfold chN; rw [chN_cong (fun i hi => h i (by omega)) (fun i hi => h2 i (by omega)), h k (by omega), h2 k (by omega)]
/-- tight hours suffice -/
theorem sfT_sT {tk a l : Nat → Int32} {fu : Int32} {n : Nat} (hT : TB tk n) (hf : bz 400 fu) (hl : ∀ t, t < 6 → tgB tk fu n t = true → ∀ p, p < 3 → l (p * 6 + t) = ldT tk a p t n) : sfT (tgB tk fu n) l fu ↔ sT tk a fu n := by
  unfold sfT sT
  constructor
  · intro q j hj
    by_cases h : tgB tk fu n (j / 3) = true
    · have z := q (j / 3) (by omega) h (j % 3) (by omega)
      rw [hl (j / 3) (by omega) h (j % 3) (by omega)] at z
      exact (abs_iff (ld_540 hT (by omega)) (by decide) hf).mp z
    · exact loose hT (by omega) hf (Bool.eq_false_iff.mpr h)
  · intro q t ht h p hp
    have z := q (3 * t + p) (by omega)
    rw [show (3 * t + p) % 3 = p by omega, show (3 * t + p) / 3 = t by omega] at z
    rw [hl t ht h p hp]
    exact (abs_iff (ld_540 hT ht) (by decide) hf).mpr z
