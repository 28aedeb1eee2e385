section TREE
variable {n q : Nat} {tx ty lt : Nat → Nat} {tk w pr ph fx : Nat → Int32} {fu : Int32}
theorem kept_iff (hL : LTI n q tx ty lt) (a : Nat → Int32) : (∀ k, k < q → a (tx k) = a (ty k)) ↔ ∀ o, o < n → a o = a (lt o) := hL.2.2 a
theorem go_dead (hL : LTI n q tx ty lt) : ∀ (d i : Nat) (a : Nat → Int32) (r : RsT), i + d = n → (∃ o, o < i ∧ ¬ a o = a (lt o)) → goF fx ph (kmR q tx ty tk w ph fu n) d i a r = r
  | 0, i, a, r, hid, ⟨o, ho, hne⟩ => by
    show kmR q tx ty tk w ph fu n a r = r
    unfold kmR
    rw [if_pos (bP_f (fun z => hne ((kept_iff hL a).mp z o (by omega))))]
  | d + 1, i, a, r, hid, ⟨o, ho, hne⟩ => by
    have hlo := (hL.1 o (by omega)).1
    have key : ∀ x, ∃ o, o < i + 1 ∧ ¬ upd a i x o = upd a i x (lt o) := fun x => ⟨o, by omega, by rw [pk_un (by omega), pk_un (by omega)]; exact hne⟩
    unfold goF
    split
    · exact go_dead hL d (i + 1) _ r (by omega) (key _)
    · rw [go_dead hL d (i + 1) _ r (by omega) (key _), go_dead hL d (i + 1) _ r (by omega) (key _), go_dead hL d (i + 1) _ r (by omega) (key _)]
/-- one branch of the reference's search -/
noncomputable def yB (fx ph : Nat → Int32) (M : (Nat → Int32) → RsT → RsT) (d i : Nat) (a : Nat → Int32) (p : Nat) (r : RsT) : RsT := if fx i = 1 ∧ ¬ nI p = ph i then r else goF fx ph M d (i + 1) (upd a i (nI p)) r
theorem go_three {M : (Nat → Int32) → RsT → RsT} {d i : Nat} {a : Nat → Int32} {r : RsT} (hp : ∃ p, p < 3 ∧ ph i = nI p) : goF fx ph M (d + 1) i a r = yB fx ph M d i a 2 (yB fx ph M d i a 1 (yB fx ph M d i a 0 r)) := by
  unfold goF yB
  by_cases hf : fx i = 1
  · rw [if_pos hf]
    obtain ⟨p, hp3, ep⟩ := hp
    rw [ep]
    rcases (show p = 0 ∨ p = 1 ∨ p = 2 by omega) with rfl | rfl | rfl
    · rw [if_pos ⟨hf, by decide⟩, if_pos ⟨hf, by decide⟩, if_neg (fun z => z.2 rfl)]
    · rw [if_pos ⟨hf, by decide⟩, if_neg (fun z => z.2 rfl), if_pos ⟨hf, by decide⟩]
    · rw [if_neg (fun z => z.2 rfl), if_pos ⟨hf, by decide⟩, if_pos ⟨hf, by decide⟩]
  · rw [if_neg hf, if_neg (fun z => hf z.1), if_neg (fun z => hf z.1), if_neg (fun z => hf z.1)]
    rfl
theorem tcN_in (b : Nat → Bool) {t : Nat} (ht : t < 6) (h : b t = true) : tcN b t < tcN b 6 := by
  have h1 := tcN_mono b (show t + 1 ≤ 6 from ht)
  rw [tcN, if_pos h] at h1
  omega
theorem al_ld {a l : Nat → Int32} {i p : Nat} (hp : p < 3) (hl : ∀ t, t < 6 → tgB tk fu n t = true → ∀ p, p < 3 → l (p * 6 + t) = ldT tk a p t i) : ∀ t, t < 6 → tgB tk fu n t = true → ∀ p2, p2 < 3 → alT (tgB tk fu n) l p (fun t => 1 * tk (i * 6 + t)) (tcN (tgB tk fu n) 6) (p2 * 6 + t) = ldT tk (upd a i (nI p)) p2 t (i + 1) := by
  intro t ht hb p2 hp2
  have e0 : ldT tk (upd a i (nI p)) p2 t i = ldT tk a p2 t i := ldT_cong (fun j hj => pk_un (by omega))
  unfold alT ldT
  rw [e0, pk_us, hl t ht hb p2 hp2]
  by_cases e : p2 = p
  · subst e
    rw [if_pos ⟨by omega, by rw [show (p2 * 6 + t) % 6 = t by omega]; exact hb, by rw [show (p2 * 6 + t) % 6 = t by omega]; exact tcN_in _ ht hb⟩, if_pos rfl, show (p2 * 6 + t) % 6 = t by omega]
    grind
  · rw [if_neg (fun z => e (by omega)), if_neg (fun z => e ((nI_eqs (by omega) (by omega)).mp z).symm)]
    grind
theorem pl_go (hn : n ≤ 9) (hL : LTI n q tx ty lt) (hT : TB tk n) (hw : WB w) (hf : bz 400 fu) (hph : ∀ i, i < n → ∃ p, p < 3 ∧ ph i = nI p) (hpr : PRF w tk pr n) : ∀ (d i : Nat) (a b l : Nat → Int32) (g : Int32) (c : Nat) (r s : RsT), i + d = n → agr i a b → (∀ o, o < i → ∃ p, p < 3 ∧ a o = nI p) → (∀ o, o < i → a o = a (lt o)) → (∀ t, t < 6 → tgB tk fu n t = true → ∀ p, p < 3 → l (p * 6 + t) = ldT tk a p t i) → g = gaF pr n + smF a pr i → c = chN ph a i → RB n r s → GR n s → RB n (plF (tgB tk fu n) ph fx tk pr lt fu n d i a l g c r) (goF fx ph (kmR q tx ty tk w ph fu n) d i b s) ∧ GR n (goF fx ph (kmR q tx ty tk w ph fu n) d i b s)
  | 0, i, a, b, l, g, c, r, s, hid, hab, ha, hlt, hl, eg, ec, hr, hs => by
    have e : i = n := by omega
    subst e
    show RB i (cnR r (bP (sfT (tgB tk fu i) l fu)) g c (packF a i)) (kmR q tx ty tk w ph fu i b s) ∧ GR i (kmR q tx ty tk w ph fu i b s)
    have hk : ∀ k, k < q → b (tx k) = b (ty k) := (kept_iff hL b).mpr (fun o ho => by
      have := (hL.1 o ho).1
      rw [← hab o ho, ← hab (lt o) (by omega)]
      exact hlt o ho)
    have ek : kmR q tx ty tk w ph fu i b s = mtR tk w ph fu i b s := by
      unfold kmR
      rw [bP_t hk, if_neg (by decide)]
    have esf : bP (sfT (tgB tk fu i) l fu) = bP (sT tk b fu i) := bP_iff ((sfT_sT hT hf hl).trans (sT_cong hab))
    have egT : gT tk b w i = g := by
      rw [← gT_cong hab, gT_pairs hpr ha i (Nat.le_refl i), eg]
    have ech : chN ph b i = c := by rw [ec, chN_cong hab (agr_rfl i ph)]
    have hc9 : c < 10 := by
      have := chN_le ph a i
      omega
    rw [ek, esf]
    unfold mtR
    rw [egT, ech]
    by_cases q0 : bP (sT tk b fu i) = 0
    · rw [if_pos q0]
      refine ⟨?_, hs⟩
      unfold cnR
      rw [if_pos q0]
      exact hr
    · rw [if_neg q0]
      exact ⟨mt_RB hn hc9 hab ha hs hr q0, mt_GR hn hc9 (fun o ho => by rw [← hab o ho]; exact ha o ho) (by rw [← egT]; exact gT_nn hT hw) hs⟩
  | d + 1, i, a, b, l, g, c, r, s, hid, hab, ha, hlt, hl, eg, ec, hr, hs => by
    have hi : i < n := by omega
    have hli := (hL.1 i hi).1
    have br : ∀ (p : Nat) (r s : RsT), p < 3 → RB n r s → GR n s → RB n ((fun p r => if okC ph fx lt a i p = 0 then r else plF (tgB tk fu n) ph fx tk pr lt fu n d (i + 1) (upd a i (nI p)) (alT (tgB tk fu n) l p (fun t => 1 * tk (i * 6 + t)) (tcN (tgB tk fu n) 6)) (g + 3 * mtF a pr i p i) (c + (if nI p = ph i then 0 else 1)) r) p r) (yB fx ph (kmR q tx ty tk w ph fu n) d i b p s) ∧ GR n (yB fx ph (kmR q tx ty tk w ph fu n) d i b p s) := by
      intro p r s hp hr hs
      show RB n (if okC ph fx lt a i p = 0 then r else _) _ ∧ _
      unfold yB
      by_cases h1 : fx i = 1 ∧ ¬ nI p = ph i
      · rw [if_pos h1, if_pos (show okC ph fx lt a i p = 0 from bP_f (fun z => h1.2 (z.1 h1.1)))]
        exact ⟨hr, hs⟩
      · rw [if_neg h1]
        have h1' : fx i = 1 → nI p = ph i := fun y => Classical.byContradiction (fun z => h1 ⟨y, z⟩)
        by_cases h2 : lt i = i ∨ nI p = a (lt i)
        · rw [if_neg (show ¬ okC ph fx lt a i p = 0 from fun z => bP_0 z ⟨h1', h2⟩)]
          refine pl_go hn hL hT hw hf hph hpr d (i + 1) (upd a i (nI p)) (upd b i (nI p)) _ _ _ r s (by omega) ?_ ?_ ?_ (al_ld hp hl) ?_ ?_ hr hs
          · intro j hj
            by_cases e : j = i
            · subst e; rw [pk_us, pk_us]
            · rw [pk_un e, pk_un e]; exact hab j (by omega)
          · intro o ho
            by_cases e : o = i
            · subst e; exact ⟨p, hp, pk_us⟩
            · rw [pk_un e]; exact ha o (by omega)
          · intro o ho
            by_cases e : o = i
            · subst e
              rw [pk_us]
              by_cases e2 : lt o = o
              · rw [e2, pk_us]
              · rw [pk_un e2]
                exact h2.elim (fun z => absurd z e2) id
            · have := (hL.1 o (by omega)).1
              rw [pk_un e, pk_un (by omega)]
              exact hlt o (by omega)
          · have e1 : smF (upd a i (nI p)) pr (i + 1) = smF a pr i + 3 * mtX a pr i (nI p) i := by
              show smF (upd a i (nI p)) pr i + 3 * mtX (upd a i (nI p)) pr i (upd a i (nI p) i) i = _
              rw [pk_us, smF_cong (a := upd a i (nI p)) (b := a) (fun j hj => pk_un (by omega)), mtX_cong (a := upd a i (nI p)) (b := a) (fun j hj => pk_un (by omega))]
            rw [e1, mtF_X, eg]
            grind
          · unfold chN
            rw [pk_us, ec, chN_cong (a := upd a i (nI p)) (b := a) (fun j hj => pk_un (by omega)) (agr_rfl i ph)]
        · have hlti : lt i < i := by
            have : lt i ≠ i := fun z => h2 (Or.inl z)
            omega
          rw [if_pos (show okC ph fx lt a i p = 0 from bP_f (fun z => h2 z.2)), go_dead hL d (i + 1) _ s (by omega) ⟨i, by omega, by
            rw [pk_us, pk_un (by omega), ← hab (lt i) hlti]
            exact fun z => h2 (Or.inr z)⟩]
          exact ⟨hr, hs⟩
    rw [go_three (hph i hi)]
    have b0 := br 0 r s (by decide) hr hs
    have b1 := br 1 _ _ (by decide) b0.1 b0.2
    exact br 2 _ _ (by decide) b1.1 b1.2
end TREE
/-- two searches of the reference over like things -/
theorem go_go {n : Nat} {fx ph fx2 ph2 : Nat → Int32} {M M2 : (Nat → Int32) → RsT → RsT} {R : RsT → RsT → Prop} (hfx : agr n fx fx2) (hph : agr n ph ph2) (hM : ∀ a b r s, agr n a b → R r s → R (M a r) (M2 b s)) : ∀ (d i : Nat) (a b : Nat → Int32) (r s : RsT), i + d = n → agr i a b → R r s → R (goF fx ph M d i a r) (goF fx2 ph2 M2 d i b s)
  | 0, i, a, b, r, s, hid, hab, h => by
    have e : i = n := by omega
    subst e
    exact hM a b r s hab h
  | d + 1, i, a, b, r, s, hid, hab, h => by
    have key : ∀ x, agr (i + 1) (upd a i x) (upd b i x) := by
      intro x j hj
      by_cases e : j = i
      · subst e; rw [pk_us, pk_us]
      · rw [pk_un e, pk_un e]; exact hab j (by omega)
    unfold goF
    rw [hfx i (by omega), hph i (by omega)]
    split
    · exact go_go hfx hph hM d (i + 1) _ _ _ _ (by omega) (key _) h
    · exact go_go hfx hph hM d (i + 1) _ _ _ _ (by omega) (key _) (go_go hfx hph hM d (i + 1) _ _ _ _ (by omega) (key _) (go_go hfx hph hM d (i + 1) _ _ _ _ (by omega) (key _) h))
theorem km_RA {n q : Nat} {tx ty lt : Nat → Nat} {tk tk2 w w2 ph ph2 : Nat → Int32} {fu : Int32} (hn : n ≤ 9) (hL : LTI n q tx ty lt) (htk : agr (n * 6) tk tk2) (hw : w = w2) (hph : agr n ph ph2) {a b : Nat → Int32} {r s : RsT} (hab : agr n a b) (h : RA n r s) : RA n (kmR q tx ty tk w ph fu n a r) (kmR q tx ty tk2 w2 ph2 fu n b s) := by
  subst hw
  have ek : bP (∀ k, k < q → a (tx k) = a (ty k)) = bP (∀ k, k < q → b (tx k) = b (ty k)) := bP_iff ⟨fun z k hk => by rw [← hab _ (hL.2.1 k hk).1, ← hab _ (hL.2.1 k hk).2.1]; exact z k hk, fun z k hk => by rw [hab _ (hL.2.1 k hk).1, hab _ (hL.2.1 k hk).2.1]; exact z k hk⟩
  have el : ∀ p t, t < 6 → ∀ m, m ≤ n → ldT tk a p t m = ldT tk2 b p t m := by
    intro p t ht m
    induction m with
    | zero => intro _; rfl
    | succ m ih =>
      intro hm
      unfold ldT
      rw [ih (by omega), hab m (by omega), htk (m * 6 + t) (by omega)]
  have eg : gT tk a w n = gT tk2 b w n := by
    unfold gT
    exact gsum_cong (fun t ht => by rw [el 0 t ht n (Nat.le_refl n), el 1 t ht n (Nat.le_refl n), el 2 t ht n (Nat.le_refl n)])
  have es : bP (sT tk a fu n) = bP (sT tk2 b fu n) := bP_iff ⟨fun z j hj => by rw [← el (j % 3) (j / 3) (by omega) n (Nat.le_refl n)]; exact z j hj, fun z j hj => by rw [el (j % 3) (j / 3) (by omega) n (Nat.le_refl n)]; exact z j hj⟩
  unfold kmR mtR
  rw [ek, es, eg, chN_cong hab hph]
  split
  · exact h
  · split
    · exact h
    · exact mt_RA hn (by have := chN_le ph2 b n; omega) hab h
/-- the search as both must have it -/
noncomputable def srR (so sz ph fx w : Nat → Int32) (fu : Int32) (n q : Nat) (tx ty : Nat → Nat) : RsT := goF fx ph (kmR q tx ty (tkf so sz) w ph fu n) n 0 (fun _ => 0) (fun j => if j = 18 then -1 else 0, fun _ => -1, fun _ => 0)
theorem sr_agr {so sz so2 sz2 ph ph2 fx fx2 w : Nat → Int32} {fu : Int32} {n q : Nat} {tx ty lt : Nat → Nat} (hn : n ≤ 9) (hL : LTI n q tx ty lt) (hso : agr n so so2) (hsz : agr n sz sz2) (hph : agr n ph ph2) (hfx : agr n fx fx2) : RA n (srR so sz ph fx w fu n q tx ty) (srR so2 sz2 ph2 fx2 w fu n q tx ty) := by
  unfold srR
  refine go_go (R := RA n) hfx hph (fun a b r s hab h => km_RA hn hL (fun j hj => ?_) rfl hph hab h) n 0 _ _ _ _ (by omega) (fun i hi => rfl) ⟨rfl, rfl, rfl, fun c hc => ⟨rfl, fun _ i hi => rfl⟩⟩
  unfold tkf
  rw [hso (j / 6) (by omega), hsz (j / 6) (by omega)]
theorem go_sr {h : HpT} {n q : Nat} {tx ty lt : Nat → Nat} (hn : n ≤ 9) (hL : LTI n q tx ty lt) : RA n (goR h n q tx ty) (srR (h 24) (h 25) (h 26) (h 27) (h 28) (h 23 6) n q tx ty) := by
  unfold goR srR
  refine go_go (R := RA n) (agr_rfl n _) (agr_rfl n _) (fun a b r s hab hh => km_RA hn hL (fun j hj => ?_) rfl (agr_rfl n _) hab hh) n 0 _ _ _ _ (by omega) (fun i hi => absurd hi (Nat.not_lt_zero _)) ⟨?_, ?_, ?_, fun c hc => ⟨?_, fun y => ?_⟩⟩
  · exact rt_tk h n j hj
  · show gs23 (h 23) 17 = 0
    unfold gs23; rw [pk_un (by decide), pk_un (by decide), pk_us]
  · show gs23 (h 23) 18 = -1
    unfold gs23; rw [pk_un (by decide), pk_us]
  · show gs23 (h 23) 19 = 0
    unfold gs23; rw [pk_us]
  · show fillF (h 36) 10 (-1) c = -1
    unfold fillF; rw [if_pos hc]
  · exact absurd m1_lt y
theorem GR_0 (n : Nat) : GR n (fun j => if j = 18 then -1 else 0, fun _ => -1, fun _ => 0) := ⟨Or.inl rfl, fun c _ => Or.inl rfl, fun c _ y => absurd m1_lt y, fun _ c _ => rfl, fun y => absurd m1_lt y⟩
