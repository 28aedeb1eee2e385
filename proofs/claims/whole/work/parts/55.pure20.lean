/-- all layings from house i on, in their order -/
noncomputable def goF (fx ph : Nat → Int32) (M : (Nat → Int32) → RsT → RsT) : Nat → Nat → (Nat → Int32) → RsT → RsT
  | 0, _, a, r => M a r
  | d + 1, i, a, r => if fx i = 1 then goF fx ph M d (i + 1) (upd a i (ph i)) r else goF fx ph M d (i + 1) (upd a i 2) (goF fx ph M d (i + 1) (upd a i 1) (goF fx ph M d (i + 1) (upd a i 0) r))
noncomputable def kmR (q : Nat) (tx ty : Nat → Nat) (tk w ph : Nat → Int32) (fu : Int32) (n : Nat) (a : Nat → Int32) (r : RsT) : RsT := if bP (∀ k, k < q → a (tx k) = a (ty k)) = 0 then r else mtR tk w ph fu n a r
theorem mtR_o {tk w ph : Nat → Int32} {fu : Int32} {n : Nat} {a : Nat → Int32} {r : RsT} {j : Nat} (h1 : j ≠ 17) (h2 : j ≠ 18) (h3 : j ≠ 19) : (mtR tk w ph fu n a r).1 j = r.1 j := by
  unfold mtR
  split
  · rfl
  · exact mt23_o _ _ h1 h2 h3
theorem kmR_o {q : Nat} {tx ty : Nat → Nat} {tk w ph : Nat → Int32} {fu : Int32} {n : Nat} {a : Nat → Int32} {r : RsT} {j : Nat} (h1 : j ≠ 17) (h2 : j ≠ 18) (h3 : j ≠ 19) : (kmR q tx ty tk w ph fu n a r).1 j = r.1 j := by
  unfold kmR
  split
  · rfl
  · exact mtR_o h1 h2 h3
theorem goF_o {fx ph : Nat → Int32} {M : (Nat → Int32) → RsT → RsT} {j : Nat} (hM : ∀ a r, (M a r).1 j = r.1 j) : ∀ (d i : Nat) (a : Nat → Int32) (r : RsT), (goF fx ph M d i a r).1 j = r.1 j
  | 0, _, a, r => hM a r
  | d + 1, i, a, r => by
    unfold goF
    split
    · exact goF_o hM d _ _ _
    · rw [goF_o hM d, goF_o hM d, goF_o hM d]
def mnF (fx ph : Nat → Int32) (i : Nat) : Int32 := if fx i = 1 then ph i else 0
