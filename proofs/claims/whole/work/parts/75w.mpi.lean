/-- an object's fields, one by one -/
def mpi (ad : Nat → Nat) (f : Nat → Int32) : Nat → List (Option Nat) → List Value
  | _, [] => []
  | j, none :: t => Value.int (f j) :: mpi ad f (j + 1) t
  | j, some q :: t => Value.ref (ad q) :: mpi ad f (j + 1) t
theorem mpi_go (ad : Nat → Nat) (f : Nat → Int32) : ∀ (l : List (Option Nat)) (k : Nat), l.mapIdx (fun j r => match r with | some q => Value.ref (ad q) | none => Value.int (f (j + k))) = mpi ad f k l
  | [], _ => rfl
  | none :: t, k => by
    rw [List.mapIdx_cons]
    show Value.int (f (0 + k)) :: _ = Value.int (f k) :: _
    rw [Nat.zero_add, ← mpi_go ad f t (k + 1)]
    congr 1
    congr 1
    funext j r
    cases r with
    | none => show Value.int (f (j + 1 + k)) = Value.int (f (j + (k + 1))); rw [show j + 1 + k = j + (k + 1) by omega]
    | some q => rfl
  | some q :: t, k => by
    rw [List.mapIdx_cons]
    show Value.ref (ad q) :: _ = Value.ref (ad q) :: _
    rw [← mpi_go ad f t (k + 1)]
    congr 1
    congr 1
    funext j r
    cases r with
    | none => show Value.int (f (j + 1 + k)) = Value.int (f (j + (k + 1))); rw [show j + 1 + k = j + (k + 1) by omega]
    | some q => rfl
theorem ce_obj {ad : Nat → Nat} {cA : ClassId} {n : Nat} {l : List (Option Nat)} {f : Nat → Int32} : ce ad cA (.inr (n, l)) f = .inr (n, mpi ad f 0 l) := by
  rw [← mpi_go]
  rfl
theorem ce_objE {ad ad' : Nat → Nat} {cA : ClassId} {n : Nat} {l l' : List (Option Nat)} {f f' : Nat → Int32} (e : mpi ad f 0 l = mpi ad' f' 0 l') : ce ad cA (.inr (n, l)) f = ce ad' cA (.inr (n, l')) f' := by rw [ce_obj, ce_obj, e]
/-- a cell that is told field by field -/
theorem ce_at {ad : Nat → Nat} {cA : ClassId} {n a : Nat} {l : List (Option Nat)} {f : Nat → Int32} {vs : List Value} (e : vs = mpi ad f 0 l) : some ((a, .inr (n, vs)) : Nat × va_E) = some (a, ce ad cA (.inr (n, l)) f) := by rw [ce_obj, e]
theorem ce_at2 {ad ad' : Nat → Nat} {cA : ClassId} {n a : Nat} {l l' : List (Option Nat)} {f f' : Nat → Int32} (e : mpi ad f 0 l = mpi ad' f' 0 l') : some ((a, ce ad cA (.inr (n, l)) f) : Nat × va_E) = some (a, ce ad' cA (.inr (n, l')) f') := by rw [ce_objE e]
