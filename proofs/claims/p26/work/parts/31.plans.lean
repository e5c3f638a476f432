theorem con_all {b : AL} {p : Nat} (hp : p < aN b) (h : cons b = aN b) : con b p = true := by
  unfold cons at h
  have := (sumN_all (g := fun p => if con b p = true then 1 else 0) (n := aN b) (m := 1) (fun p _ => by split <;> omega)).mp (by omega) p hp
  split at this
  · assumption
  · omega
theorem sF_cost {R : Int → Int → Bool} {c : Int} {X x y : Int} (hX : ab X ≤ c) (h : sF R c X = some (x, y)) : ab x + ab y = c := by
  have h1 := ab_b X
  unfold sF at h
  split at h
  · simp only [Option.some.injEq, Prod.mk.injEq] at h
    rw [← h.1, ← h.2]
    unfold ab at *
    repeat' split
    all_goals omega
  · split at h
    · simp only [Option.some.injEq, Prod.mk.injEq] at h
      rw [← h.1, ← h.2]
      unfold ab at *
      repeat' split
      all_goals omega
    · cases h
theorem mvO_mvO (O : Nat → Nat) (l0 l1 l2 : Nat) : mvO (mvO O l0 l1) l1 l2 = mvO O l0 l2 := by
  funext k
  unfold mvO
  repeat' split
  all_goals first | rfl | (exfalso; omega) | (congr 1; omega)
theorem mvO_same (O : Nat → Nat) (l0 : Nat) : mvO O l0 l0 = O := by
  funext k
  unfold mvO
  repeat' split
  all_goals first | rfl | (exfalso; omega) | (congr 1; omega)
theorem aMov_aMov (a : AL) (l0 l1 l2 : Nat) : aMov (aMov a l0 l1) l1 l2 = aMov a l0 l2 := by
  show (a.1, aP a, mvO (mvO (aO a) l0 l1) l1 l2) = (a.1, aP a, mvO (aO a) l0 l2)
  rw [mvO_mvO]
theorem aMov_same (a : AL) (l0 : Nat) : aMov a l0 l0 = a := by
  show (a.1, aP a, mvO (aO a) l0 l0) = a
  rw [mvO_same]
  rfl
theorem aMov_at (a : AL) (l0 l1 : Nat) : aO (aMov a l0 l1) l1 = aO a l0 := if_pos rfl
