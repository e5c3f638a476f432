/-! letters in the reference; which words -/
theorem wh_b {c : Nat → Int} {n k : Nat} : ∀ i, (∀ j, j < i → isLt (chr c n (k + j)) = true) → 0 ≤ wh c n k i ∧ wh c n k i ≤ 3000000000 ∧ (0 < i → 0 < wh c n k i) := by
  intro i
  induction i with
  | zero => intro _; show (0 : Int) ≤ 0 ∧ (0 : Int) ≤ 3000000000 ∧ (0 < 0 → (0 : Int) < 0); omega
  | succ i ih =>
    intro h
    have hd : 97 ≤ chr c n (k + i) ∧ chr c n (k + i) ≤ 122 := of_decide_eq_true (h i (by omega))
    have ih := ih (fun j hj => h j (by omega))
    rw [wh]
    split <;> omega
theorem wh_peel {c : Nat → Int} {n k : Nat} {T : Int} (hT : 0 < T ∧ T ≤ 100000000) (hr : T % 27 ≠ 0) {i : Nat} (h : ∀ j, j < i → isLt (chr c n (k + j)) = true) : wh c n k i = T ↔ ∃ j, i = j + 1 ∧ wh c n k j = T / 27 ∧ chr c n (k + j) = 96 + T % 27 := by
  cases i with
  | zero =>
    constructor
    · intro q
      have q : (0 : Int) = T := q
      omega
    · rintro ⟨j, q, -⟩
      omega
  | succ i =>
    have hd : 97 ≤ chr c n (k + i) ∧ chr c n (k + i) ≤ 122 := of_decide_eq_true (h i (by omega))
    have hb := wh_b (c := c) (n := n) (k := k) i (fun j hj => h j (by omega))
    rw [wh]
    constructor
    · intro q
      refine ⟨i, rfl, ?_⟩
      split at q <;> omega
    · rintro ⟨j, q1, q2, q3⟩
      have : i = j := by omega
      subst this
      split <;> omega
theorem wh_zero {c : Nat → Int} {n k : Nat} {i : Nat} (h : ∀ j, j < i → isLt (chr c n (k + j)) = true) : wh c n k i = 0 ↔ i = 0 := by
  have hb := wh_b (c := c) (n := n) (k := k) i h
  constructor
  · intro q
    rcases Nat.eq_zero_or_pos i with w | w
    · exact w
    · have := hb.2.2 w
      omega
  · rintro rfl
    rfl
theorem wh_page {c : Nat → Int} {n k i : Nat} (h : ∀ j, j < i → isLt (chr c n (k + j)) = true) : wh c n k i = 315851 ↔ i = 4 ∧ chr c n k = 112 ∧ chr c n (k + 1) = 97 ∧ chr c n (k + 2) = 103 ∧ chr c n (k + 3) = 101 := by
  constructor
  · intro q
    obtain ⟨a, rfl, q, r1⟩ := (wh_peel (by omega) (by omega) h).mp q
    obtain ⟨b, rfl, q, r2⟩ := (wh_peel (T := 315851 / 27) (by omega) (by omega) (fun j hj => h j (by omega))).mp q
    obtain ⟨d, rfl, q, r3⟩ := (wh_peel (T := 315851 / 27 / 27) (by omega) (by omega) (fun j hj => h j (by omega))).mp q
    obtain ⟨e, rfl, q, r4⟩ := (wh_peel (T := 315851 / 27 / 27 / 27) (by omega) (by omega) (fun j hj => h j (by omega))).mp q
    have he : e = 0 := (wh_zero (fun j hj => h j (by omega))).mp q
    subst he
    simp only [Nat.add_zero, Nat.zero_add] at *
    exact ⟨rfl, by omega, by omega, by omega, by omega⟩
  · rintro ⟨rfl, q1, q2, q3, q4⟩
    have e0 : wh c n k 0 = 0 := rfl
    have e1 : wh c n k 1 = 16 := by rw [wh, e0, if_pos (by omega), Nat.add_zero, q1]; rfl
    have e2 : wh c n k 2 = 433 := by rw [wh, e1, if_pos (by omega), q2]; rfl
    have e3 : wh c n k 3 = 11698 := by rw [wh, e2, if_pos (by omega), q3]; rfl
    rw [wh, e3, if_pos (by omega), q4]
    rfl
