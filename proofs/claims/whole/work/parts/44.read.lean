/-! letters in the reference; which words -/
theorem wh_b {c : Nat → Int} {n k : Nat} : ∀ i, (∀ j, j < i → isLt (chr c n (k + j)) = true) → 0 ≤ wh c n k i ∧ wh c n k i ≤ 3000000000 ∧ (0 < i → 0 < wh c n k i) := by
  intro i
  induction i with
  | zero => intro _; show (0 : Int) ≤ 0 ∧ (0 : Int) ≤ 3000000000 ∧ (0 < 0 → (0 : Int) < 0); omega
  | succ i ih =>
    intro h
    have hd : 97 ≤ chr c n (k + i) ∧ chr c n (k + i) ≤ 122 := of_decide_eq_true (h i (by omega))
    have ih := ih (fun j hj => h j (by omega))
    rw [wh]
    split <;> omega
theorem wh_peel {c : Nat → Int} {n k : Nat} {T : Int} (hT : 0 < T ∧ T ≤ 100000000) (hr : T % 27 ≠ 0) {i : Nat} (h : ∀ j, j < i → isLt (chr c n (k + j)) = true) : wh c n k i = T ↔ ∃ j, i = j + 1 ∧ wh c n k j = T / 27 ∧ chr c n (k + j) = 96 + T % 27 := by
  cases i with
  | zero =>
    constructor
    · intro q
      have q : (0 : Int) = T := q
      omega
    · rintro ⟨j, q, -⟩
      omega
  | succ i =>
    have hd : 97 ≤ chr c n (k + i) ∧ chr c n (k + i) ≤ 122 := of_decide_eq_true (h i (by omega))
    have hb := wh_b (c := c) (n := n) (k := k) i (fun j hj => h j (by omega))
    rw [wh]
    constructor
    · intro q
      refine ⟨i, rfl, ?_⟩
      split at q <;> omega
    · rintro ⟨j, q1, q2, q3⟩
      have : i = j := by omega
      subst this
      split <;> omega
theorem wh_zero {c : Nat → Int} {n k : Nat} {i : Nat} (h : ∀ j, j < i → isLt (chr c n (k + j)) = true) : wh c n k i = 0 ↔ i = 0 := by
  have hb := wh_b (c := c) (n := n) (k := k) i h
  constructor
  · intro q
    rcases Nat.eq_zero_or_pos i with w | w
    · exact w
    · have := hb.2.2 w
      omega
  · rintro rfl
    rfl
theorem wh_page {c : Nat → Int} {n k i : Nat} (h : ∀ j, j < i → isLt (chr c n (k + j)) = true) : wh c n k i = 315851 ↔ i = 4 ∧ chr c n k = 112 ∧ chr c n (k + 1) = 97 ∧ chr c n (k + 2) = 103 ∧ chr c n (k + 3) = 101 := by
  constructor
  · intro q
    obtain ⟨a, rfl, q, r1⟩ := (wh_peel (by omega) (by omega) h).mp q
    obtain ⟨b, rfl, q, r2⟩ := (wh_peel (T := 315851 / 27) (by omega) (by omega) (fun j hj => h j (by omega))).mp q
    obtain ⟨d, rfl, q, r3⟩ := (wh_peel (T := 315851 / 27 / 27) (by omega) (by omega) (fun j hj => h j (by omega))).mp q
    obtain ⟨e, rfl, q, r4⟩ := (wh_peel (T := 315851 / 27 / 27 / 27) (by omega) (by omega) (fun j hj => h j (by omega))).mp q
    have he : e = 0 := (wh_zero (fun j hj => h j (by omega))).mp q
    subst he
    exact ⟨rfl, r4.trans (by decide), r3.trans (by decide), r2.trans (by decide), r1.trans (by decide)⟩
  · rintro ⟨rfl, q1, q2, q3, q4⟩
    have e0 : wh c n k 0 = 0 := rfl
    have e1 : wh c n k 1 = 16 := by rw [wh, e0, if_pos (by omega), Nat.add_zero, q1]; rfl
    have e2 : wh c n k 2 = 433 := by rw [wh, e1, if_pos (by omega), q2]; rfl
    have e3 : wh c n k 3 = 11698 := by rw [wh, e2, if_pos (by omega), q3]; rfl
    rw [wh, e3, if_pos (by omega), q4]
    rfl
theorem wh_piece {c : Nat → Int} {n k i : Nat} (h : ∀ j, j < i → isLt (chr c n (k + j)) = true) : wh c n k i = 8683934 ↔ i = 5 ∧ chr c n k = 112 ∧ chr c n (k + 1) = 105 ∧ chr c n (k + 2) = 101 ∧ chr c n (k + 3) = 99 ∧ chr c n (k + 4) = 101 := by
  constructor
  · intro q
    obtain ⟨a, rfl, q, r1⟩ := (wh_peel (by omega) (by omega) h).mp q
    obtain ⟨b, rfl, q, r2⟩ := (wh_peel (T := 8683934 / 27) (by omega) (by omega) (fun j hj => h j (by omega))).mp q
    obtain ⟨d, rfl, q, r3⟩ := (wh_peel (T := 8683934 / 27 / 27) (by omega) (by omega) (fun j hj => h j (by omega))).mp q
    obtain ⟨e, rfl, q, r4⟩ := (wh_peel (T := 8683934 / 27 / 27 / 27) (by omega) (by omega) (fun j hj => h j (by omega))).mp q
    obtain ⟨f, rfl, q, r5⟩ := (wh_peel (T := 8683934 / 27 / 27 / 27 / 27) (by omega) (by omega) (fun j hj => h j (by omega))).mp q
    have he : f = 0 := (wh_zero (fun j hj => h j (by omega))).mp q
    subst he
    exact ⟨rfl, r5.trans (by decide), r4.trans (by decide), r3.trans (by decide), r2.trans (by decide), r1.trans (by decide)⟩
  · rintro ⟨rfl, q1, q2, q3, q4, q5⟩
    have e0 : wh c n k 0 = 0 := rfl
    have e1 : wh c n k 1 = 16 := by rw [wh, e0, if_pos (by omega), Nat.add_zero, q1]; rfl
    have e2 : wh c n k 2 = 441 := by rw [wh, e1, if_pos (by omega), q2]; rfl
    have e3 : wh c n k 3 = 11912 := by rw [wh, e2, if_pos (by omega), q3]; rfl
    have e4 : wh c n k 4 = 321627 := by rw [wh, e3, if_pos (by omega), q4]; rfl
    rw [wh, e4, if_pos (by omega), q5]
    rfl
theorem wh_frame {c : Nat → Int} {n k i : Nat} (h : ∀ j, j < i → isLt (chr c n (k + j)) = true) : wh c n k i = 3544025 ↔ i = 5 ∧ chr c n k = 102 ∧ chr c n (k + 1) = 114 ∧ chr c n (k + 2) = 97 ∧ chr c n (k + 3) = 109 ∧ chr c n (k + 4) = 101 := by
  constructor
  · intro q
    obtain ⟨a, rfl, q, r1⟩ := (wh_peel (by omega) (by omega) h).mp q
    obtain ⟨b, rfl, q, r2⟩ := (wh_peel (T := 3544025 / 27) (by omega) (by omega) (fun j hj => h j (by omega))).mp q
    obtain ⟨d, rfl, q, r3⟩ := (wh_peel (T := 3544025 / 27 / 27) (by omega) (by omega) (fun j hj => h j (by omega))).mp q
    obtain ⟨e, rfl, q, r4⟩ := (wh_peel (T := 3544025 / 27 / 27 / 27) (by omega) (by omega) (fun j hj => h j (by omega))).mp q
    obtain ⟨f, rfl, q, r5⟩ := (wh_peel (T := 3544025 / 27 / 27 / 27 / 27) (by omega) (by omega) (fun j hj => h j (by omega))).mp q
    have he : f = 0 := (wh_zero (fun j hj => h j (by omega))).mp q
    subst he
    exact ⟨rfl, r5.trans (by decide), r4.trans (by decide), r3.trans (by decide), r2.trans (by decide), r1.trans (by decide)⟩
  · rintro ⟨rfl, q1, q2, q3, q4, q5⟩
    have e0 : wh c n k 0 = 0 := rfl
    have e1 : wh c n k 1 = 6 := by rw [wh, e0, if_pos (by omega), Nat.add_zero, q1]; rfl
    have e2 : wh c n k 2 = 180 := by rw [wh, e1, if_pos (by omega), q2]; rfl
    have e3 : wh c n k 3 = 4861 := by rw [wh, e2, if_pos (by omega), q3]; rfl
    have e4 : wh c n k 4 = 131260 := by rw [wh, e3, if_pos (by omega), q4]; rfl
    rw [wh, e4, if_pos (by omega), q5]
    rfl
section RW
variable {tx : TxS} {text : Nat → Int32} {c : Nat → Int} {n : Nat}
theorem M_letters (h : CT tx text c n) {k e : Nat} (hk : k ≤ n) (he : rE isLt c n k e) (hen : e ≤ n) : x_loop (b_X8_readWord_2 text (iI (n : Int))) x_fuel ((0 : Int64), iI (k : Int)) = some (jL (wh c n k (e - k)), iI (e : Int)) := by
  have hn := h.1
  have wi : ∀ j, f_X8_in (iI (chr c n j)) (97 : Int32) (122 : Int32) = some (bI (97 ≤ chr c n j ∧ chr c n j ≤ 122)) := fun j => by
    have hb := chr_b h j
    exact M_in (x := chr c n j) (lo := 97) (hi := 122) (by omega) (by omega) (by omega)
  have hlet : ∀ j, j < e - k → isLt (chr c n (k + j)) = true := fun j hj => he.2.1 (k + j) (by omega) (by omega)
  have key := x_for (B := b_X8_readWord_2 text (iI (n : Int))) (fun i (_ : Unit) => (jL (wh c n k i), iI ((k + i : Nat) : Int))) (fun _ _ => True) (e - k) (fun b => b = (jL (wh c n k (e - k)), iI (e : Int)))
    (by
      intro i _ hi _
      left
      have q : 97 ≤ chr c n (k + i) ∧ chr c n (k + i) ≤ 122 := of_decide_eq_true (hlet i hi)
      have hv := wh_b (c := c) (n := n) (k := k) i (fun j hj => hlet j (by omega))
      refine ⟨(), ?_, trivial⟩
      have hcmp : (lg_cmp (jL (wh c n k i)) (100000000 : Int64) ≤ 0) ↔ wh c n k i ≤ 100000000 := by
        rw [lg_cmp_le]
        exact jL_le (b := 100000000) (by omega) (by omega)
      rw [b_X8_readWord_2, M_here h (k := k + i) (by omega) rfl, ob_some, wi, ob_some, if_b, if_pos q, ob_some, x_nm_eq, x_nm_eq, x_nm_eq, iI_suc, jL_of (by omega), jL_step, wh]
      simp only [hcmp]
      by_cases d : wh c n k i ≤ 100000000
      · rw [if_pos d, if_pos d]
        rfl
      · rw [if_neg d, if_neg d]
        rfl)
    (by
      intro _ _
      have e1 : k + (e - k) = e := by have := he.1; omega
      have q := he.2.2
      have ne : ¬ (97 ≤ chr c n e ∧ chr c n e ≤ 122) := by
        unfold isLt at q
        exact of_decide_eq_false q
      refine ⟨_, ?_, rfl⟩
      rw [b_X8_readWord_2, e1, M_here h (k := e) (by omega) rfl, ob_some, wi, ob_some, if_b, if_neg ne])
    () trivial (by omega)
  obtain ⟨b, e1, rfl⟩ := key
  exact e1
end RW
