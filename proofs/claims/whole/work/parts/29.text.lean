/-! the text on both sides -/
def TR (tx : TxS) (text : Nat → Int32) (len : Int32) : Prop := ∃ n : Nat, n ≤ 120 ∧ Tx_len tx = iI (n : Int) ∧ len = iI (n : Int) ∧ ∀ k, k < n → Tx_chars tx k = text k ∧ ∃ c : Int, text k = iI c ∧ 1 ≤ c ∧ c ≤ 255
theorem q_append {tx : TxS} {text : Nat → Int32} {len : Int32} (h : TR tx text len) (p0 : Int32) : ∃ v tx' text' len', f_X7_append tx p0 = some (v, tx') ∧ f_X8_append text len p0 = some (v, text', len') ∧ TR tx' text' len' := by
  have h' := h
  obtain ⟨n, hn, h1, rfl, h2⟩ := h
  obtain ⟨x, hx1, hx2, rfl⟩ := iI_of p0
  unfold f_X7_append f_X8_append
  rw [show f_X7_isWithin (iI x) (1 : Int32) (255 : Int32) = _ from F_isWithin (x := x) (lo := 1) (hi := 255) ⟨hx1, hx2⟩ (by omega) (by omega), show f_X8_in (iI x) (1 : Int32) (255 : Int32) = _ from M_in (x := x) (lo := 1) (hi := 255) ⟨hx1, hx2⟩ (by omega) (by omega), ob_some, ob_some, if_b, if_b]
  by_cases hx : 1 ≤ x ∧ x ≤ 255
  · rw [if_pos hx, if_pos hx]
    have ef : f_X6_isFull tx = some (bI (n = 120)) := by
      unfold f_X6_isFull bI
      rw [h1]
      simp (disch := omega) only [iL_120, iL_1, iL_0, iI_lt, iI_le]
      repeat' split
      all_goals first | rfl | (exfalso; omega)
    rw [ef, ob_some, if_b]
    by_cases c : n = 120
    · have c' : iI (n : Int) = (120 : Int32) := by rw [c]; rfl
      rw [if_pos c, if_pos c']
      exact ⟨_, _, _, _, rfl, rfl, h'⟩
    · have c' : ¬ iI (n : Int) = (120 : Int32) := fun q => c (by have := (iI_eq (by omega) (by omega) (by omega) (by omega)).mp (show iI (n : Int) = iI 120 from q); omega)
      have ea : f_X6_add tx (iI x) = some (Tx_set_len (Tx_set_chars tx (upd (Tx_chars tx) n (iI x))) (iI ((n + 1 : Nat) : Int))) := by
        unfold f_X6_add
        rw [h1, F_put _ rfl (by omega) (by omega), ob_some]
        rw [x_nm_eq, iI_suc]
      rw [if_neg c, if_neg c', ea, ob_some, x_stI rfl (by omega) (by omega), ob_some, x_nm_eq, iI_suc]
      unfold f_X6_length
      rw [ob_some]
      refine ⟨_, _, _, _, rfl, rfl, n + 1, by omega, rfl, rfl, fun k hk => ?_⟩
      show upd (Tx_chars tx) n (iI x) k = upd text n (iI x) k ∧ ∃ c : Int, upd text n (iI x) k = iI c ∧ 1 ≤ c ∧ c ≤ 255
      by_cases e : k = n
      · subst e
        rw [upd_same, upd_same]
        exact ⟨rfl, x, rfl, hx⟩
      · rw [upd_ne _ _ e, upd_ne _ _ e]
        exact h2 k (by omega)
  · rw [if_neg hx, if_neg hx]
    exact ⟨_, _, _, _, rfl, rfl, h'⟩
theorem q_clearText {tx : TxS} {text : Nat → Int32} {len : Int32} (h : TR tx text len) : ∃ v tx' len', f_X7_clearText tx = some (v, tx') ∧ f_X8_clearText len = some (v, len') ∧ TR tx' text len' := by
  obtain ⟨n, hn, h1, rfl, h2⟩ := h
  unfold f_X7_clearText f_X8_clearText f_X6_length f_X6_clear
  rw [ob_some, ob_some, h1]
  exact ⟨_, _, _, rfl, rfl, 0, by omega, rfl, rfl, fun k hk => by omega⟩
