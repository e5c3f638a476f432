/-! blanks and letters on both sides -/
section RB
variable {tx : TxS} {text : Nat → Int32} {c : Nat → Int} {n : Nat}
theorem chr_lt {p : Int → Bool} (hp : p 0 = false) {k : Nat} (h : p (chr c n k) = true) : k < n := by
  rcases Nat.lt_or_ge k n with w | w
  · exact w
  · rw [chr_out w, hp] at h
    cases h
theorem C_blank (h : CT tx text c n) (rd : RdS) {k e : Nat} (hk : k ≤ n) (he : rE isSp c n k e) (hen : e ≤ n) : x_loop (b_X4_nextToken_8 tx) x_fuel (Rd_set_start rd (iI (k : Int))) = some (Rd_set_start rd (iI (e : Int))) := by
  have hn := h.1
  have hlen : f_X6_length tx = some (iI (n : Int)) := by unfold f_X6_length; rw [h.2.1]
  have key := x_for (B := b_X4_nextToken_8 tx) (fun i (_ : Unit) => Rd_set_start rd (iI ((k + i : Nat) : Int))) (fun _ _ => True) (e - k) (fun b => b = Rd_set_start rd (iI (e : Int)))
    (by
      intro i _ hi _
      left
      have q := he.2.1 (k + i) (by omega) (by omega)
      have hlt := chr_lt (p := isSp) rfl q
      have q : chr c n (k + i) = 32 := of_decide_eq_true q
      refine ⟨(), ?_, trivial⟩
      rw [b_X4_nextToken_8, hlen, ob_some, gs_Rd_start_start, C_char h (k := k + i) (by omega) rfl, ob_some, q]
      simp (disch := omega) only [iI_le]
      rw [if_neg (by omega), if_pos (show iI 32 = (32 : Int32) from rfl), x_nm_eq, iI_suc]
      rfl)
    (by
      intro _ _
      have e1 : k + (e - k) = e := by have := he.1; omega
      have q := he.2.2
      refine ⟨_, ?_, rfl⟩
      rw [b_X4_nextToken_8, hlen, ob_some, gs_Rd_start_start, e1, C_char h (k := e) (by omega) rfl, ob_some]
      simp (disch := omega) only [iI_le]
      by_cases w : n ≤ e
      · rw [if_pos (by omega)]
      · have hb := chr_b h e
        have ne : ¬ iI (chr c n e) = (32 : Int32) := fun z => by
          have := (iI_eq (by omega) (by omega) (by omega) (by omega)).mp (show iI (chr c n e) = iI 32 from z)
          unfold isSp at q
          exact (of_decide_eq_false q) this
        rw [if_neg (by omega), if_neg ne])
    () trivial (by omega)
  obtain ⟨b, e1, rfl⟩ := key
  exact e1
theorem M_blank (h : CT tx text c n) {k e : Nat} (hk : k ≤ n) (he : rE isSp c n k e) (hen : e ≤ n) : x_loop (b_X8_next_0 text (iI (n : Int))) x_fuel (iI (k : Int)) = some (iI (e : Int)) := by
  have hn := h.1
  have key := x_for (B := b_X8_next_0 text (iI (n : Int))) (fun i (_ : Unit) => iI ((k + i : Nat) : Int)) (fun _ _ => True) (e - k) (fun b => b = iI (e : Int))
    (by
      intro i _ hi _
      left
      have q := he.2.1 (k + i) (by omega) (by omega)
      have q : chr c n (k + i) = 32 := of_decide_eq_true q
      refine ⟨(), ?_, trivial⟩
      rw [b_X8_next_0, M_here h (k := k + i) (by omega) rfl, ob_some, q, if_pos (show iI 32 = (32 : Int32) from rfl), x_nm_eq, iI_suc]
      rfl)
    (by
      intro _ _
      have e1 : k + (e - k) = e := by have := he.1; omega
      have q := he.2.2
      have hb := chr_b h e
      have ne : ¬ iI (chr c n e) = (32 : Int32) := fun z => by
        have := (iI_eq (by omega) (by omega) (by omega) (by omega)).mp (show iI (chr c n e) = iI 32 from z)
        unfold isSp at q
        exact (of_decide_eq_false q) this
      refine ⟨_, ?_, rfl⟩
      rw [b_X8_next_0, e1, M_here h (k := e) (by omega) rfl, ob_some, if_neg ne])
    () trivial (by omega)
  obtain ⟨b, e1, rfl⟩ := key
  exact e1
theorem C_letters (h : CT tx text c n) (rd : RdS) {k e : Nat} (hk : k ≤ n) (he : rE isLt c n k e) (hen : e ≤ n) : x_loop (b_X4_takeWord_5 tx) x_fuel (Rd_set_end_ rd (iI (k : Int))) = some (Rd_set_end_ rd (iI (e : Int))) := by
  have hn := h.1
  have hlen : f_X6_length tx = some (iI (n : Int)) := by unfold f_X6_length; rw [h.2.1]
  have wi : ∀ j, j ≤ 1000 → f_X7_isWithin (iI (chr c n j)) (97 : Int32) (122 : Int32) = some (bI (97 ≤ chr c n j ∧ chr c n j ≤ 122)) := fun j _ => by
    have hb := chr_b h j
    exact F_isWithin (x := chr c n j) (lo := 97) (hi := 122) (by omega) (by omega) (by omega)
  have key := x_for (B := b_X4_takeWord_5 tx) (fun i (_ : Unit) => Rd_set_end_ rd (iI ((k + i : Nat) : Int))) (fun _ _ => True) (e - k) (fun b => b = Rd_set_end_ rd (iI (e : Int)))
    (by
      intro i _ hi _
      left
      have q := he.2.1 (k + i) (by omega) (by omega)
      have hlt := chr_lt (p := isLt) rfl q
      have q : 97 ≤ chr c n (k + i) ∧ chr c n (k + i) ≤ 122 := of_decide_eq_true q
      refine ⟨(), ?_, trivial⟩
      rw [b_X4_takeWord_5, hlen, ob_some, gs_Rd_end__end_, C_char h (k := k + i) (by omega) rfl, ob_some, wi _ (by omega), ob_some, if_b, if_pos q, x_nm_eq, iI_suc]
      simp (disch := omega) only [iI_le]
      rw [if_neg (by omega)]
      rfl)
    (by
      intro _ _
      have e1 : k + (e - k) = e := by have := he.1; omega
      have q := he.2.2
      refine ⟨_, ?_, rfl⟩
      rw [b_X4_takeWord_5, hlen, ob_some, gs_Rd_end__end_, e1, C_char h (k := e) (by omega) rfl, ob_some, wi _ (by omega), ob_some, if_b]
      simp (disch := omega) only [iI_le]
      by_cases w : n ≤ e
      · rw [if_pos (by omega)]
      · have ne : ¬ (97 ≤ chr c n e ∧ chr c n e ≤ 122) := by
          unfold isLt at q
          exact of_decide_eq_false q
        rw [if_neg (by omega), if_neg ne])
    () trivial (by omega)
  obtain ⟨b, e1, rfl⟩ := key
  exact e1
end RB
