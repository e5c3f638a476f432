/-! digits on both sides -/
def nvC (c : Nat → Int) (n k : Nat) : Nat → Int
  | 0 => 0
  | i + 1 => min (nvC c n k i * 10 + chr c n (k + i) - 48) 1000
def nvM (c : Nat → Int) (n k : Nat) : Nat → Int
  | 0 => 0
  | i + 1 => if nvM c n k i ≤ 1000 then 10 * nvM c n k i + chr c n (k + i) - 48 else nvM c n k i
theorem nv_rel {c : Nat → Int} {n k : Nat} : ∀ i, (∀ j, j < i → isDg (chr c n (k + j)) = true) → (nvC c n k i = nvM c n k i ∧ 0 ≤ nvC c n k i ∧ nvC c n k i ≤ 1000) ∨ (nvC c n k i = 1000 ∧ 1000 ≤ nvM c n k i ∧ nvM c n k i ≤ 20000) := by
  intro i
  induction i with
  | zero => intro _; exact Or.inl ⟨rfl, Int.le_refl _, by show (0 : Int) ≤ 1000; omega⟩
  | succ i ih =>
    intro h
    have hd : 48 ≤ chr c n (k + i) ∧ chr c n (k + i) ≤ 57 := of_decide_eq_true (h i (by omega))
    have ih := ih (fun j hj => h j (by omega))
    rw [nvC, nvM]
    split
    · rcases ih with ⟨h1, h2, h3⟩ | ⟨h1, h2, h3⟩
      · omega
      · omega
    · rcases ih with ⟨h1, h2, h3⟩ | ⟨h1, h2, h3⟩
      · omega
      · omega
section RN
variable {tx : TxS} {text : Nat → Int32} {c : Nat → Int} {n : Nat}
theorem C_digits (h : CT tx text c n) (rd : RdS) {k e : Nat} (hk : k ≤ n) (he : rE isDg c n k e) (hen : e ≤ n) : x_loop (b_X4_takeNumber_50 tx) x_fuel (Rd_set_value (Rd_set_end_ rd (iI (k : Int))) (0 : Int32)) = some (Rd_set_value (Rd_set_end_ rd (iI (e : Int))) (iI (nvC c n k (e - k)))) := by
  have hn := h.1
  have hlen : f_X6_length tx = some (iI (n : Int)) := by unfold f_X6_length; rw [h.2.1]
  have wi : ∀ j, f_X7_isWithin (iI (chr c n j)) (48 : Int32) (57 : Int32) = some (bI (48 ≤ chr c n j ∧ chr c n j ≤ 57)) := fun j => by
    have hb := chr_b h j
    exact F_isWithin (x := chr c n j) (lo := 48) (hi := 57) (by omega) (by omega) (by omega)
  have hdig : ∀ j, j < e - k → isDg (chr c n (k + j)) = true := fun j hj => he.2.1 (k + j) (by omega) (by omega)
  have key := x_for (B := b_X4_takeNumber_50 tx) (fun i (_ : Unit) => Rd_set_value (Rd_set_end_ rd (iI ((k + i : Nat) : Int))) (iI (nvC c n k i))) (fun _ _ => True) (e - k) (fun b => b = Rd_set_value (Rd_set_end_ rd (iI (e : Int))) (iI (nvC c n k (e - k))))
    (by
      intro i _ hi _
      left
      have q := hdig i hi
      have hlt := chr_lt (p := isDg) rfl q
      have q : 48 ≤ chr c n (k + i) ∧ chr c n (k + i) ≤ 57 := of_decide_eq_true q
      have hv := nv_rel (c := c) (n := n) (k := k) i (fun j hj => hdig j (by omega))
      refine ⟨(), ?_, trivial⟩
      rw [b_X4_takeNumber_50, hlen, ob_some, gs_Rd_end__value, gs_Rd_end__end_, C_char h (k := k + i) (by omega) rfl, ob_some, wi, ob_some, if_b, if_pos q, ob_some, gs_Rd_value_value, x_nm_eq, x_nm_eq, iI_suc]
      simp (disch := omega) only [iI_le]
      rw [if_neg (by omega), iL_10, iL_48, iI_mul, iI_add, iI_sub, iL_1000, x_minI (by omega) (by omega)]
      rfl)
    (by
      intro _ _
      have e1 : k + (e - k) = e := by have := he.1; omega
      have q := he.2.2
      refine ⟨_, ?_, rfl⟩
      rw [b_X4_takeNumber_50, hlen, ob_some, gs_Rd_end__value, gs_Rd_end__end_, e1, C_char h (k := e) (by omega) rfl, ob_some, wi, ob_some, if_b]
      simp (disch := omega) only [iI_le]
      by_cases w : n ≤ e
      · rw [if_pos (by omega)]
      · have ne : ¬ (48 ≤ chr c n e ∧ chr c n e ≤ 57) := by
          unfold isDg at q
          exact of_decide_eq_false q
        rw [if_neg (by omega), if_neg ne])
    () trivial (by omega)
  obtain ⟨b, e1, rfl⟩ := key
  exact e1
theorem M_isDigit (h : CT tx text c n) {k : Nat} (hk : k ≤ 1000) {ki : Int} (e : ki = k) : f_X8_isDigit text (iI (n : Int)) (iI ki) = some (bI (48 ≤ chr c n k ∧ chr c n k ≤ 57)) := by
  have hb := chr_b h k
  unfold f_X8_isDigit
  rw [M_here h hk e, ob_some, show f_X8_in (iI (chr c n k)) (48 : Int32) (57 : Int32) = _ from M_in (x := chr c n k) (lo := 48) (hi := 57) (by omega) (by omega) (by omega), ob_some, bI_zr, ob_some]
theorem M_digits (h : CT tx text c n) {k e : Nat} (hk : k ≤ n + 1) (he : rE isDg c n k e) (hen : e ≤ n + 1) : x_loop (b_X8_readNumber_43 text (iI (n : Int))) x_fuel (iI (k : Int), (0 : Int32)) = some (iI (e : Int), iI (nvM c n k (e - k))) := by
  have hn := h.1
  have hdig : ∀ j, j < e - k → isDg (chr c n (k + j)) = true := fun j hj => he.2.1 (k + j) (by omega) (by omega)
  have key := x_for (B := b_X8_readNumber_43 text (iI (n : Int))) (fun i (_ : Unit) => (iI ((k + i : Nat) : Int), iI (nvM c n k i))) (fun _ _ => True) (e - k) (fun b => b = (iI (e : Int), iI (nvM c n k (e - k))))
    (by
      intro i _ hi _
      left
      have q : 48 ≤ chr c n (k + i) ∧ chr c n (k + i) ≤ 57 := of_decide_eq_true (hdig i hi)
      have hv := nv_rel (c := c) (n := n) (k := k) i (fun j hj => hdig j (by omega))
      refine ⟨(), ?_, trivial⟩
      rw [b_X8_readNumber_43, M_isDigit h (k := k + i) (by omega) rfl, ob_some, if_b, if_pos q, M_here h (k := k + i) (by omega) rfl, ob_some, x_nm_eq, x_nm_eq, x_nm_eq, iI_suc]
      simp (disch := omega) only [iL_1000, iI_le]
      rw [nvM]
      by_cases d : nvM c n k i ≤ 1000
      · rw [if_pos d, if_pos d, iL_10, iL_48, iI_mul, iI_add, iI_sub]
        rfl
      · rw [if_neg d, if_neg d]
        rfl)
    (by
      intro _ _
      have e1 : k + (e - k) = e := by have := he.1; omega
      have q := he.2.2
      have ne : ¬ (48 ≤ chr c n e ∧ chr c n e ≤ 57) := by
        unfold isDg at q
        exact of_decide_eq_false q
      refine ⟨_, ?_, rfl⟩
      rw [b_X8_readNumber_43, e1, M_isDigit h (k := e) (by omega) rfl, ob_some, if_b, if_neg ne])
    () trivial (by omega)
  obtain ⟨b, e1, rfl⟩ := key
  exact e1
end RN
