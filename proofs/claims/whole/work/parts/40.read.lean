/-! the text as characters; runs of them -/
def chr (c : Nat → Int) (n k : Nat) : Int := if k < n then c k else 0
/-- text and length hold it, on both sides -/
def CT (tx : TxS) (text : Nat → Int32) (c : Nat → Int) (n : Nat) : Prop := n ≤ 120 ∧ Tx_len tx = iI (n : Int) ∧ (∀ k, k < n → Tx_chars tx k = iI (c k) ∧ text k = iI (c k)) ∧ ∀ k, k < n → 1 ≤ c k ∧ c k ≤ 255
theorem TR.ct {tx : TxS} {text : Nat → Int32} {len : Int32} (h : TR tx text len) : ∃ c n, CT tx text c n ∧ len = iI (n : Int) := by
  obtain ⟨n, h1, h2, h3, h4⟩ := h
  refine ⟨fun k => (text k).toInt, n, ⟨h1, h2, fun k hk => ?_, fun k hk => ?_⟩, h3⟩
  · obtain ⟨e1, x, e2, e3, e4⟩ := h4 k hk
    show Tx_chars tx k = iI ((text k).toInt) ∧ text k = iI ((text k).toInt)
    rw [e1, e2, iI_toInt (by omega) (by omega)]
    exact ⟨rfl, rfl⟩
  · obtain ⟨e1, x, e2, e3, e4⟩ := h4 k hk
    show 1 ≤ (text k).toInt ∧ (text k).toInt ≤ 255
    rw [e2, iI_toInt (by omega) (by omega)]
    exact ⟨e3, e4⟩
section CH
variable {tx : TxS} {text : Nat → Int32} {c : Nat → Int} {n : Nat}
theorem chr_b (h : CT tx text c n) (k : Nat) : 0 ≤ chr c n k ∧ chr c n k ≤ 255 := by
  unfold chr
  split
  · rename_i q
    have := h.2.2.2 k q
    omega
  · omega
theorem chr_out {k : Nat} (hk : n ≤ k) : chr c n k = 0 := if_neg (by omega)
theorem C_char (h : CT tx text c n) {k : Nat} (hk : k ≤ 1000) {ki : Int} (e : ki = k) : f_X6_characterAt tx (iI ki) = some (iI (chr c n k)) := by
  subst e
  have hn := h.1
  unfold f_X6_characterAt chr
  rw [h.2.1]
  simp (disch := omega) only [iL_120, iI_le]
  have h0 : ¬ iI (k : Int) < 0 := by
    rw [iL_0, iI_lt (by omega) (by omega) (by omega) (by omega)]
    omega
  rw [if_neg h0]
  by_cases q : k < n
  · rw [if_neg (by omega), if_neg (by omega), ob_some, if_neg (by decide), x_ldI rfl (by omega) (by omega), ob_some, if_pos q, (h.2.2.1 k q).1]
  · rw [if_pos (by omega), ob_some, if_pos rfl, if_neg q]
    rfl
theorem M_here (h : CT tx text c n) {k : Nat} (hk : k ≤ 1000) {ki : Int} (e : ki = k) : f_X8_here text (iI (n : Int)) (iI ki) = some (iI (chr c n k)) := by
  subst e
  have hn := h.1
  unfold f_X8_here chr
  simp (disch := omega) only [iI_le]
  by_cases q : k < n
  · rw [if_neg (by omega), x_ldI rfl (by omega) (by omega), ob_some, if_pos q, (h.2.2.1 k q).2]
  · rw [if_pos (by omega), if_neg q]
    rfl
end CH
/-- the end of a run of characters from k on -/
def rE (p : Int → Bool) (c : Nat → Int) (n k e : Nat) : Prop := k ≤ e ∧ (∀ j, k ≤ j → j < e → p (chr c n j) = true) ∧ p (chr c n e) = false
theorem rE_ex {p : Int → Bool} (hp : p 0 = false) (c : Nat → Int) (n k : Nat) : ∃ e, rE p c n k e ∧ (k ≤ n → e ≤ n) ∧ (n ≤ k → e = k) := by
  have key : ∀ f k, n ≤ k + f → ∃ e, rE p c n k e ∧ (k ≤ n → e ≤ n) ∧ (n ≤ k → e = k) := by
    intro f
    induction f with
    | zero =>
      intro k hk
      exact ⟨k, ⟨Nat.le_refl _, fun j h1 h2 => by omega, by rw [chr_out (by omega)]; exact hp⟩, fun q => q, fun _ => rfl⟩
    | succ f ih =>
      intro k hk
      by_cases q : p (chr c n k) = true
      · obtain ⟨e, ⟨h1, h2, h3⟩, h4, h5⟩ := ih (k + 1) (by omega)
        have hkn : k < n := by
          rcases Nat.lt_or_ge k n with w | w
          · exact w
          · rw [chr_out w, hp] at q; cases q
        refine ⟨e, ⟨by omega, fun j g1 g2 => ?_, h3⟩, fun _ => h4 (by omega), fun w => by omega⟩
        by_cases w : j = k
        · subst w; exact q
        · exact h2 j (by omega) g2
      · exact ⟨k, ⟨Nat.le_refl _, fun j h1 h2 => by omega, Bool.eq_false_iff.mpr q⟩, fun w => w, fun _ => rfl⟩
  exact key n k (by omega)
theorem rE_uniq {p : Int → Bool} {c : Nat → Int} {n k e e' : Nat} (h : rE p c n k e) (h' : rE p c n k e') : e = e' := by
  rcases Nat.lt_trichotomy e e' with q | q | q
  · have := h'.2.1 e h.1 q
    rw [h.2.2] at this
    cases this
  · exact q
  · have := h.2.1 e' h'.1 q
    rw [h'.2.2] at this
    cases this
def isSp (x : Int) : Bool := decide (x = 32)
def isLt (x : Int) : Bool := decide (97 ≤ x ∧ x ≤ 122)
def isDg (x : Int) : Bool := decide (48 ≤ x ∧ x ≤ 57)
