/-! what covers a cell; what is seen in it -/
def cov (a : AL) (p : Nat) (x y : Int) : Bool := decide (aP a p 0 ≤ x ∧ x < aP a p 0 + aP a p 2) && decide (aP a p 1 ≤ y ∧ y < aP a p 1 + aP a p 3)
theorem cov_iff {a : AL} {p : Nat} {x y : Int} : cov a p x y = true ↔ (aP a p 0 ≤ x ∧ x < aP a p 0 + aP a p 2) ∧ aP a p 1 ≤ y ∧ y < aP a p 1 + aP a p 3 := by
  unfold cov
  simp
/-- what is seen in a cell of the pieces in the lowest L layers but w: -1 the page -/
def tW (a : AL) (w : Int) (x y : Int) : Nat → Int
  | 0 => -1
  | l + 1 => if cov a (aO a l) x y = true ∧ (aO a l : Int) ≠ w then (aO a l : Int) else tW a w x y l
def top (a : AL) (x y : Int) : Int := tW a (-109) x y (aN a)
theorem tW_range (a : AL) (w x y : Int) (L : Nat) : tW a w x y L = -1 ∨ ∃ l, l < L ∧ tW a w x y L = (aO a l : Int) ∧ cov a (aO a l) x y = true ∧ (aO a l : Int) ≠ w ∧ ∀ l', l < l' → l' < L → ¬ (cov a (aO a l') x y = true ∧ (aO a l' : Int) ≠ w) := by
  induction L with
  | zero => exact Or.inl rfl
  | succ L ih =>
    rw [tW]
    split
    · rename_i h
      exact Or.inr ⟨L, by omega, rfl, h.1, h.2, fun l' h1 h2 => by omega⟩
    · rename_i h
      rcases ih with ih | ⟨l, h1, h2, h3, h4, h5⟩
      · exact Or.inl ih
      · refine Or.inr ⟨l, by omega, h2, h3, h4, fun l' h6 h7 => ?_⟩
        by_cases e : l' = L
        · subst e; exact h
        · exact h5 l' h6 (by omega)
theorem tW_none {a : AL} {w x y : Int} {L : Nat} (h : ∀ l, l < L → ¬ (cov a (aO a l) x y = true ∧ (aO a l : Int) ≠ w)) : tW a w x y L = -1 := by
  induction L with
  | zero => rfl
  | succ L ih =>
    rw [tW, if_neg (h L (by omega))]
    exact ih (fun l hl => h l (by omega))
/-- the uppermost one -/
theorem tW_top {a : AL} {w x y : Int} {L l : Nat} (hl : l < L) (hc : cov a (aO a l) x y = true ∧ (aO a l : Int) ≠ w) (h : ∀ l', l < l' → l' < L → ¬ (cov a (aO a l') x y = true ∧ (aO a l' : Int) ≠ w)) : tW a w x y L = (aO a l : Int) := by
  induction L with
  | zero => omega
  | succ L ih =>
    rw [tW]
    by_cases e : l = L
    · subst e; rw [if_pos hc]
    · rw [if_neg (h L (by omega) (by omega))]
      exact ih (by omega) (fun l' h1 h2 => h l' h1 (by omega))
theorem top_cov {a : AL} {x y : Int} {p : Nat} (h : top a x y = (p : Int)) : cov a p x y = true := by
  unfold top at h
  rcases tW_range a (-109) x y (aN a) with e | ⟨l, h1, h2, h3, h4, h5⟩
  · omega
  · have : aO a l = p := by omega
    rw [← this]; exact h3
theorem top_lt {a : AL} (ha : AOK a) {x y : Int} {p : Nat} (h : top a x y = (p : Int)) : p < aN a := by
  unfold top at h
  rcases tW_range a (-109) x y (aN a) with e | ⟨l, h1, h2, h3, h4, h5⟩
  · omega
  · have := ha.o h1; omega
theorem top_ge (a : AL) (x y : Int) : -1 ≤ top a x y := by
  unfold top
  rcases tW_range a (-109) x y (aN a) with e | ⟨l, h1, h2, h3, h4, h5⟩ <;> omega
/-- a page's cell -/
def inP (a : AL) (x y : Int) : Bool := decide (0 ≤ x ∧ x < aC a) && decide (0 ≤ y ∧ y < aR a)
theorem inP_iff {a : AL} {x y : Int} : inP a x y = true ↔ (0 ≤ x ∧ x < aC a) ∧ 0 ≤ y ∧ y < aR a := by
  unfold inP
  simp
/-- the row y of the cells in which q is seen -/
def rowB (a : AL) (q y : Int) : Nat → Bool := fun i => inP a i y && decide (top a i y = q)
/-- the number of cells in which q is seen -/
def cnt (a : AL) (q : Int) : Nat := sumN (fun y => sumN (fun x => if top a x y = q then 1 else 0) (aC a)) (aR a)
theorem cnt_le {a : AL} (ha : AOK a) (q : Int) : cnt a q ≤ 576 := by
  have hb := ha.b
  have h1 : cnt a q ≤ aR a * aC a := by
    refine sumN_le (fun y _ => ?_)
    have := sumN_le (g := fun x : Nat => if top a x y = q then 1 else 0) (n := aC a) (m := 1) (fun i _ => by split <;> omega)
    omega
  have : aR a * aC a ≤ 24 * 24 := Nat.mul_le_mul (by omega) (by omega)
  omega
/-- a row's cells as a sum over 24 columns -/
theorem row_sum {a : AL} (ha : AOK a) (g : Nat → Bool) : sumN (fun i => if (decide (i < aC a) && g i) = true then 1 else 0) 24 = sumN (fun i => if g i = true then 1 else 0) (aC a) := by
  have hb := ha.b
  have key : ∀ k, sumN (fun i => if (decide (i < aC a) && g i) = true then 1 else 0) (aC a + k) = sumN (fun i => if g i = true then 1 else 0) (aC a) := by
    intro k
    induction k with
    | zero => exact sumN_congr (fun i hi => by have hi : i < aC a := hi; simp [hi])
    | succ k ih =>
      have e : ¬ (aC a + k < aC a) := by omega
      have e2 : ¬ (decide (aC a + k < aC a) && g (aC a + k)) = true := by simp [e]
      rw [← Nat.add_assoc, sumN, ih, if_neg e2]
      rfl
  have := key (24 - aC a)
  rwa [show aC a + (24 - aC a) = 24 by omega] at this
theorem inP_nat {a : AL} {x y : Nat} : inP a x y = (decide (x < aC a) && decide (y < aR a)) := by
  unfold inP
  congr 1
  · rw [decide_eq_decide]; omega
  · rw [decide_eq_decide]; omega
theorem rowB_sum {a : AL} (ha : AOK a) (q : Int) {y : Nat} (hy : y < aR a) : sumN (fun i => if rowB a q y i = true then 1 else 0) 24 = sumN (fun x => if top a x y = q then 1 else 0) (aC a) := by
  have e1 : ∀ i : Nat, rowB a q y i = (decide (i < aC a) && decide (top a i y = q)) := fun i => by
    unfold rowB
    rw [inP_nat]
    simp [hy]
  rw [sumN_congr (fun i _ => by rw [e1 i])]
  refine (row_sum ha (fun i => decide (top a i y = q))).trans ?_
  exact sumN_congr (fun i _ => by simp)
theorem rowB_out {a : AL} {q y : Int} (hy : y < 0 ∨ aR a ≤ y) (i : Nat) : rowB a q y i = false := by
  unfold rowB inP
  have : ¬ (0 ≤ y ∧ y < aR a) := by omega
  simp [this]
theorem L_span {s : LyS} {a : AL} (h : LOK s a) (hc : aC a ≤ 24) {x w : Int} (hx : -1000 ≤ x ∧ x ≤ 1000) (hw : 0 ≤ w ∧ w ≤ 1000) : f_X1_span s (iI x) (iI w) = some (msk (fun i => decide (x ≤ (i : Int) ∧ (i : Int) < x + w ∧ i < aC a))) := by
  unfold f_X1_span
  rw [h.c]
  simp (disch := omega) only [iL_0, iI_add, iI_le]
  obtain ⟨F, hF⟩ : ∃ F : Nat, F = x.toNat := ⟨_, rfl⟩
  have e1 : (if x ≤ 0 then some (iI 0) else some (iI x)) = some (iI (F : Int)) := by
    split
    · congr 2; omega
    · congr 2; omega
  rw [e1, ob_some]
  by_cases hT : x + w ≤ 0
  · have e2 : (if (aC a : Int) ≤ x + w then some (iI (aC a : Int)) else some (iI (x + w))) = some (iI (min (aC a : Int) (x + w))) := by
      split
      · congr 2; omega
      · congr 2; omega
    rw [e2, ob_some]
    simp (disch := omega) only [iI_le]
    rw [if_pos (by omega), msk_none (fun i hi => by simp; omega)]
    rfl
  · obtain ⟨T, hT2⟩ : ∃ T : Nat, (T : Int) = min (aC a : Int) (x + w) := ⟨(min (aC a : Int) (x + w)).toNat, by omega⟩
    have e2 : (if (aC a : Int) ≤ x + w then some (iI (aC a : Int)) else some (iI (x + w))) = some (iI (T : Int)) := by
      split
      · congr 2; omega
      · congr 2; omega
    rw [e2, ob_some]
    simp (disch := omega) only [iI_le]
    by_cases hTF : (T : Int) ≤ F
    · rw [if_pos hTF, msk_none (fun i hi => by simp; omega)]
      rfl
    · rw [if_neg hTF, ← nI_iI, ← nI_iI, msk_span (by omega) (by omega)]
      congr 1
      refine msk_congr (fun i hi => ?_)
      rw [← Bool.decide_and, decide_eq_decide]
      omega
theorem L_coverRow {s : LyS} {a : AL} (h : LOK s a) (ha : AOK a) {p : Nat} (hp : p < aN a) {y : Int} (hy : -1000 ≤ y ∧ y ≤ 1000) : f_X1_coverRow s (iI (p : Int)) (iI y) = some (msk (fun i => inP a i y && cov a p i y)) := by
  have hb := ha.b
  have hv := ha.p hp
  unfold f_X1_coverRow
  rw [iL_0, iL_1, iL_2, iL_3, L_get0 h (by omega) hp, L_get1 h (by omega) hp, L_get2 h (by omega) hp, L_get3 h (by omega) hp, L_hasRow h (by omega) (by omega)]
  simp (disch := omega) only [x_nm_eq, ob_some, iI_sub, bI_0, iI_lt, iI_le]
  by_cases hin : (0 ≤ y ∧ y < aR a) ∧ 0 ≤ y - aP a p 1 ∧ y - aP a p 1 < aP a p 3
  · rw [if_neg (by omega), if_neg (by omega), if_neg (by omega), ob_some, if_neg (by decide), L_span h (by omega) (by omega) (by omega), ob_some]
    congr 1
    refine msk_congr (fun i hi => ?_)
    unfold inP cov
    rw [← Bool.decide_and, ← Bool.decide_and, ← Bool.decide_and, decide_eq_decide]
    omega
  · have e : (if ¬ (0 ≤ y ∧ y < aR a) then some (iI 0) else if y - aP a p 1 < 0 then some (iI 0) else if aP a p 3 ≤ y - aP a p 1 then some (iI 0) else some (iI 1)) = some (iI 0) := by
      repeat' split
      all_goals first | rfl | (exfalso; omega)
    rw [e, ob_some, if_pos rfl, msk_none (fun i hi => ?_)]
    · rfl
    · unfold inP cov
      rw [← Bool.decide_and, ← Bool.decide_and, ← Bool.decide_and, decide_eq_false_iff_not]
      omega
theorem L_area {s : LyS} {a : AL} (h : LOK s a) (ha : AOK a) {p : Nat} (hp : p < aN a) : f_X1_area s (iI (p : Int)) = some (iI (aP a p 2 * aP a p 3)) := by
  have hb := ha.b
  unfold f_X1_area
  rw [iL_2, iL_3, L_get2 h (by omega) hp, L_get3 h (by omega) hp, ob_some, ob_some, iI_mul]
/-- the pieces that cover a cell, from the uppermost one -/
def cvI (a : AL) (x y : Int) : Nat → Int → Int
  | 0, _ => -109
  | l + 1, k => if cov a (aO a l) x y = true then (if k = 0 then (aO a l : Int) else cvI a x y l (k - 1)) else cvI a x y l k
theorem cvI_top (a : AL) (x y : Int) (L : Nat) : cvI a x y L 0 = if tW a (-109) x y L = -1 then -109 else tW a (-109) x y L := by
  induction L with
  | zero => rfl
  | succ L ih =>
    rw [cvI, tW]
    by_cases h : cov a (aO a L) x y = true
    · have e : (if cov a (aO a L) x y = true ∧ (aO a L : Int) ≠ -109 then (aO a L : Int) else tW a (-109) x y L) = (aO a L : Int) := if_pos ⟨h, by omega⟩
      rw [if_pos h, if_pos rfl, e, if_neg (by omega)]
    · have e : (if cov a (aO a L) x y = true ∧ (aO a L : Int) ≠ -109 then (aO a L : Int) else tW a (-109) x y L) = tW a (-109) x y L := if_neg (fun q => h q.1)
      rw [if_neg h, e, ih]
theorem L_coveringPiece {s : LyS} {a : AL} (h : LOK s a) (ha : AOK a) {x y : Nat} (hx : x < aC a) (hy : y < aR a) {k : Int} (hk : 0 ≤ k ∧ k < 2147483648) : f_X1_coveringPiece s (iI (x : Int)) (iI (y : Int)) (iI k) = some (iI (cvI a x y (aN a) k)) := by
  have hb := ha.b
  have key := x_for (B := b_X1_coveringPiece_11 s (iI (x : Int)) (iI (y : Int))) (fun i (j : Int) => (iI j, iI ((aN a : Int) - 1 - i))) (fun i j => 0 ≤ j ∧ j < 2147483648 ∧ cvI a x y (aN a - i) j = cvI a x y (aN a) k) (aN a) (fun b => ∃ z, (b = Sum.inl (iI (cvI a x y (aN a) k)) ∨ (b = Sum.inr z ∧ cvI a x y (aN a) k = -109)))
    (by
      intro i j hi hI
      obtain ⟨h1, h2, h3⟩ := hI
      have hl : aN a - 1 - i < aN a := by omega
      have ho := ha.o hl
      obtain ⟨l, hl2⟩ : ∃ l, l = aN a - 1 - i := ⟨_, rfl⟩
      rw [← hl2] at hl ho
      have e1 : ((aN a : Int) - 1 - i) = (l : Int) := by omega
      have e2 : aN a - i = l + 1 := by omega
      rw [e2, cvI] at h3
      rw [b_X1_coveringPiece_11, e1, F_at rfl (by omega) (by omega), h.o hl, ob_some, L_coverRow h ha ho (by omega), ob_some, ← nI_iI x]
      simp (disch := omega) only [iL_0, iL_1, iL_2, iL_3, iL_4, iL_5, iL_6, iL_7, iL_8, iL_9, iL_10, iL_11, iL_12, iL_15, iL_16, iL_20, iL_22, iL_24, iL_31, iL_32, iL_40, iL_45, iL_48, iL_57, iL_59, iL_60, iL_63, iL_72, iL_76, iL_88, iL_97, iL_100, iL_101, iL_102, iL_103, iL_109, iL_110, iL_112, iL_114, iL_120, iL_122, iL_144, iL_255, iL_352, iL_440, iL_576, iL_1000, nI_iI, iI_add, iI_sub, iI_mul, iI_neg, iI_lt]
      rw [if_neg (by omega)]
      have e3 : (msk (fun i => inP a i y && cov a (aO a l) i y) >>> (nI x &&& iI 31) &&& iI 1 = iI 0) ↔ (inP a x y && cov a (aO a l) x y) = false := msk_at (fun i => inP a i y && cov a (aO a l) i y) (by omega)
      have e4 : inP a x y = true := by rw [inP_nat]; simp [hx, hy]
      rw [e4, Bool.true_and] at e3
      simp only [nI_iI] at e3
      by_cases hcv : cov a (aO a l) x y = true
      · rw [if_pos hcv] at h3
        rw [if_neg (fun q => by rw [e3.mp q] at hcv; cases hcv)]
        by_cases hj : j = 0
        · right
          rw [if_pos hj] at h3
          subst hj
          exact ⟨_, if_pos rfl, (iI 0, iI 0), Or.inl (by rw [← h3])⟩
        · left
          rw [if_neg hj] at h3
          refine ⟨j - 1, ?_, by omega, by omega, ?_⟩
          · rw [if_neg (by rw [iI_eq (by omega) (by omega) (by omega) (by omega)]; exact hj)]
            congr 3 <;> (congr 1; omega)
          · rw [← h3]; congr 1; omega
      · rw [if_neg hcv] at h3
        left
        refine ⟨j, ?_, h1, h2, ?_⟩
        · rw [if_pos (e3.mpr (by simpa using hcv))]
          congr 3 <;> (congr 1; omega)
        · rw [← h3]; congr 1; omega)
    (by
      intro j hI
      obtain ⟨h1, h2, h3⟩ := hI
      rw [Nat.sub_self, cvI] at h3
      rw [b_X1_coveringPiece_11]
      simp (disch := omega) only [iL_0, iL_1, iL_2, iL_3, iL_4, iL_5, iL_6, iL_7, iL_8, iL_9, iL_10, iL_11, iL_12, iL_15, iL_16, iL_20, iL_22, iL_24, iL_31, iL_32, iL_40, iL_45, iL_48, iL_57, iL_59, iL_60, iL_63, iL_72, iL_76, iL_88, iL_97, iL_100, iL_101, iL_102, iL_103, iL_109, iL_110, iL_112, iL_114, iL_120, iL_122, iL_144, iL_255, iL_352, iL_440, iL_576, iL_1000, nI_iI, iI_add, iI_sub, iI_mul, iI_neg, iI_lt]
      rw [if_pos (by omega)]
      exact ⟨_, rfl, _, Or.inr ⟨rfl, h3.symm⟩⟩)
    k ⟨hk.1, hk.2, rfl⟩ (by omega)
  obtain ⟨b, h1, z, h2⟩ := key
  unfold f_X1_coveringPiece
  rw [h.n]
  have e0 : iI ((aN a : Int) - 1 - (0 : Nat)) = iI (aN a : Int) - (1 : Int32) := by
    rw [iL_1, iI_sub]; congr 1; omega
  rw [x_nm_eq, ← e0, h1, ob_some]
  rcases h2 with rfl | ⟨rfl, h2⟩
  · rfl
  · rw [h2]; rfl
