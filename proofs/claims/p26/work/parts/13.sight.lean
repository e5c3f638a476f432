/-! what Sight answers after look() -/
section SI
variable {s : LyS} {a : AL} {ss : SiS}
/-- a row of a piece, or of the page -/
theorem S_rowOf (h : LOK s a) (ha : AOK a) (hs : SOK ss a) {q y : Int} (hq : q = -1 ∨ ∃ p : Nat, q = p ∧ p < aN a) (hy : -1000 ≤ y ∧ y ≤ 1000) : f_X5_rowOf ss s (iI q) (iI y) = some (msk (rowB a q y)) := by
  have hb := ha.b
  unfold f_X5_rowOf
  rw [show (-1 : Int32) = iI (-1) from rfl]
  rcases hq with rfl | ⟨p, rfl, hp⟩
  · rw [if_pos rfl]
    unfold f_X1_columns
    rw [ob_some, h.c, iL_0, L_span h (by omega) (by omega) (by omega), ob_some, L_hasRow h (by omega) (by omega), ob_some]
    simp only [bI_0, bI_0']
    by_cases hin : 0 ≤ y ∧ y < aR a
    · obtain ⟨y', rfl⟩ : ∃ y' : Nat, (y' : Int) = y := ⟨y.toNat, by omega⟩
      rw [if_neg (by simpa using hin), F_at rfl (by omega) (by omega), ob_some, hs.2.1 y' (by omega), show iI (-1) = (-1 : Int32) from rfl, msk_diff]
      congr 1
      refine msk_congr (fun i hi => ?_)
      unfold rowB
      rw [Bool.eq_iff_iff]
      simp only [Bool.and_eq_true, Bool.not_eq_true', decide_eq_true_eq, Bool.and_eq_false_iff, decide_eq_false_iff_not, inP_iff]
      constructor
      · rintro ⟨q1, q2⟩
        have q3 : inP a i y' = true := inP_iff.mpr (by omega)
        refine ⟨by omega, ?_⟩
        rcases q2 with q2 | q2
        · rw [q3] at q2; cases q2
        · omega
      · rintro ⟨q1, q2⟩
        exact ⟨by omega, Or.inr (by omega)⟩
    · rw [if_pos (by simpa using hin), msk_none (fun i _ => rowB_out (by omega) i)]
      rfl
  · have hv := ha.p hp
    rw [if_neg (by rw [iI_eq (by omega) (by omega) (by omega) (by omega)]; omega), iL_1, L_get1 h (by omega) hp, iL_3, L_get3 h (by omega) hp]
    simp (disch := omega) only [ob_some, x_nm_eq, iI_sub, iL_0, iI_lt, iI_le]
    by_cases hin : 0 ≤ y - aP a p 1 ∧ y - aP a p 1 < aP a p 3
    · obtain ⟨j, hj⟩ : ∃ j : Nat, (j : Int) = y - aP a p 1 := ⟨(y - aP a p 1).toNat, by omega⟩
      rw [if_neg (by omega), if_neg (by omega), ob_some, if_neg (by decide), iL_12, iI_mul, iI_add, F_at (j := 12 * p + j) (by omega) (by omega) (by omega), ob_some, hs.1 p j hp (by omega), show aP a p 1 + j = y by omega]
    · have e : (if y - aP a p 1 < 0 then some (iI 0) else if aP a p 3 ≤ y - aP a p 1 then some (iI 0) else some (iI 1)) = some (iI 0) := by
        repeat' split
        all_goals first | rfl | (exfalso; omega)
      rw [e, ob_some, if_pos rfl, msk_none (fun i _ => ?_)]
      · rfl
      · cases hr : rowB a p y i with
        | false => rfl
        | true =>
          unfold rowB at hr
          simp only [Bool.and_eq_true, decide_eq_true_eq] at hr
          have := (cov_iff.mp (top_cov hr.2)).2
          omega
theorem S_cells' (hs : SOK ss a) (ha : aN a ≤ 12) {p : Nat} (hp : p < aN a) : f_X7_at 12 (S_cells ss) (iI (p : Int)) = some (iI (cnt a p : Int)) := by
  rw [F_at rfl (by omega) (by omega), hs.2.2 p hp]
def con (a : AL) (p : Nat) : Bool := decide (aP a p 4 * aP a p 2 * aP a p 3 ≤ (cnt a p : Int) * 100)
def cons (a : AL) : Nat := sumN (fun p => if con a p = true then 1 else 0) (aN a)
theorem cons_le (a : AL) : cons a ≤ aN a := by
  have := sumN_le (g := fun p => if con a p = true then 1 else 0) (n := aN a) (m := 1) (fun p _ => by split <;> omega)
  unfold cons; omega
/-- sizes of a piece's products -/
theorem prod3 {A B C : Int} (hA : 0 ≤ A ∧ A ≤ 100) (hB : 1 ≤ B ∧ B ≤ 12) (hC : 1 ≤ C ∧ C ≤ 12) : 0 ≤ A * B * C ∧ A * B * C ≤ 14400 ∧ 1 ≤ B * C ∧ B * C ≤ 144 := by
  have h1 : 1 * 1 ≤ B * C := Int.mul_le_mul hB.1 hC.1 (by omega) (by omega)
  have h2 : B * C ≤ 12 * 12 := Int.mul_le_mul hB.2 hC.2 (by omega) (by omega)
  have h3 : 0 * 0 ≤ A * (B * C) := Int.mul_le_mul hA.1 (by omega) (by omega) (by omega)
  have h4 : A * (B * C) ≤ 100 * 144 := Int.mul_le_mul hA.2 (by omega) (by omega) (by omega)
  rw [Int.mul_assoc]
  omega
theorem prodP {a : AL} (ha : AOK a) {p : Nat} (hp : p < aN a) : 0 ≤ aP a p 4 * aP a p 2 * aP a p 3 ∧ aP a p 4 * aP a p 2 * aP a p 3 ≤ 14400 ∧ 1 ≤ aP a p 2 * aP a p 3 ∧ aP a p 2 * aP a p 3 ≤ 144 := by
  have hv := ha.p hp
  exact prod3 (by omega) (by omega) (by omega)
theorem S_isContent (h : LOK s a) (ha : AOK a) (hs : SOK ss a) {p : Nat} (hp : p < aN a) : f_X5_isContent ss s (iI (p : Int)) = some (bI (con a p = true)) := by
  have hb := ha.b
  have hv := prodP ha hp
  have hc := cnt_le ha p
  unfold f_X5_isContent
  rw [iL_4, iL_2, iL_3, L_get4 h (by omega) hp, L_get2 h (by omega) hp, L_get3 h (by omega) hp]
  simp only [ob_some, x_nm_eq, iI_mul]
  rw [S_cells' hs (by omega) hp, ob_some, iL_100, iI_mul]
  simp (disch := omega) only [iI_lt]
  unfold bI con
  simp only [decide_eq_true_eq]
  repeat' split
  all_goals first | rfl | (exfalso; omega)
theorem S_contentPieces (h : LOK s a) (ha : AOK a) (hs : SOK ss a) : f_X5_contentPieces ss s = some (iI (cons a : Int)) := by
  have hb := ha.b
  have key := x_for (B := b_X5_contentPieces_4 ss s) (fun i (k : Nat) => (iI (k : Int), iI (i : Int))) (fun i k => k = sumN (fun p => if con a p = true then 1 else 0) i) (aN a) (fun b => b.1 = iI (cons a : Int))
    (by
      intro i k hi hI
      left
      refine ⟨k + if con a i = true then 1 else 0, ?_, by rw [sumN, hI]⟩
      rw [b_X5_contentPieces_4]
      unfold f_X1_pieces
      rw [ob_some, h.n, S_isContent h ha hs hi, ob_some]
      simp (disch := omega) only [iL_0, iL_1, iL_2, iL_3, iL_4, iL_5, iL_6, iL_7, iL_8, iL_9, iL_10, iL_11, iL_12, iL_15, iL_16, iL_20, iL_22, iL_24, iL_31, iL_32, iL_40, iL_45, iL_48, iL_57, iL_59, iL_60, iL_63, iL_72, iL_76, iL_88, iL_97, iL_100, iL_101, iL_102, iL_103, iL_109, iL_110, iL_112, iL_114, iL_120, iL_122, iL_144, iL_255, iL_352, iL_440, iL_576, iL_1000, nI_iI, iI_add, iI_sub, iI_mul, iI_neg, iI_le, bI_0, bI_0']
      rw [if_neg (by omega)]
      by_cases e : con a i = true
      · rw [if_neg (by simpa using e), if_pos e]; rfl
      · rw [if_pos e, if_neg e]; rfl)
    (by
      intro k hI
      rw [b_X5_contentPieces_4]
      unfold f_X1_pieces
      rw [ob_some, h.n]
      simp (disch := omega) only [iI_le]
      rw [if_pos (by omega)]
      exact ⟨_, rfl, by rw [hI]; rfl⟩) 0 rfl (by omega)
  obtain ⟨b, e1, e2⟩ := key
  unfold f_X5_contentPieces
  have e1' : x_loop (b_X5_contentPieces_4 ss s) x_fuel ((0 : Int32), (0 : Int32)) = some b := e1
  rw [e1', ob_some]
  exact congrArg some e2
def unsn (a : AL) : Nat := sumN (fun p => if cnt a (p : Int) = 0 then 1 else 0) (aN a)
theorem S_unseen (h : LOK s a) (ha : AOK a) (hs : SOK ss a) : f_X5_unseenPieces ss s = some (iI (unsn a : Int)) := by
  have hb := ha.b
  have key := x_for (B := b_X5_unseenPieces_4 ss s) (fun i (k : Nat) => (iI (k : Int), iI (i : Int))) (fun i k => k = sumN (fun p => if cnt a (p : Int) = 0 then 1 else 0) i) (aN a) (fun b => b.1 = iI (unsn a : Int))
    (by
      intro i k hi hI
      left
      refine ⟨k + if cnt a (i : Int) = 0 then 1 else 0, ?_, by rw [sumN, hI]⟩
      have hc := cnt_le ha i
      rw [b_X5_unseenPieces_4]
      unfold f_X1_pieces
      rw [ob_some, h.n, S_cells' hs (by omega) hi, ob_some]
      simp (disch := omega) only [iL_0, iL_1, iL_2, iL_3, iL_4, iL_5, iL_6, iL_7, iL_8, iL_9, iL_10, iL_11, iL_12, iL_15, iL_16, iL_20, iL_22, iL_24, iL_31, iL_32, iL_40, iL_45, iL_48, iL_57, iL_59, iL_60, iL_63, iL_72, iL_76, iL_88, iL_97, iL_100, iL_101, iL_102, iL_103, iL_109, iL_110, iL_112, iL_114, iL_120, iL_122, iL_144, iL_255, iL_352, iL_440, iL_576, iL_1000, nI_iI, iI_add, iI_sub, iI_mul, iI_neg, iI_le, iI_eq]
      rw [if_neg (by omega)]
      by_cases e : cnt a (i : Int) = 0
      · rw [if_pos (by omega), if_pos e]; rfl
      · rw [if_neg (by omega), if_neg e]; rfl)
    (by
      intro k hI
      rw [b_X5_unseenPieces_4]
      unfold f_X1_pieces
      rw [ob_some, h.n]
      simp (disch := omega) only [iI_le]
      rw [if_pos (by omega)]
      exact ⟨_, rfl, by rw [hI]; rfl⟩) 0 rfl (by omega)
  obtain ⟨b, e1, e2⟩ := key
  unfold f_X5_unseenPieces
  have e1' : x_loop (b_X5_unseenPieces_4 ss s) x_fuel ((0 : Int32), (0 : Int32)) = some b := e1
  rw [e1', ob_some]
  exact congrArg some e2
theorem S_pageCells (h : LOK s a) (ha : AOK a) (hs : SOK ss a) : f_X5_pageCells ss s = some (iI (cnt a (-1) : Int)) := by
  have hb := ha.b
  have key := x_for (B := b_X5_pageCells_4 ss s) (fun i (k : Nat) => (iI (k : Int), iI (i : Int))) (fun i k => k = sumN (fun y => sumN (fun x => if top a x y = -1 then 1 else 0) (aC a)) i) (aR a) (fun b => b.1 = iI (cnt a (-1) : Int))
    (by
      intro i k hi hI
      left
      refine ⟨k + sumN (fun x => if top a x i = -1 then 1 else 0) (aC a), ?_, by rw [sumN, hI]⟩
      rw [b_X5_pageCells_4]
      unfold f_X1_rows
      rw [ob_some, h.r, show (-1 : Int32) = iI (-1) from rfl, S_rowOf h ha hs (Or.inl rfl) (by omega), ob_some, F_bitCount, ob_some, rowB_sum ha (-1) hi, x_nm_eq]
      simp (disch := omega) only [iL_0, iL_1, iL_2, iL_3, iL_4, iL_5, iL_6, iL_7, iL_8, iL_9, iL_10, iL_11, iL_12, iL_15, iL_16, iL_20, iL_22, iL_24, iL_31, iL_32, iL_40, iL_45, iL_48, iL_57, iL_59, iL_60, iL_63, iL_72, iL_76, iL_88, iL_97, iL_100, iL_101, iL_102, iL_103, iL_109, iL_110, iL_112, iL_114, iL_120, iL_122, iL_144, iL_255, iL_352, iL_440, iL_576, iL_1000, nI_iI, iI_add, iI_sub, iI_mul, iI_neg, iI_le]
      rw [if_neg (by omega)]
      rfl)
    (by
      intro k hI
      rw [b_X5_pageCells_4]
      unfold f_X1_rows
      rw [ob_some, h.r]
      simp (disch := omega) only [iI_le]
      rw [if_pos (by omega)]
      exact ⟨_, rfl, by rw [hI]; rfl⟩) 0 rfl (by omega)
  obtain ⟨b, e1, e2⟩ := key
  unfold f_X5_pageCells
  have e1' : x_loop (b_X5_pageCells_4 ss s) x_fuel ((0 : Int32), (0 : Int32)) = some b := e1
  rw [e1', ob_some]
  exact congrArg some e2
end SI
