/-! a loop that sums; division -/
theorem x_sum {B : Int32 × Int32 → Option ((Int32 × Int32) ⊕ (Int32 × Int32))} (g : Nat → Nat) (e : Nat) (he : e < 5000) (c0 : Nat)
    (hs : ∀ i (c : Nat), i < e → B (iI (c : Int), iI (i : Int)) = some (.inl (iI ((c + g i : Nat) : Int), iI ((i + 1 : Nat) : Int))))
    (hx : ∀ c : Nat, B (iI (c : Int), iI (e : Int)) = some (.inr (iI (c : Int), iI (e : Int)))) :
    x_loop B x_fuel (iI (c0 : Int), iI 0) = some (iI ((c0 + sumN g e : Nat) : Int), iI (e : Int)) := by
  obtain ⟨b, e1, e2⟩ := x_for (B := B) (fun i (c : Nat) => (iI (c : Int), iI (i : Int))) (fun i c => c = c0 + sumN g i) e (fun b => b = (iI ((c0 + sumN g e : Nat) : Int), iI (e : Int)))
    (fun i c hi hI => Or.inl ⟨c + g i, hs i c hi, by rw [sumN, hI, Nat.add_assoc]⟩)
    (fun c hI => ⟨_, hx c, by rw [hI]⟩) c0 rfl he
  rw [← e2]
  exact e1
theorem iI_div {x y : Int} (h1 : 0 ≤ x) (h2 : x < 2147483648) (h3 : 0 < y) (h4 : y < 2147483648) : iI x / iI y = iI (x / y) := by
  have hne : iI y ≠ -1 := fun q => by
    have := congrArg Int32.toInt q
    rw [iI_toInt (by omega) h4] at this
    have e : (-1 : Int32).toInt = -1 := rfl
    omega
  have hd : 0 ≤ x / y ∧ x / y ≤ x := ⟨Int.ediv_nonneg h1 (by omega), Int.ediv_le_self _ h1⟩
  rw [← Int32.toInt_inj, Int32.toInt_div_of_ne_right _ _ hne, iI_toInt (by omega) h2, iI_toInt (by omega) h4, iI_toInt (by omega) (by omega), Int.tdiv_eq_ediv_of_nonneg h1]
theorem x_divI {x y : Int} (h1 : 0 ≤ x) (h2 : x < 2147483648) (h3 : 0 < y) (h4 : y < 2147483648) : x_div (iI x) (iI y) = some (iI (x / y)) := by
  unfold x_div
  rw [if_pos, iI_div h1 h2 h3 h4]
  rw [iL_0, iI_eq (by omega) h4 (by omega) (by omega)]
  omega
theorem x_remI {x y : Int} (h1 : 0 ≤ x) (h2 : x < 2147483648) (h3 : 0 < y) (h4 : y < 2147483648) : x_rem (iI x) (iI y) = some (iI (x % y)) := by
  unfold x_rem
  rw [if_pos, iI_div h1 h2 h3 h4, iI_mul, iI_sub]
  · congr 2
    have := Int.emod_add_mul_ediv x y
    have h5 : x / y * y = y * (x / y) := Int.mul_comm _ _
    omega
  · rw [iL_0, iI_eq (by omega) h4 (by omega) (by omega)]
    omega
/-- a cell by its number -/
theorem cell_dm {c x y : Nat} (hx : x < c) : ((c * y + x : Nat) : Int) % (c : Int) = (x : Int) ∧ ((c * y + x : Nat) : Int) / (c : Int) = (y : Int) := by
  have h1 : (c * y + x) % c = x := by rw [Nat.mul_add_mod_self_left, Nat.mod_eq_of_lt hx]
  have h3 : (c * y + x) / c = y := by rw [Nat.mul_add_div (by omega), Nat.div_eq_of_lt hx, Nat.add_zero]
  constructor
  · rw [← Int.natCast_emod, h1]
  · rw [← Int.natCast_ediv, h3]
theorem cell_of {c r k : Nat} (hk : k < c * r) : ∃ x y, x < c ∧ y < r ∧ k = c * y + x := by
  have hc : 0 < c := Nat.pos_of_ne_zero (fun q => by subst q; simp at hk)
  refine ⟨k % c, k / c, Nat.mod_lt _ hc, (Nat.div_lt_iff_lt_mul hc).mpr (by rw [Nat.mul_comm]; exact hk), ?_⟩
  have := Nat.div_add_mod k c
  omega
theorem row24 {a : AL} (ha : AOK a) (g : Nat → Bool) {y : Nat} (hy : y < aR a) : sumN (fun i : Nat => if (inP a i y && g i) = true then 1 else 0) 24 = sumN (fun i => if g i = true then 1 else 0) (aC a) := by
  rw [← row_sum ha g]
  refine sumN_congr (fun i _ => ?_)
  rw [inP_nat]
  simp [hy]
/-- q is seen in the cell -/
def sn (a : AL) (q x y : Int) : Bool := inP a x y && decide (top a x y = q)
theorem sn_iff {a : AL} {q x y : Int} : sn a q x y = true ↔ ((0 ≤ x ∧ x < aC a) ∧ 0 ≤ y ∧ y < aR a) ∧ top a x y = q := by
  unfold sn
  simp [inP_iff]
theorem sn_nat {a : AL} {q : Int} {x y : Nat} (hx : x < aC a) (hy : y < aR a) : sn a q x y = decide (top a x y = q) := by
  unfold sn
  rw [inP_nat]
  simp [hx, hy]
theorem rowB_sn (a : AL) (q y : Int) (i : Nat) : rowB a q y i = sn a q i y := rfl
/-- a row's sum in which the piece itself is seen -/
theorem rowS {a : AL} (ha : AOK a) (q : Int) (g : Nat → Bool) {y : Nat} (hy : y < aR a) : sumN (fun i : Nat => if (rowB a q y i && g i) = true then 1 else 0) 24 = sumN (fun x : Nat => if top a x y = q ∧ g x = true then 1 else 0) (aC a) := by
  have := row24 ha (fun i => decide (top a i y = q) && g i) hy
  rw [sumN_congr (g := fun i : Nat => if (rowB a q y i && g i) = true then 1 else 0) (h := fun i : Nat => if (inP a i y && (fun i : Nat => decide (top a i y = q) && g i) i) = true then 1 else 0) (fun i _ => by unfold rowB; simp only [Bool.and_assoc]), this]
  exact sumN_congr (fun i _ => by simp)
def hid (a : AL) (p q : Nat) : Nat := sumN (fun y : Nat => sumN (fun x : Nat => if top a x y = p ∧ cov a q x y = true then 1 else 0) (aC a)) (aR a)
def nb (a : AL) (q x y : Int) : Nat := if sn a q x y = true then 1 else 0
def edg (a : AL) (p : Nat) (q : Int) : Nat := sumN (fun y : Nat => sumN (fun x : Nat => if top a x y = p then nb a q (x - 1) y + nb a q (x + 1) y + nb a q x (y - 1) + nb a q x (y + 1) else 0) (aC a)) (aR a)
def b1 (p : Prop) [Decidable p] : Nat := if p then 1 else 0
def bor (a : AL) (p : Nat) : Nat := sumN (fun y : Nat => sumN (fun x : Nat => if top a x y = p then b1 (x = 0) + b1 (x + 1 = aC a) + b1 (y = 0) + b1 (y + 1 = aR a) else 0) (aC a)) (aR a)
section SJ
variable {s : LyS} {a : AL} {ss : SiS}
theorem S_hidden (h : LOK s a) (ha : AOK a) (hs : SOK ss a) {p q : Nat} (hp : p < aN a) (hq : q < aN a) : f_X5_hiddenCells ss s (iI (p : Int)) (iI (q : Int)) = some (iI (hid a p q : Int)) := by
  have hb := ha.b
  have e1 := x_sum (B := b_X5_hiddenCells_5 ss s (iI (p : Int)) (iI (q : Int))) (fun y : Nat => sumN (fun x : Nat => if top a x y = p ∧ cov a q x y = true then 1 else 0) (aC a)) (aR a) (by omega) 0
    (by
      intro i c hi
      rw [b_X5_hiddenCells_5]
      unfold f_X1_rows
      rw [ob_some, h.r, S_rowOf h ha hs (Or.inr ⟨p, rfl, hp⟩) (by omega), ob_some, L_coverRow h ha hq (by omega), ob_some, msk_and, F_bitCount, ob_some, x_nm_eq]
      simp (disch := omega) only [iL_0, iL_1, iL_2, iL_3, iL_4, iL_5, iL_6, iL_7, iL_8, iL_9, iL_10, iL_11, iL_12, iL_15, iL_16, iL_20, iL_22, iL_24, iL_31, iL_32, iL_40, iL_45, iL_48, iL_57, iL_59, iL_60, iL_63, iL_72, iL_76, iL_88, iL_97, iL_100, iL_101, iL_102, iL_103, iL_109, iL_110, iL_112, iL_114, iL_120, iL_122, iL_144, iL_255, iL_352, iL_440, iL_576, iL_1000, nI_iI, iI_add, iI_sub, iI_mul, iI_neg, iI_le]
      rw [if_neg (by omega)]
      have e : sumN (fun k : Nat => if (rowB a p i k && (inP a k i && cov a q k i)) = true then 1 else 0) 24 = sumN (fun x : Nat => if top a x i = p ∧ cov a q x i = true then 1 else 0) (aC a) := by
        rw [← rowS ha p (fun k => cov a q k i) hi]
        refine sumN_congr (fun k _ => ?_)
        unfold rowB
        cases inP a k i <;> simp
      rw [e]
      rfl)
    (by
      intro c
      rw [b_X5_hiddenCells_5]
      unfold f_X1_rows
      rw [ob_some, h.r]
      simp (disch := omega) only [iI_le]
      rw [if_pos (by omega)])
  unfold f_X5_hiddenCells
  have e1' : x_loop (b_X5_hiddenCells_5 ss s (iI (p : Int)) (iI (q : Int))) x_fuel ((0 : Int32), (0 : Int32)) = _ := e1
  rw [e1', ob_some, Nat.zero_add]
  rfl
theorem msk_shl1' (f g : Nat → Bool) : msk g &&& (msk f <<< (iI 1 &&& iI 31)) = msk (fun i => g i && (decide (1 ≤ i) && f (i - 1))) := by
  rw [← iL_1, ← iL_31]
  exact msk_shl1 f g
theorem msk_shr1' (f : Nat → Bool) : msk f >>> (iI 1 &&& iI 31) = msk (fun i => decide (i + 1 < 24) && f (i + 1)) := by
  rw [← iL_1, ← iL_31]
  exact msk_shr1 f
theorem S_edge (h : LOK s a) (ha : AOK a) (hs : SOK ss a) {p : Nat} {q : Int} (hp : p < aN a) (hq : q = -1 ∨ ∃ p : Nat, q = p ∧ p < aN a) : f_X5_edgeBetween ss s (iI (p : Int)) (iI q) = some (iI (edg a p q : Int)) := by
  have hb := ha.b
  have e1 := x_sum (B := b_X5_edgeBetween_5 ss s (iI (p : Int)) (iI q)) (fun y : Nat => sumN (fun x : Nat => if top a x y = p then nb a q (x - 1) y + nb a q (x + 1) y + nb a q x (y - 1) + nb a q x (y + 1) else 0) (aC a)) (aR a) (by omega) 0
    (by
      intro i c hi
      rw [b_X5_edgeBetween_5]
      unfold f_X1_rows
      simp (disch := omega) only [iL_0, iL_1, iL_2, iL_3, iL_4, iL_5, iL_6, iL_7, iL_8, iL_9, iL_10, iL_11, iL_12, iL_15, iL_16, iL_20, iL_22, iL_24, iL_31, iL_32, iL_40, iL_45, iL_48, iL_57, iL_59, iL_60, iL_63, iL_72, iL_76, iL_88, iL_97, iL_100, iL_101, iL_102, iL_103, iL_109, iL_110, iL_112, iL_114, iL_120, iL_122, iL_144, iL_255, iL_352, iL_440, iL_576, iL_1000, nI_iI, iI_add, iI_sub, iI_mul, iI_neg]
      rw [ob_some, h.r, S_rowOf h ha hs (Or.inr ⟨p, rfl, hp⟩) (by omega), ob_some, S_rowOf h ha hs hq (by omega), ob_some, S_rowOf h ha hs hq (by omega), S_rowOf h ha hs hq (by omega)]
      simp (disch := omega) only [iI_le]
      rw [if_neg (by omega), msk_shl1', msk_shr1', msk_and, F_bitCount, ob_some, x_nm_eq, F_bitCount, ob_some, x_nm_eq, ob_some, msk_and, F_bitCount, ob_some, x_nm_eq, ob_some, msk_and, F_bitCount, ob_some, x_nm_eq]
      rw [rowS ha p _ hi, rowS ha p _ hi, rowS ha p _ hi, rowS ha p _ hi]
      simp only [iL_0, iL_1, iL_2, iL_3, iL_4, iL_5, iL_6, iL_7, iL_8, iL_9, iL_10, iL_11, iL_12, iL_15, iL_16, iL_20, iL_22, iL_24, iL_31, iL_32, iL_40, iL_45, iL_48, iL_57, iL_59, iL_60, iL_63, iL_72, iL_76, iL_88, iL_97, iL_100, iL_101, iL_102, iL_103, iL_109, iL_110, iL_112, iL_114, iL_120, iL_122, iL_144, iL_255, iL_352, iL_440, iL_576, iL_1000, nI_iI, iI_add, iI_sub, iI_mul, iI_neg]
      have e : ∀ (u1 u2 u3 u4 : Nat → Nat), sumN u1 (aC a) + sumN u2 (aC a) + sumN u3 (aC a) + sumN u4 (aC a) = sumN (fun x => u1 x + u2 x + u3 x + u4 x) (aC a) := fun u1 u2 u3 u4 => by
        rw [sumN_add, sumN_add, sumN_add]
      have e2 : ∀ (A1 A2 A3 A4 A : Nat), A1 + A2 + A3 + A4 = A → (c : Int) + A1 + A2 + A3 + A4 = ((c + A : Nat) : Int) := fun A1 A2 A3 A4 A q => by omega
      rw [e2 _ _ _ _ _ (e _ _ _ _)]
      have e3 : ∀ x : Nat, x < aC a → (if top a x i = p ∧ (decide (1 ≤ x) && rowB a q i (x - 1)) = true then 1 else 0) + (if top a x i = p ∧ (decide (x + 1 < 24) && rowB a q i (x + 1)) = true then 1 else 0) + (if top a x i = p ∧ rowB a q (i - 1) x = true then 1 else 0) + (if top a x i = p ∧ rowB a q (i + 1) x = true then 1 else 0) = if top a x i = p then nb a q (x - 1) i + nb a q (x + 1) i + nb a q x (i - 1) + nb a q x (i + 1) else 0 := by
        intro x hx
        by_cases ht : top a x i = p
        · simp only [ht, true_and, if_true]
          unfold nb
          have g1 : (decide (1 ≤ x) && rowB a q i (x - 1)) = sn a q (x - 1) i := by
            by_cases h1 : 1 ≤ x
            · rw [rowB_sn, show ((x - 1 : Nat) : Int) = (x : Int) - 1 by omega]; simp [h1]
            · have : sn a q (x - 1) i = false := by
                rw [← Bool.not_eq_true, sn_iff]; omega
              simp [h1, this]
          have g2 : (decide (x + 1 < 24) && rowB a q i (x + 1)) = sn a q (x + 1) i := by
            by_cases h1 : x + 1 < 24
            · rw [rowB_sn, show ((x + 1 : Nat) : Int) = (x : Int) + 1 by omega]; simp [h1]
            · have : sn a q (x + 1) i = false := by
                rw [← Bool.not_eq_true, sn_iff]; omega
              simp [h1, this]
          rw [g1, g2, rowB_sn, rowB_sn]
        · simp only [ht, false_and, if_false]
      rw [sumN_congr e3]
      rfl)
    (by
      intro c
      rw [b_X5_edgeBetween_5]
      unfold f_X1_rows
      rw [ob_some, h.r]
      simp (disch := omega) only [iI_le]
      rw [if_pos (by omega)])
  unfold f_X5_edgeBetween
  have e1' : x_loop (b_X5_edgeBetween_5 ss s (iI (p : Int)) (iI q)) x_fuel ((0 : Int32), (0 : Int32)) = _ := e1
  rw [e1', ob_some, Nat.zero_add]
  rfl
theorem msk_one : ∀ k, k < 24 → (1 : Int32) <<< (nI k &&& 31) = msk (fun i => decide (i = k)) := by decide +kernel
theorem msk_1 : (1 : Int32) = msk (fun i => decide (i = 0)) := by decide +kernel
theorem sumN_at {g : Nat → Nat} {n k : Nat} (h : k < n) : sumN (fun i => if i = k then g i else 0) n = g k := by
  rw [← sumN_one (g k) h]
  refine sumN_congr (fun i _ => ?_)
  by_cases e : i = k
  · subst e; rfl
  · rw [if_neg e, if_neg e]
theorem bor_split {a : AL} (ha : AOK a) (p : Nat) : bor a p = sumN (fun x : Nat => if top a x (0 : Nat) = p then 1 else 0) (aC a) + sumN (fun x : Nat => if top a x (aR a - 1 : Nat) = p then 1 else 0) (aC a) + sumN (fun y : Nat => sumN (fun x : Nat => if top a x y = p ∧ (decide (x = 0) || decide (x = aC a - 1)) = true then 1 else 0) (aC a)) (aR a) := by
  have hb := ha.b
  have e1 : sumN (fun x : Nat => if top a x (0 : Nat) = p then 1 else 0) (aC a) = sumN (fun y : Nat => if y = 0 then sumN (fun x : Nat => if top a x y = p then 1 else 0) (aC a) else 0) (aR a) := (sumN_at (g := fun y : Nat => sumN (fun x : Nat => if top a x y = p then 1 else 0) (aC a)) (show 0 < aR a by omega)).symm
  have e2 : sumN (fun x : Nat => if top a x (aR a - 1 : Nat) = p then 1 else 0) (aC a) = sumN (fun y : Nat => if y = aR a - 1 then sumN (fun x : Nat => if top a x y = p then 1 else 0) (aC a) else 0) (aR a) := (sumN_at (g := fun y : Nat => sumN (fun x : Nat => if top a x y = p then 1 else 0) (aC a)) (show aR a - 1 < aR a by omega)).symm
  rw [e1, e2, ← sumN_add, ← sumN_add]
  unfold bor
  refine sumN_congr (fun y hy => ?_)
  have e3 : ∀ (P : Prop) [Decidable P], (if P then sumN (fun x : Nat => if top a x y = p then 1 else 0) (aC a) else 0) = sumN (fun x : Nat => if top a x y = p then b1 P else 0) (aC a) := fun P _ => by
    unfold b1
    by_cases e : P
    · rw [if_pos e]; exact sumN_congr (fun x _ => by rw [if_pos e])
    · rw [if_neg e]; exact (sumN_none (fun x _ => by rw [if_neg e]; split <;> rfl)).symm
  rw [e3, e3, ← sumN_add, ← sumN_add]
  refine sumN_congr (fun x hx => ?_)
  by_cases ht : top a x y = p
  · simp only [ht, true_and, if_true]
    unfold b1
    simp only [Bool.or_eq_true, decide_eq_true_eq]
    have h1 : (y + 1 = aR a) ↔ (y = aR a - 1) := by omega
    have h2 : (x + 1 = aC a) ↔ (x = aC a - 1) := by omega
    simp only [h1, h2]
    by_cases k1 : x = 0
    · have : ¬ x = aC a - 1 := by omega
      simp only [k1, this]
      have : ¬ (0 = aC a - 1) := by omega
      simp [this]
      omega
    · simp only [k1, false_or, if_false]
      omega
  · simp only [ht, false_and, if_false]
theorem S_border (h : LOK s a) (ha : AOK a) (hs : SOK ss a) {p : Nat} (hp : p < aN a) : f_X5_borderEdge ss s (iI (p : Int)) = some (iI (bor a p : Int)) := by
  have hb := ha.b
  obtain ⟨sd, hsd⟩ : ∃ sd, sd = msk (fun i => decide (i = 0) || decide (i = aC a - 1)) := ⟨_, rfl⟩
  obtain ⟨c0, hc0⟩ : ∃ c0, c0 = sumN (fun x : Nat => if top a x (0 : Nat) = p then 1 else 0) (aC a) + sumN (fun x : Nat => if top a x (aR a - 1 : Nat) = p then 1 else 0) (aC a) := ⟨_, rfl⟩
  have e1 := x_sum (B := b_X5_borderEdge_45 ss s (iI (p : Int)) sd) (fun y : Nat => sumN (fun x : Nat => if top a x y = p ∧ (decide (x = 0) || decide (x = aC a - 1)) = true then 1 else 0) (aC a)) (aR a) (by omega) c0
    (by
      intro i c hi
      rw [b_X5_borderEdge_45]
      unfold f_X1_rows
      rw [ob_some, h.r, S_rowOf h ha hs (Or.inr ⟨p, rfl, hp⟩) (by omega), ob_some, hsd, msk_and, F_bitCount, ob_some, x_nm_eq, rowS ha p _ hi]
      simp (disch := omega) only [iL_0, iL_1, iL_2, iL_3, iL_4, iL_5, iL_6, iL_7, iL_8, iL_9, iL_10, iL_11, iL_12, iL_15, iL_16, iL_20, iL_22, iL_24, iL_31, iL_32, iL_40, iL_45, iL_48, iL_57, iL_59, iL_60, iL_63, iL_72, iL_76, iL_88, iL_97, iL_100, iL_101, iL_102, iL_103, iL_109, iL_110, iL_112, iL_114, iL_120, iL_122, iL_144, iL_255, iL_352, iL_440, iL_576, iL_1000, nI_iI, iI_add, iI_sub, iI_mul, iI_neg, iI_le]
      rw [if_neg (by omega)]
      rfl)
    (by
      intro c
      rw [b_X5_borderEdge_45]
      unfold f_X1_rows
      rw [ob_some, h.r]
      simp (disch := omega) only [iI_le]
      rw [if_pos (by omega)])
  unfold f_X5_borderEdge f_X1_columns f_X1_rows
  rw [ob_some, h.c, x_nm_eq, iL_1, iI_sub, show (aC a : Int) - 1 = ((aC a - 1 : Nat) : Int) by omega, ← nI_iI (aC a - 1), show iI 1 = (1 : Int32) from rfl, msk_one _ (by omega), msk_1, msk_or, ← hsd, iL_0, show iI 0 = iI ((0 : Nat) : Int) from rfl, S_rowOf h ha hs (Or.inr ⟨p, rfl, hp⟩) (by omega), ob_some, F_bitCount, ob_some, rowB_sum ha p (show 0 < aR a by omega), ob_some, h.r, ← msk_1, iL_1, iI_sub, show (aR a : Int) - 1 = ((aR a - 1 : Nat) : Int) by omega, S_rowOf h ha hs (Or.inr ⟨p, rfl, hp⟩) (by omega), ob_some, F_bitCount, ob_some, rowB_sum ha p (show aR a - 1 < aR a by omega), x_nm_eq, nI_iI, nI_iI, iI_add]
  have e1' : x_loop (b_X5_borderEdge_45 ss s (iI (p : Int)) sd) x_fuel (iI ((sumN (fun x : Nat => if top a x (0 : Nat) = p then 1 else 0) (aC a) : Nat) + (sumN (fun x : Nat => if top a x (aR a - 1 : Nat) = p then 1 else 0) (aC a) : Nat) : Int), iI 0) = some (iI (bor a p : Int), iI (aR a : Int)) := by
    rw [bor_split ha, ← hc0, ← e1, hc0]
    rfl
  have e1'' := e1'
  rw [show iI 0 = iI ((0 : Nat) : Int) from rfl] at e1''
  rw [e1'', ob_some]
end SJ
