/-! shares, ranks, cells outside, frames -/
def lyr (a : AL) (p : Nat) : Nat := sumN (fun l => if aO a l = p then l else 0) (aN a)
theorem lyr_at {a : AL} (ha : AOK a) {l : Nat} (hl : l < aN a) : lyr a (aO a l) = l := by
  unfold lyr
  refine (sumN_congr (fun i hi => ?_)).trans (sumN_at (g := fun i => i) hl)
  by_cases e : i = l
  · subst e; rw [if_pos rfl, if_pos rfl]
  · rw [if_neg (fun q => e (ha.inj hi hl q)), if_neg e]
theorem lyr_lt {a : AL} (ha : AOK a) {p : Nat} (hp : p < aN a) : lyr a p < aN a := by
  obtain ⟨l, hl, rfl⟩ := ha.sur hp
  rw [lyr_at ha hl]; exact hl
theorem lyr_o {a : AL} (ha : AOK a) {p : Nat} (hp : p < aN a) : aO a (lyr a p) = p := by
  obtain ⟨l, hl, rfl⟩ := ha.sur hp
  rw [lyr_at ha hl]
def shr (a : AL) (p : Nat) : Int := (cnt a p : Int) * 100 / (aP a p 2 * aP a p 3)
theorem shr_b {a : AL} (ha : AOK a) {p : Nat} (hp : p < aN a) : 0 ≤ shr a p ∧ shr a p ≤ 57600 := by
  have hv := prodP ha hp
  have hc := cnt_le ha p
  unfold shr
  have h1 : 0 ≤ (cnt a p : Int) * 100 / (aP a p 2 * aP a p 3) := Int.ediv_nonneg (by omega) (by omega)
  have h2 : (cnt a p : Int) * 100 / (aP a p 2 * aP a p 3) ≤ (cnt a p : Int) * 100 := Int.ediv_le_self _ (by omega)
  omega
def rnk (a : AL) (p : Nat) : Nat := sumN (fun o => if shr a o < shr a p ∨ (shr a o = shr a p ∧ lyr a o < lyr a p) then 1 else 0) (aN a)
theorem rnk_le (a : AL) (p : Nat) : rnk a p ≤ aN a := by
  have := sumN_le (g := fun o => if shr a o < shr a p ∨ (shr a o = shr a p ∧ lyr a o < lyr a p) then 1 else 0) (n := aN a) (m := 1) (fun p _ => by split <;> omega)
  unfold rnk; omega
/-- the cells of a piece that lie on the page -/
def ins (a : AL) (p : Nat) : Nat := sumN (fun y : Nat => sumN (fun x : Nat => if cov a p x y = true then 1 else 0) (aC a)) (aR a)
theorem ins_le {a : AL} (ha : AOK a) (p : Nat) : ins a p ≤ 576 := by
  have hb := ha.b
  have h1 : ins a p ≤ aR a * aC a := by
    refine sumN_le (fun y _ => ?_)
    have := sumN_le (g := fun x : Nat => if cov a p x y = true then 1 else 0) (n := aC a) (m := 1) (fun i _ => by split <;> omega)
    omega
  have : aR a * aC a ≤ 24 * 24 := Nat.mul_le_mul (by omega) (by omega)
  omega
theorem sumN_all {g : Nat → Nat} {n m : Nat} (h : ∀ i, i < n → g i ≤ m) : sumN g n = n * m ↔ ∀ i, i < n → g i = m := by
  induction n with
  | zero => simp [sumN]
  | succ n ih =>
    have h0 := sumN_le (g := g) (n := n) (m := m) (fun i hi => h i (by omega))
    have h1 := h n (by omega)
    have := ih (fun i hi => h i (by omega))
    rw [sumN, Nat.succ_mul]
    constructor
    · intro e i hi
      by_cases e2 : i = n
      · subst e2; omega
      · exact this.mp (by omega) i (by omega)
    · intro e
      have e2 := this.mpr (fun i hi => e i (by omega))
      have e3 := e n (by omega)
      omega
section SK
variable {s : LyS} {a : AL} {ss : SiS}
theorem L_layerOf' (h : LOK s a) (ha : AOK a) {p : Nat} (hp : p < aN a) : f_X1_layerOf s (iI (p : Int)) = some (iI (lyr a p : Int)) := by
  have := L_layerOf h ha (lyr_lt ha hp)
  rw [lyr_o ha hp] at this
  exact this
theorem S_share (h : LOK s a) (ha : AOK a) (hs : SOK ss a) {p : Nat} (hp : p < aN a) : f_X5_shareOf ss s (iI (p : Int)) = some (iI (shr a p)) := by
  have hb := ha.b
  have hv := prodP ha hp
  have hc := cnt_le ha p
  unfold f_X5_shareOf
  rw [L_area h ha hp, ob_some, S_cells' hs (by omega) hp]
  simp (disch := omega) only [iL_0, iL_1, iL_2, iL_3, iL_4, iL_5, iL_6, iL_7, iL_8, iL_9, iL_10, iL_11, iL_12, iL_15, iL_16, iL_20, iL_22, iL_24, iL_31, iL_32, iL_40, iL_45, iL_48, iL_57, iL_59, iL_60, iL_63, iL_72, iL_76, iL_88, iL_97, iL_100, iL_101, iL_102, iL_103, iL_109, iL_110, iL_112, iL_114, iL_120, iL_122, iL_144, iL_255, iL_352, iL_440, iL_576, iL_1000, nI_iI, iI_add, iI_sub, iI_mul, iI_neg, iI_le, ob_some]
  rw [if_neg (by omega), x_divI (by omega) (by omega) (by omega) (by omega)]
  rfl
theorem S_rank (h : LOK s a) (ha : AOK a) (hs : SOK ss a) {p : Nat} (hp : p < aN a) : f_X5_rankByShare ss s (iI (p : Int)) = some (iI (rnk a p : Int)) := by
  have hb := ha.b
  have hsp := shr_b ha hp
  have hlp := lyr_lt ha hp
  have e1 := x_sum (B := b_X5_rankByShare_21 ss s (iI (lyr a p : Int)) (iI (shr a p))) (fun o => if shr a o < shr a p ∨ (shr a o = shr a p ∧ lyr a o < lyr a p) then 1 else 0) (aN a) (by omega) 0
    (by
      intro i c hi
      have hsi := shr_b ha hi
      have hli := lyr_lt ha hi
      rw [b_X5_rankByShare_21]
      unfold f_X1_pieces
      rw [ob_some, h.n, S_share h ha hs hi, L_layerOf' h ha hi]
      simp (disch := omega) only [iL_0, iL_1, iL_2, iL_3, iL_4, iL_5, iL_6, iL_7, iL_8, iL_9, iL_10, iL_11, iL_12, iL_15, iL_16, iL_20, iL_22, iL_24, iL_31, iL_32, iL_40, iL_45, iL_48, iL_57, iL_59, iL_60, iL_63, iL_72, iL_76, iL_88, iL_97, iL_100, iL_101, iL_102, iL_103, iL_109, iL_110, iL_112, iL_114, iL_120, iL_122, iL_144, iL_255, iL_352, iL_440, iL_576, iL_1000, nI_iI, iI_add, iI_sub, iI_mul, iI_neg, iI_le, iI_lt, iI_eq, ob_some, x_nm_eq]
      rw [if_neg (by omega)]
      by_cases g1 : shr a i < shr a p
      · rw [if_pos (by omega), if_pos (Or.inl g1)]; rfl
      · rw [if_neg (by omega)]
        by_cases g2 : shr a i = shr a p
        · rw [if_pos (by omega)]
          by_cases g3 : lyr a i < lyr a p
          · rw [if_neg (by omega), if_pos (Or.inr ⟨g2, g3⟩)]; rfl
          · rw [if_pos (by omega), if_neg (by omega)]; rfl
        · rw [if_neg (by omega), if_neg (by omega)]; rfl)
    (by
      intro c
      rw [b_X5_rankByShare_21]
      unfold f_X1_pieces
      rw [ob_some, h.n]
      simp (disch := omega) only [iI_le]
      rw [if_pos (by omega)])
  unfold f_X5_rankByShare
  rw [S_share h ha hs hp, ob_some, L_layerOf' h ha hp, ob_some]
  have e1' : x_loop (b_X5_rankByShare_21 ss s (iI (lyr a p : Int)) (iI (shr a p))) x_fuel ((0 : Int32), (0 : Int32)) = _ := e1
  rw [e1', ob_some, Nat.zero_add]
  rfl
theorem L_outside (h : LOK s a) (ha : AOK a) {p : Nat} (hp : p < aN a) : f_X1_cellsOutside s (iI (p : Int)) = some (iI (aP a p 2 * aP a p 3 - ins a p)) := by
  have hb := ha.b
  have e1 := x_sum (B := b_X1_cellsOutside_4 s (iI (p : Int))) (fun y : Nat => sumN (fun x : Nat => if cov a p x y = true then 1 else 0) (aC a)) (aR a) (by omega) 0
    (by
      intro i c hi
      rw [b_X1_cellsOutside_4, h.r, L_coverRow h ha hp (by omega), ob_some, F_bitCount, ob_some, x_nm_eq, row24 ha _ hi]
      simp (disch := omega) only [iL_0, iL_1, iL_2, iL_3, iL_4, iL_5, iL_6, iL_7, iL_8, iL_9, iL_10, iL_11, iL_12, iL_15, iL_16, iL_20, iL_22, iL_24, iL_31, iL_32, iL_40, iL_45, iL_48, iL_57, iL_59, iL_60, iL_63, iL_72, iL_76, iL_88, iL_97, iL_100, iL_101, iL_102, iL_103, iL_109, iL_110, iL_112, iL_114, iL_120, iL_122, iL_144, iL_255, iL_352, iL_440, iL_576, iL_1000, nI_iI, iI_add, iI_sub, iI_mul, iI_neg, iI_le]
      rw [if_neg (by omega)]
      rfl)
    (by
      intro c
      rw [b_X1_cellsOutside_4, h.r]
      simp (disch := omega) only [iI_le]
      rw [if_pos (by omega)])
  unfold f_X1_cellsOutside
  have e1' : x_loop (b_X1_cellsOutside_4 s (iI (p : Int))) x_fuel ((0 : Int32), (0 : Int32)) = _ := e1
  rw [e1', ob_some, Nat.zero_add]
  dsimp only
  rw [L_area h ha hp, ob_some, iI_sub]
  rfl
/-- p is seen in all cells of a rectangle -/
abbrev wly (a : AL) (p : Nat) (x y : Int) (w v : Nat) : Prop := ∀ j, j < v → ∀ k, k < w → sn a p (x + k) (y + j) = true
def wlyB (a : AL) (p : Nat) (x y : Int) (w v : Nat) : Bool := decide (wly a p x y w v)
theorem S_wholly (h : LOK s a) (ha : AOK a) (hs : SOK ss a) {p : Nat} (hp : p < aN a) {x y : Int} {w v : Nat} (hx : -100 ≤ x ∧ x ≤ 100) (hy : -100 ≤ y ∧ y ≤ 100) (hw : w ≤ 12) (hv : v ≤ 12) {wi vi : Int} (ew : wi = w) (ev : vi = v) : f_X5_isWholly ss s (iI (p : Int)) (iI x) (iI y) (iI wi) (iI vi) = some (bI (wlyB a p x y w v = true)) := by
  subst ew ev
  have hb := ha.b
  obtain ⟨cl, hcl⟩ : ∃ cl, cl = msk (fun i => decide (x ≤ (i : Int) ∧ (i : Int) < x + w ∧ i < aC a)) := ⟨_, rfl⟩
  have row : ∀ (j : Nat), sumN (fun i : Nat => if (rowB a p (y + j) i && decide (x ≤ (i : Int) ∧ (i : Int) < x + w ∧ i < aC a)) = true then 1 else 0) 24 = sumN (fun k : Nat => if sn a p (x + k) (y + j) = true then 1 else 0) w := by
    intro j
    have e2 := sumN_shift (fun z => if sn a p z (y + j) = true then 1 else 0) 24 x w
    have e3 : sumN (fun i : Nat => if (rowB a p (y + j) i && decide (x ≤ (i : Int) ∧ (i : Int) < x + w ∧ i < aC a)) = true then 1 else 0) 24 = sumN (fun i : Nat => if x ≤ (i : Int) ∧ (i : Int) < x + w then (fun z => if sn a p z (y + j) = true then 1 else 0) (i : Int) else 0) 24 := by
      refine sumN_congr (fun i _ => ?_)
      rw [rowB_sn]
      by_cases g : sn a p i (y + j) = true
      · have g' := sn_iff.mp g
        by_cases g2 : x ≤ (i : Int) ∧ (i : Int) < x + w
        · have g3 : x ≤ (i : Int) ∧ (i : Int) < x + w ∧ i < aC a := by omega
          simp [g, g2, g3]
        · have g3 : ¬ (x ≤ (i : Int) ∧ (i : Int) < x + w ∧ i < aC a) := by omega
          simp only [g, g2, g3, decide_false, Bool.and_false, if_false]
          rfl
      · simp only [g, Bool.not_eq_true] at *
        simp [g]
    rw [e3, e2]
    refine sumN_congr (fun k _ => ?_)
    by_cases g : 0 ≤ x + k ∧ x + k < (24 : Nat)
    · rw [if_pos g]
    · rw [if_neg g, if_neg]
      rw [sn_iff]
      omega
  have key := x_for (B := b_X5_isWholly_18 ss s (iI (p : Int)) (iI y) (iI (v : Int)) cl) (fun i (c : Nat) => (iI (c : Int), iI (y + i))) (fun i c => c = sumN (fun j : Nat => sumN (fun k : Nat => if sn a p (x + k) (y + j) = true then 1 else 0) w) i) v (fun b => b.1 = iI (sumN (fun j : Nat => sumN (fun k : Nat => if sn a p (x + k) (y + j) = true then 1 else 0) w) v : Int))
    (by
      intro i c hi hI
      left
      refine ⟨c + sumN (fun k : Nat => if sn a p (x + k) (y + i) = true then 1 else 0) w, ?_, by rw [sumN, hI]⟩
      rw [b_X5_isWholly_18, S_rowOf h ha hs (Or.inr ⟨p, rfl, hp⟩) (by omega), ob_some, hcl, msk_and, F_bitCount, ob_some, row, x_nm_eq]
      simp (disch := omega) only [iL_0, iL_1, iL_2, iL_3, iL_4, iL_5, iL_6, iL_7, iL_8, iL_9, iL_10, iL_11, iL_12, iL_15, iL_16, iL_20, iL_22, iL_24, iL_31, iL_32, iL_40, iL_45, iL_48, iL_57, iL_59, iL_60, iL_63, iL_72, iL_76, iL_88, iL_97, iL_100, iL_101, iL_102, iL_103, iL_109, iL_110, iL_112, iL_114, iL_120, iL_122, iL_144, iL_255, iL_352, iL_440, iL_576, iL_1000, nI_iI, iI_add, iI_sub, iI_mul, iI_neg, iI_le]
      rw [if_neg (by omega)]
      congr 3
      congr 1
      push_cast
      omega)
    (by
      intro c hI
      rw [b_X5_isWholly_18]
      simp (disch := omega) only [iL_0, iL_1, iL_2, iL_3, iL_4, iL_5, iL_6, iL_7, iL_8, iL_9, iL_10, iL_11, iL_12, iL_15, iL_16, iL_20, iL_22, iL_24, iL_31, iL_32, iL_40, iL_45, iL_48, iL_57, iL_59, iL_60, iL_63, iL_72, iL_76, iL_88, iL_97, iL_100, iL_101, iL_102, iL_103, iL_109, iL_110, iL_112, iL_114, iL_120, iL_122, iL_144, iL_255, iL_352, iL_440, iL_576, iL_1000, nI_iI, iI_add, iI_sub, iI_mul, iI_neg, iI_le]
      rw [if_pos (by omega)]
      exact ⟨_, rfl, by rw [hI]⟩) 0 rfl (by omega)
  obtain ⟨b, e1, e2⟩ := key
  have inn : ∀ j : Nat, sumN (fun k : Nat => if sn a p (x + k) (y + j) = true then 1 else 0) w ≤ w := fun j => by
    have := sumN_le (g := fun k : Nat => if sn a p (x + k) (y + j) = true then 1 else 0) (n := w) (m := 1) (fun k _ => by split <;> omega)
    omega
  have al1 : sumN (fun j : Nat => sumN (fun k : Nat => if sn a p (x + k) (y + j) = true then 1 else 0) w) v = v * w ↔ wly a p x y w v := by
    rw [sumN_all (fun j _ => inn j)]
    unfold wly
    constructor
    · intro g j hj k hk
      have g1 := g j hj
      have g2 := (sumN_all (g := fun k : Nat => if sn a p (x + k) (y + j) = true then 1 else 0) (n := w) (m := 1) (fun k _ => by split <;> omega)).mp (by omega) k hk
      split at g2
      · assumption
      · omega
    · intro g j hj
      have := (sumN_all (g := fun k : Nat => if sn a p (x + k) (y + j) = true then 1 else 0) (n := w) (m := 1) (fun k _ => by split <;> omega)).mpr (fun k hk => by rw [if_pos (g j hj k hk)])
      omega
  have hle : sumN (fun j : Nat => sumN (fun k : Nat => if sn a p (x + k) (y + j) = true then 1 else 0) w) v ≤ v * w := sumN_le (fun j _ => inn j)
  have hvw : v * w ≤ 12 * 12 := Nat.mul_le_mul hv hw
  unfold f_X5_isWholly
  rw [L_span h (by omega) (by omega) (by omega), ob_some, ← hcl]
  have e1' : x_loop (b_X5_isWholly_18 ss s (iI (p : Int)) (iI y) (iI (v : Int)) cl) x_fuel ((0 : Int32), iI y) = some b := by
    rw [← e1]
    show x_loop _ _ (iI 0, iI y) = x_loop _ _ (iI 0, iI (y + (0 : Nat)))
    rw [show y + ((0 : Nat) : Int) = y by omega]
  rw [e1', ob_some]
  obtain ⟨b1, b2⟩ := b
  dsimp only at e2 ⊢
  rw [e2, iI_mul, show (w : Int) * v = ((v * w : Nat) : Int) by rw [Nat.mul_comm]; rfl]
  simp (disch := omega) only [iI_eq]
  by_cases g : wly a p x y w v
  · have gb : wlyB a p x y w v = true := decide_eq_true g
    rw [if_pos (by have := al1.mpr g; omega), bI_t gb]
  · have gb : ¬ wlyB a p x y w v = true := fun q => g (of_decide_eq_true q)
    rw [if_neg (fun q => g (al1.mp (by omega))), bI_f gb]
end SK
/-- a strip of a frame is cut -/
def dpt (a : AL) (p k : Nat) (i j : Int) : Int := if k = 0 then i else if k = 1 then j else if k = 2 then aP a p 2 - 1 - i else aP a p 3 - 1 - j
abbrev ctP (a : AL) (p k : Nat) : Prop := ∀ j : Nat, j < (aP a p 3).toNat → ∀ i : Nat, i < (aP a p 2).toNat → dpt a p k i j < aP a p 5 → sn a p (aP a p 0 + i) (aP a p 1 + j) = true
def ctB (a : AL) (p k : Nat) : Bool := decide (ctP a p k)
def ctI (a : AL) (p k : Nat) : Int32 := if ctB a p k = true then 0 else nI (2 ^ k)
def cuts (a : AL) (p : Nat) : Int32 := ((ctI a p 0 ||| ctI a p 1) ||| ctI a p 2) ||| ctI a p 3
theorem ct_w {a : AL} (ha : AOK a) {p : Nat} (hp : p < aN a) (f g : Nat) (hf : (f : Int) = min (aP a p 5) (aP a p 2)) (hg : (g : Int) = min (aP a p 5) (aP a p 3)) :
    (ctP a p 0 ↔ wly a p (aP a p 0) (aP a p 1) f (aP a p 3).toNat) ∧ (ctP a p 1 ↔ wly a p (aP a p 0) (aP a p 1) (aP a p 2).toNat g) ∧
    (ctP a p 2 ↔ wly a p (aP a p 0 + aP a p 2 - f) (aP a p 1) f (aP a p 3).toNat) ∧ (ctP a p 3 ↔ wly a p (aP a p 0) (aP a p 1 + aP a p 3 - g) (aP a p 2).toNat g) := by
  have hv := ha.p hp
  refine ⟨?_, ?_, ?_, ?_⟩
  · unfold ctP wly dpt
    constructor
    · intro q j hj k hk
      exact q j hj k (by omega) (by rw [if_pos rfl]; omega)
    · intro q j hj i hi hd
      rw [if_pos rfl] at hd
      exact q j hj i (by omega)
  · unfold ctP wly dpt
    constructor
    · intro q j hj k hk
      exact q j (by omega) k hk (by rw [if_neg (by omega), if_pos rfl]; omega)
    · intro q j hj i hi hd
      rw [if_neg (by omega), if_pos rfl] at hd
      exact q j (by omega) i hi
  · unfold ctP wly dpt
    constructor
    · intro q j hj k hk
      have := q j hj ((aP a p 2).toNat - f + k) (by omega) (by rw [if_neg (by omega), if_neg (by omega), if_pos rfl]; omega)
      rw [← this]
      congr 1
      omega
    · intro q j hj i hi hd
      rw [if_neg (by omega), if_neg (by omega), if_pos rfl] at hd
      have := q j hj (i - ((aP a p 2).toNat - f)) (by omega)
      rw [← this]
      congr 1
      omega
  · unfold ctP wly dpt
    constructor
    · intro q j hj k hk
      have := q ((aP a p 3).toNat - g + j) (by omega) k hk (by rw [if_neg (by omega), if_neg (by omega), if_neg (by omega)]; omega)
      rw [← this]
      congr 1
      omega
    · intro q j hj i hi hd
      rw [if_neg (by omega), if_neg (by omega), if_neg (by omega)] at hd
      have := q (j - ((aP a p 3).toNat - g)) (by omega) i hi
      rw [← this]
      congr 1
      omega
section SL
variable {s : LyS} {a : AL} {ss : SiS}
theorem x_minI {x y : Int} (h1 : -2147483648 ≤ x ∧ x < 2147483648) (h2 : -2147483648 ≤ y ∧ y < 2147483648) : x_min (iI x) (iI y) = iI (min x y) := by
  unfold x_min
  simp (disch := omega) only [iI_lt]
  split
  · congr 1; omega
  · congr 1; omega
theorem S_cuts (h : LOK s a) (ha : AOK a) (hs : SOK ss a) {p : Nat} (hp : p < aN a) : f_X5_cutStrips ss s (iI (p : Int)) = some (cuts a p) := by
  have hb := ha.b
  have hv := ha.p hp
  obtain ⟨f, hf⟩ : ∃ f : Nat, (f : Int) = min (aP a p 5) (aP a p 2) := ⟨(min (aP a p 5) (aP a p 2)).toNat, by omega⟩
  obtain ⟨g, hg⟩ : ∃ g : Nat, (g : Int) = min (aP a p 5) (aP a p 3) := ⟨(min (aP a p 5) (aP a p 3)).toNat, by omega⟩
  obtain ⟨c0, c1, c2, c3⟩ := ct_w ha hp f g hf hg
  unfold f_X5_cutStrips
  rw [iL_0, iL_1, iL_2, iL_3, iL_5, L_get0 h (by omega) hp, L_get1 h (by omega) hp, L_get2 h (by omega) hp, L_get3 h (by omega) hp, L_get5 h (by omega) hp]
  simp only [ob_some, x_nm_eq]
  rw [x_minI (by omega) (by omega), x_minI (by omega) (by omega), ← hf, ← hg]
  simp only [iI_add, iI_sub]
  rw [S_wholly h ha hs hp (w := f) (v := (aP a p 3).toNat) (by omega) (by omega) (by omega) (by omega) (by omega) (by omega),
    S_wholly h ha hs hp (w := (aP a p 2).toNat) (v := g) (by omega) (by omega) (by omega) (by omega) (by omega) (by omega),
    S_wholly h ha hs hp (w := f) (v := (aP a p 3).toNat) (by omega) (by omega) (by omega) (by omega) (by omega) (by omega),
    S_wholly h ha hs hp (w := (aP a p 2).toNat) (v := g) (by omega) (by omega) (by omega) (by omega) (by omega) (by omega)]
  simp only [ob_some, bI_0, bI_0']
  have cv : ∀ {P Q : Prop} [Decidable P] [Decidable Q], (P ↔ Q) → ((decide Q = true) ↔ (decide P = true)) := fun e => by rw [decide_eq_true_eq, decide_eq_true_eq]; exact e.symm
  have e0 : wlyB a p (aP a p 0) (aP a p 1) f (aP a p 3).toNat = true ↔ ctB a p 0 = true := cv c0
  have e1 : wlyB a p (aP a p 0) (aP a p 1) (aP a p 2).toNat g = true ↔ ctB a p 1 = true := cv c1
  have e2 : wlyB a p (aP a p 0 + aP a p 2 - f) (aP a p 1) f (aP a p 3).toNat = true ↔ ctB a p 2 = true := cv c2
  have e3 : wlyB a p (aP a p 0) (aP a p 1 + aP a p 3 - g) (aP a p 2).toNat g = true ↔ ctB a p 3 = true := cv c3
  simp only [e0, e1, e2, e3]
  unfold cuts ctI
  cases ctB a p 0 <;> cases ctB a p 1 <;> cases ctB a p 2 <;> cases ctB a p 3 <;> rfl
def whl (a : AL) : Nat := sumN (fun p => if 0 < aP a p 5 ∧ cuts a p = iI 0 then 1 else 0) (aN a)
theorem S_whole (h : LOK s a) (ha : AOK a) (hs : SOK ss a) : f_X5_wholeFrames ss s = some (iI (whl a : Int)) := by
  have hb := ha.b
  have e1 := x_sum (B := b_X5_wholeFrames_4 ss s) (fun p => if 0 < aP a p 5 ∧ cuts a p = iI 0 then 1 else 0) (aN a) (by omega) 0
    (by
      intro i c hi
      have hv := ha.p hi
      rw [b_X5_wholeFrames_4]
      unfold f_X1_pieces
      rw [ob_some, h.n, S_cuts h ha hs hi, iL_5, L_get5 h (by omega) hi]
      simp (disch := omega) only [iL_0, iL_1, iI_add, iI_le, ob_some]
      rw [if_neg (by omega)]
      by_cases g1 : 0 < aP a i 5
      · rw [if_neg (by omega)]
        by_cases g2 : cuts a i = iI 0
        · rw [if_pos g2, if_pos ⟨g1, g2⟩]; rfl
        · rw [if_neg g2, if_neg (fun q => g2 q.2)]; rfl
      · rw [if_pos (by omega), if_neg (fun q => g1 q.1)]; rfl)
    (by
      intro c
      rw [b_X5_wholeFrames_4]
      unfold f_X1_pieces
      rw [ob_some, h.n]
      simp (disch := omega) only [iI_le]
      rw [if_pos (by omega)])
  unfold f_X5_wholeFrames
  have e1' : x_loop (b_X5_wholeFrames_4 ss s) x_fuel ((0 : Int32), (0 : Int32)) = _ := e1
  rw [e1', ob_some, Nat.zero_add]
  rfl
end SL
