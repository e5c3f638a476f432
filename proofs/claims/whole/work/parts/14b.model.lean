/-! painting -/
theorem sumN_append (f : Nat → Nat) (n m : Nat) : sumN f (n + m) = sumN f n + sumN (fun i => f (n + i)) m := by
  induction m with
  | zero => rfl
  | succ m ih => rw [← Nat.add_assoc, sumN, ih, sumN]; omega
theorem sumN_prod (f : Nat → Nat) (c r : Nat) : sumN f (c * r) = sumN (fun y => sumN (fun x => f (c * y + x)) c) r := by
  induction r with
  | zero => rfl
  | succ r ih => rw [Nat.mul_succ, sumN_append, ih, sumN]
/-- the number of cells in which q is seen, without the piece w -/
def cntW (a : AL) (w q : Int) : Nat := sumN (fun y => sumN (fun x => if tW a w x y (aN a) = q then 1 else 0) (aC a)) (aR a)
theorem cntW_cnt (a : AL) (q : Int) : cntW a (-109) q = cnt a q := rfl
theorem cntW_le {a : AL} (ha : AOK a) (w q : Int) : cntW a w q ≤ 576 := by
  have hb := ha.b
  have h1 : cntW a w q ≤ aR a * aC a := by
    refine sumN_le (fun y _ => ?_)
    have := sumN_le (g := fun x : Nat => if tW a w x y (aN a) = q then 1 else 0) (n := aC a) (m := 1) (fun i _ => by split <;> omega)
    omega
  have : aR a * aC a ≤ 24 * 24 := Nat.mul_le_mul (by omega) (by omega)
  omega
/-- what 'shown' holds after painting -/
def ShOK (sh : Nat → Int32) (a : AL) (w : Int) : Prop := ∀ x y : Nat, x < aC a → y < aR a → sh (aC a * y + x) = iI (tW a w x y (aN a))
section MP
variable {m : Nat → Int32} {a : AL}
theorem M_paintWithout (h : MOK m a) (ha : AOK a) {w : Int} (hw : -1000 ≤ w ∧ w ≤ 1000) (sh so : Nat → Int32) : ∃ sh' so', f_X8_paintWithout m sh so (iI w) = some (sh', so') ∧ ShOK sh' a w ∧ ∀ p, p < 12 → so' p = iI (cntW a w p : Int) := by
  have hb := ha.b
  have hcr : aC a * aR a ≤ 576 := Nat.le_trans (Nat.mul_le_mul (show aC a ≤ 24 by omega) (show aR a ≤ 24 by omega)) (by decide)
  have k1 := x_for (B := b_X8_paintWithout_16 (iI ((aC a : Int) * aR a))) (fun i (g : Nat → Int32) => (iI (i : Int), g)) (fun i g => ∀ k, k < i → g k = iI (-1)) (aC a * aR a) (fun b => ∃ z g, b = (z, g) ∧ ∀ k, k < aC a * aR a → g k = iI (-1))
    (by
      intro i g hi hI
      left
      refine ⟨upd g i (iI (-1)), ?_, fun k hk => ?_⟩
      · rw [b_X8_paintWithout_16]
        have : (i : Int) < (aC a : Int) * aR a := by exact_mod_cast hi
        have h2 : (aC a : Int) * aR a ≤ 576 := by rw [← Int.natCast_mul]; omega
        simp (disch := omega) only [iL_0, iL_1, iL_2, iL_3, iL_4, iL_5, iL_6, iL_7, iL_8, iL_9, iL_10, iL_11, iL_12, iL_15, iL_16, iL_20, iL_22, iL_24, iL_31, iL_32, iL_40, iL_45, iL_48, iL_57, iL_59, iL_60, iL_63, iL_72, iL_76, iL_88, iL_97, iL_100, iL_101, iL_102, iL_103, iL_109, iL_110, iL_112, iL_114, iL_120, iL_122, iL_144, iL_255, iL_352, iL_440, iL_576, iL_1000, nI_iI, iI_add, iI_sub, iI_mul, iI_neg, iI_le]
        rw [if_neg (by omega), x_stI rfl (by omega) (by omega), ob_some]
        rfl
      · by_cases e : k = i
        · subst e; rw [upd_same]
        · rw [upd_ne _ _ e]; exact hI k (by omega))
    (by
      intro g hI
      rw [b_X8_paintWithout_16]
      have h2 : (aC a : Int) * aR a ≤ 576 := by rw [← Int.natCast_mul]; omega
      have h3 : (0 : Int) ≤ (aC a : Int) * aR a := by exact_mod_cast Nat.zero_le _
      simp (disch := omega) only [Int.natCast_mul, iI_le]
      rw [if_pos (Int.le_refl _)]
      exact ⟨_, rfl, _, g, rfl, hI⟩)
    sh (fun k hk => by omega) (by omega)
  obtain ⟨b1, e1, z1, g1, rfl, hg1⟩ := k1
  have k2 := x_for (B := b_X8_paintWithout_36 m (iI w)) (fun i (g : Nat → Int32) => (iI (i : Int), g)) (fun i g => ∀ x y : Nat, x < aC a → y < aR a → g (aC a * y + x) = iI (tW a w x y i)) (aN a) (fun b => ∃ z g, b = (z, g) ∧ ShOK g a w)
    (by
      intro i g hi hI
      left
      have ho := ha.o hi
      by_cases e : (aO a i : Int) = w
      · refine ⟨g, ?_, fun x y hx hy => ?_⟩
        · rw [b_X8_paintWithout_36]
          simp only [iL_0, iL_1, iL_2, iL_3, iL_4, iL_5, iL_6, iL_7, iL_8, iL_9, iL_10, iL_11, iL_12, iL_15, iL_16, iL_20, iL_22, iL_24, iL_31, iL_32, iL_40, iL_45, iL_48, iL_57, iL_59, iL_60, iL_63, iL_72, iL_76, iL_88, iL_97, iL_100, iL_101, iL_102, iL_103, iL_109, iL_110, iL_112, iL_114, iL_120, iL_122, iL_144, iL_255, iL_352, iL_440, iL_576, iL_1000, nI_iI, iI_add, iI_sub, iI_mul, iI_neg]
          rw [M_ld2 h, ob_some, M_ldO h (by omega) hi rfl, ob_some]
          simp (disch := omega) only [iI_le, iI_eq]
          rw [if_neg (by omega), if_pos e]
          rfl
        · rw [hI x y hx hy, tW, if_neg (fun q => q.2 e)]
      · obtain ⟨g', e2, hg'⟩ := M_paintPiece h ha ho g
        refine ⟨g', ?_, fun x y hx hy => ?_⟩
        · rw [b_X8_paintWithout_36]
          simp only [iL_0, iL_1, iL_2, iL_3, iL_4, iL_5, iL_6, iL_7, iL_8, iL_9, iL_10, iL_11, iL_12, iL_15, iL_16, iL_20, iL_22, iL_24, iL_31, iL_32, iL_40, iL_45, iL_48, iL_57, iL_59, iL_60, iL_63, iL_72, iL_76, iL_88, iL_97, iL_100, iL_101, iL_102, iL_103, iL_109, iL_110, iL_112, iL_114, iL_120, iL_122, iL_144, iL_255, iL_352, iL_440, iL_576, iL_1000, nI_iI, iI_add, iI_sub, iI_mul, iI_neg]
          rw [M_ld2 h, ob_some, M_ldO h (by omega) hi rfl, ob_some]
          simp (disch := omega) only [iI_le, iI_eq]
          rw [if_neg (by omega), if_neg e, ob_some, e2, ob_some]
          rfl
        · rw [hg' x y hx hy, tW]
          by_cases hc : cov a (aO a i) x y = true
          · rw [if_pos hc, if_pos ⟨hc, e⟩]
          · rw [if_neg hc, if_neg (fun q => hc q.1), hI x y hx hy])
    (by
      intro g hI
      rw [b_X8_paintWithout_36]
      simp only [iL_0, iL_1, iL_2, iL_3, iL_4, iL_5, iL_6, iL_7, iL_8, iL_9, iL_10, iL_11, iL_12, iL_15, iL_16, iL_20, iL_22, iL_24, iL_31, iL_32, iL_40, iL_45, iL_48, iL_57, iL_59, iL_60, iL_63, iL_72, iL_76, iL_88, iL_97, iL_100, iL_101, iL_102, iL_103, iL_109, iL_110, iL_112, iL_114, iL_120, iL_122, iL_144, iL_255, iL_352, iL_440, iL_576, iL_1000, nI_iI, iI_add, iI_sub, iI_mul, iI_neg]
      rw [M_ld2 h, ob_some]
      simp (disch := omega) only [iI_le]
      rw [if_pos (by omega)]
      exact ⟨_, rfl, _, g, rfl, hI⟩)
    g1 (fun x y hx hy => by
      rw [hg1 _ (cell_lt (by omega) (by omega) hx hy).2]
      rfl) (by omega)
  obtain ⟨b2, e2, z2, g2, rfl, hg2⟩ := k2
  have k3 := x_for (B := b_X8_paintWithout_80) (fun i (g : Nat → Int32) => (iI (i : Int), g)) (fun i g => ∀ k, k < i → g k = iI 0) 12 (fun b => ∃ z g, b = (z, g) ∧ ∀ k, k < 12 → g k = iI 0)
    (by
      intro i g hi hI
      left
      refine ⟨upd g i (iI 0), ?_, fun k hk => ?_⟩
      · rw [b_X8_paintWithout_80]
        simp (disch := omega) only [iL_0, iL_1, iL_2, iL_3, iL_4, iL_5, iL_6, iL_7, iL_8, iL_9, iL_10, iL_11, iL_12, iL_15, iL_16, iL_20, iL_22, iL_24, iL_31, iL_32, iL_40, iL_45, iL_48, iL_57, iL_59, iL_60, iL_63, iL_72, iL_76, iL_88, iL_97, iL_100, iL_101, iL_102, iL_103, iL_109, iL_110, iL_112, iL_114, iL_120, iL_122, iL_144, iL_255, iL_352, iL_440, iL_576, iL_1000, nI_iI, iI_add, iI_sub, iI_mul, iI_neg, iI_le]
        rw [if_neg (by omega), x_stI rfl (by omega) (by omega), ob_some]
        rfl
      · by_cases e : k = i
        · subst e; rw [upd_same]
        · rw [upd_ne _ _ e]; exact hI k (by omega))
    (by
      intro g hI
      rw [b_X8_paintWithout_80]
      simp (disch := omega) only [iL_0, iL_1, iL_2, iL_3, iL_4, iL_5, iL_6, iL_7, iL_8, iL_9, iL_10, iL_11, iL_12, iL_15, iL_16, iL_20, iL_22, iL_24, iL_31, iL_32, iL_40, iL_45, iL_48, iL_57, iL_59, iL_60, iL_63, iL_72, iL_76, iL_88, iL_97, iL_100, iL_101, iL_102, iL_103, iL_109, iL_110, iL_112, iL_114, iL_120, iL_122, iL_144, iL_255, iL_352, iL_440, iL_576, iL_1000, nI_iI, iI_add, iI_sub, iI_mul, iI_neg, iI_le]
      rw [if_pos (by omega)]
      exact ⟨_, rfl, _, g, rfl, hI⟩)
    so (fun k hk => by omega) (by omega)
  obtain ⟨b3, e3, z3, g3, rfl, hg3⟩ := k3
  obtain ⟨T, hT⟩ : ∃ T : Nat → Int, T = fun k => tW a w ((k % aC a : Nat) : Int) ((k / aC a : Nat) : Int) (aN a) := ⟨_, rfl⟩
  have hg2T : ∀ k, k < aC a * aR a → g2 k = iI (T k) := fun k hk => by
    have hx : k % aC a < aC a := Nat.mod_lt _ (by omega)
    have hy : k / aC a < aR a := Nat.div_lt_of_lt_mul hk
    have := hg2 (k % aC a) (k / aC a) hx hy
    rw [Nat.div_add_mod] at this
    rw [this, hT]
  have k4 := x_for (B := b_X8_paintWithout_101 (iI ((aC a : Int) * aR a)) g2) (fun i (g : Nat → Int32) => (iI (i : Int), g)) (fun i g => ∀ p : Nat, p < 12 → g p = iI (sumN (fun k => if T k = (p : Int) then 1 else 0) i : Int)) (aC a * aR a) (fun b => ∃ z g, b = (z, g) ∧ ∀ p : Nat, p < 12 → g p = iI (cntW a w p : Int))
    (by
      intro i g hi hI
      left
      have hii : (i : Int) < (aC a : Int) * aR a := by exact_mod_cast hi
      have h2 : (aC a : Int) * aR a ≤ 576 := by rw [← Int.natCast_mul]; omega
      have hTr : T i = -1 ∨ ∃ p : Nat, p < 12 ∧ T i = (p : Int) := by
        rw [hT]
        rcases tW_range a w ((i % aC a : Nat) : Int) ((i / aC a : Nat) : Int) (aN a) with e | ⟨l, h1, h2, -⟩
        · exact Or.inl e
        · have := ha.o h1
          exact Or.inr ⟨_, by omega, h2⟩
      rcases hTr with e | ⟨p, hp, e⟩
      · refine ⟨g, ?_, fun p hp => ?_⟩
        · rw [b_X8_paintWithout_101]
          simp (disch := omega) only [iL_0, iL_1, iL_2, iL_3, iL_4, iL_5, iL_6, iL_7, iL_8, iL_9, iL_10, iL_11, iL_12, iL_15, iL_16, iL_20, iL_22, iL_24, iL_31, iL_32, iL_40, iL_45, iL_48, iL_57, iL_59, iL_60, iL_63, iL_72, iL_76, iL_88, iL_97, iL_100, iL_101, iL_102, iL_103, iL_109, iL_110, iL_112, iL_114, iL_120, iL_122, iL_144, iL_255, iL_352, iL_440, iL_576, iL_1000, nI_iI, iI_add, iI_sub, iI_mul, iI_neg, iI_le]
          rw [if_neg (by omega), x_ldI rfl (by omega) (by omega), ob_some, hg2T i hi, e, if_pos rfl]
          rfl
        · rw [hI p hp, sumN, if_neg (by omega)]
          rfl
      · have hs : sumN (fun k => if T k = (p : Int) then 1 else 0) i ≤ i := by
          have := sumN_le (g := fun k => if T k = (p : Int) then 1 else 0) (n := i) (m := 1) (fun k _ => by split <;> omega)
          omega
        refine ⟨upd g p (iI (sumN (fun k => if T k = (p : Int) then 1 else 0) (i + 1) : Int)), ?_, fun q hq => ?_⟩
        · rw [b_X8_paintWithout_101]
          simp (disch := omega) only [iL_0, iL_1, iL_2, iL_3, iL_4, iL_5, iL_6, iL_7, iL_8, iL_9, iL_10, iL_11, iL_12, iL_15, iL_16, iL_20, iL_22, iL_24, iL_31, iL_32, iL_40, iL_45, iL_48, iL_57, iL_59, iL_60, iL_63, iL_72, iL_76, iL_88, iL_97, iL_100, iL_101, iL_102, iL_103, iL_109, iL_110, iL_112, iL_114, iL_120, iL_122, iL_144, iL_255, iL_352, iL_440, iL_576, iL_1000, nI_iI, iI_add, iI_sub, iI_mul, iI_neg, iI_le]
          rw [if_neg (by omega), x_ldI rfl (by omega) (by omega), ob_some, hg2T i hi, e]
          simp (disch := omega) only [iI_eq]
          rw [if_neg (by omega), ob_some, x_ldI rfl hp (by omega), ob_some, hI p hp, iI_add, x_stI rfl hp (by omega), ob_some, sumN, if_pos e]
          rfl
        · by_cases e2 : q = p
          · subst e2; rw [upd_same]
          · rw [upd_ne _ _ e2, hI q hq, sumN, if_neg (by omega)]
            rfl)
    (by
      intro g hI
      rw [b_X8_paintWithout_101]
      have h2 : (aC a : Int) * aR a ≤ 576 := by rw [← Int.natCast_mul]; omega
      have h3 : (0 : Int) ≤ (aC a : Int) * aR a := by exact_mod_cast Nat.zero_le _
      simp (disch := omega) only [Int.natCast_mul, iI_le]
      rw [if_pos (Int.le_refl _)]
      refine ⟨_, rfl, _, g, rfl, fun p hp => ?_⟩
      rw [hI p hp, sumN_prod]
      congr 2
      unfold cntW
      refine sumN_congr (fun y hy => sumN_congr (fun x hx => ?_))
      have e1 : (aC a * y + x) % aC a = x := by rw [Nat.mul_add_mod_self_left, Nat.mod_eq_of_lt hx]
      have e2 : (aC a * y + x) / aC a = y := by rw [Nat.mul_add_div (by omega), Nat.div_eq_of_lt hx, Nat.add_zero]
      have hTv : T (aC a * y + x) = tW a w x y (aN a) := by rw [hT]; dsimp only; rw [e1, e2]
      simp only [hTv])
    g3 (fun p hp => hg3 p hp) (by omega)
  obtain ⟨b4, e4, z4, g4, rfl, hg4⟩ := k4
  refine ⟨g2, g4, ?_, hg2, hg4⟩
  unfold f_X8_paintWithout
  rw [iL_0, iL_1, M_ld0 h, ob_some, M_ld1 h, ob_some, x_nm_eq, iI_mul]
  have e1' : x_loop (b_X8_paintWithout_16 (iI ((aC a : Int) * aR a))) x_fuel (iI 0, sh) = some (z1, g1) := e1
  have e2' : x_loop (b_X8_paintWithout_36 m (iI w)) x_fuel (iI 0, g1) = some (z2, g2) := e2
  have e3' : x_loop b_X8_paintWithout_80 x_fuel (iI 0, so) = some (z3, g3) := e3
  have e4' : x_loop (b_X8_paintWithout_101 (iI ((aC a : Int) * aR a)) g2) x_fuel (iI 0, g3) = some (z4, g4) := e4
  rw [e1', ob_some]
  dsimp only
  rw [e2', ob_some]
  dsimp only
  rw [e3', ob_some]
  dsimp only
  rw [e4', ob_some]
theorem M_paint (h : MOK m a) (ha : AOK a) (sh so : Nat → Int32) : ∃ sh' so', f_X8_paint m sh so = some (sh', so') ∧ ShOK sh' a (-109) ∧ ∀ p, p < 12 → so' p = iI (cnt a p : Int) := by
  obtain ⟨sh', so', e, h1, h2⟩ := M_paintWithout h ha (w := -109) (by omega) sh so
  refine ⟨sh', so', ?_, h1, h2⟩
  unfold f_X8_paint
  rw [show (-109 : Int32) = iI (-109) from rfl, e, ob_some]
/-- content by a count K -/
def conK (a : AL) (K : Nat → Nat) (p : Nat) : Bool := decide (aP a p 4 * aP a p 2 * aP a p 3 ≤ (K p : Int) * 100)
theorem M_isContent (h : MOK m a) (ha : AOK a) {so : Nat → Int32} {K : Nat → Nat} (hK : ∀ p, p < aN a → K p ≤ 576 ∧ so p = iI (K p : Int)) {p : Nat} (hp : p < aN a) : f_X8_isContent m so (iI (p : Int)) = some (bI (conK a K p = true)) := by
  have hb := ha.b
  have hv := prodP ha hp
  have hk := hK p hp
  unfold f_X8_isContent
  rw [x_ldI rfl (by omega) (by omega), ob_some, hk.2, iL_4, M_of4 h (by omega) hp, ob_some, M_area h (by omega) hp, ob_some, iL_100, iI_mul, iI_mul, ← Int.mul_assoc]
  simp (disch := omega) only [iI_lt]
  unfold bI conK
  simp only [decide_eq_true_eq]
  repeat' split
  all_goals first | rfl | (exfalso; omega)
theorem M_contents (h : MOK m a) (ha : AOK a) {so : Nat → Int32} {K : Nat → Nat} (hK : ∀ p, p < aN a → K p ≤ 576 ∧ so p = iI (K p : Int)) {w : Int} (hw : -1000 ≤ w ∧ w ≤ 1000) : f_X8_contents m so (iI w) = some (iI (sumN (fun p => if (p : Int) ≠ w ∧ conK a K p = true then 1 else 0) (aN a) : Int)) := by
  have hb := ha.b
  have key := x_for (B := b_X8_contents_4 m so (iI w)) (fun i (k : Nat) => (iI (k : Int), iI (i : Int))) (fun i k => k = sumN (fun p => if (p : Int) ≠ w ∧ conK a K p = true then 1 else 0) i) (aN a) (fun b => b.1 = iI (sumN (fun p => if (p : Int) ≠ w ∧ conK a K p = true then 1 else 0) (aN a) : Int))
    (by
      intro i k hi hI
      left
      refine ⟨k + if (i : Int) ≠ w ∧ conK a K i = true then 1 else 0, ?_, by rw [sumN, hI]⟩
      rw [b_X8_contents_4, M_isContent h ha hK hi]
      simp only [iL_0, iL_1, iL_2, iL_3, iL_4, iL_5, iL_6, iL_7, iL_8, iL_9, iL_10, iL_11, iL_12, iL_15, iL_16, iL_20, iL_22, iL_24, iL_31, iL_32, iL_40, iL_45, iL_48, iL_57, iL_59, iL_60, iL_63, iL_72, iL_76, iL_88, iL_97, iL_100, iL_101, iL_102, iL_103, iL_109, iL_110, iL_112, iL_114, iL_120, iL_122, iL_144, iL_255, iL_352, iL_440, iL_576, iL_1000, nI_iI, iI_add, iI_sub, iI_mul, iI_neg]
      rw [M_ld2 h, ob_some]
      simp (disch := omega) only [iI_le, iI_eq, ob_some, bI_0, bI_0', x_nm_eq]
      rw [if_neg (by omega)]
      by_cases e : (i : Int) = w
      · rw [if_pos e, if_neg (fun q => q.1 e)]; rfl
      · rw [if_neg e]
        by_cases e2 : conK a K i = true
        · rw [if_neg (by simpa using e2), if_pos ⟨e, e2⟩]; rfl
        · rw [if_pos e2, if_neg (fun q => e2 q.2)]; rfl)
    (by
      intro k hI
      rw [b_X8_contents_4]
      simp only [iL_0, iL_1, iL_2, iL_3, iL_4, iL_5, iL_6, iL_7, iL_8, iL_9, iL_10, iL_11, iL_12, iL_15, iL_16, iL_20, iL_22, iL_24, iL_31, iL_32, iL_40, iL_45, iL_48, iL_57, iL_59, iL_60, iL_63, iL_72, iL_76, iL_88, iL_97, iL_100, iL_101, iL_102, iL_103, iL_109, iL_110, iL_112, iL_114, iL_120, iL_122, iL_144, iL_255, iL_352, iL_440, iL_576, iL_1000, nI_iI, iI_add, iI_sub, iI_mul, iI_neg]
      rw [M_ld2 h, ob_some]
      simp (disch := omega) only [iI_le]
      rw [if_pos (by omega)]
      exact ⟨_, rfl, by rw [hI]⟩) 0 rfl (by omega)
  obtain ⟨b, e1, e2⟩ := key
  unfold f_X8_contents
  have e1' : x_loop (b_X8_contents_4 m so (iI w)) x_fuel ((0 : Int32), (0 : Int32)) = some b := e1
  rw [e1', ob_some]
  exact congrArg some e2
/-- seenOf after paint() -/
def SoOK (so : Nat → Int32) (a : AL) : Prop := ∀ p, p < 12 → so p = iI (cnt a p : Int)
theorem SoOK.K {so : Nat → Int32} (h : SoOK so a) (ha : AOK a) : ∀ p, p < aN a → cnt a (p : Int) ≤ 576 ∧ so p = iI (cnt a (p : Int) : Int) := fun p hp => ⟨cnt_le ha p, h p (by have := ha.b; omega)⟩
theorem M_isContent' (h : MOK m a) (ha : AOK a) {so : Nat → Int32} (hs : SoOK so a) {p : Nat} (hp : p < aN a) : f_X8_isContent m so (iI (p : Int)) = some (bI (con a p = true)) := M_isContent h ha (K := fun p => cnt a p) (hs.K ha) hp
theorem M_contents' (h : MOK m a) (ha : AOK a) {so : Nat → Int32} (hs : SoOK so a) : f_X8_contents m so (iI (-109)) = some (iI (cons a : Int)) := by
  rw [M_contents h ha (K := fun p => cnt a p) (hs.K ha) (w := -109) (by omega)]
  unfold cons
  congr 3
  refine sumN_congr (fun p _ => ?_)
  have : ((p : Int) ≠ -109) := by omega
  simp only [ne_eq, this, not_false_eq_true, true_and]
  rfl
end MP
