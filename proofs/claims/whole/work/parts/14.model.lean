/-! the reference: its row of numbers m -/
def MOK (m : Nat → Int32) (a : AL) : Prop :=
  m 0 = iI (aC a : Int) ∧ m 1 = iI (aR a : Int) ∧ m 2 = iI (aN a : Int) ∧ (∀ p w, p < aN a → w < 6 → m (4 + 6 * p + w) = iI (aP a p w)) ∧ ∀ l, l < aN a → m (76 + l) = iI (aO a l : Int)
section MO
variable {m : Nat → Int32} {a : AL}
theorem MOK.c (h : MOK m a) : m 0 = iI (aC a : Int) := h.1
theorem MOK.r (h : MOK m a) : m 1 = iI (aR a : Int) := h.2.1
theorem MOK.n (h : MOK m a) : m 2 = iI (aN a : Int) := h.2.2.1
theorem MOK.p (h : MOK m a) {p w : Nat} (hp : p < aN a) (hw : w < 6) : m (4 + 6 * p + w) = iI (aP a p w) := h.2.2.2.1 p w hp hw
theorem MOK.o (h : MOK m a) {l : Nat} (hl : l < aN a) : m (76 + l) = iI (aO a l : Int) := h.2.2.2.2 l hl
theorem M_ld0 (h : MOK m a) : x_ld 88 m (iI 0) = some (iI (aC a : Int)) := by rw [x_ldI (j := 0) (by omega) (by omega) (by omega), h.c]
theorem M_ld1 (h : MOK m a) : x_ld 88 m (iI 1) = some (iI (aR a : Int)) := by rw [x_ldI (j := 1) (by omega) (by omega) (by omega), h.r]
theorem M_ld2 (h : MOK m a) : x_ld 88 m (iI 2) = some (iI (aN a : Int)) := by rw [x_ldI (j := 2) (by omega) (by omega) (by omega), h.n]
theorem M_ldO (h : MOK m a) (ha : aN a ≤ 12) {l : Nat} {k : Int} (hl : l < aN a) (hk : k = 76 + (l : Int)) : x_ld 88 m (iI k) = some (iI (aO a l : Int)) := by
  rw [x_ldI (j := 76 + l) (by omega) (by omega) (by omega), h.o hl]
theorem M_in {x lo hi : Int} (h1 : -2147483648 ≤ x ∧ x < 2147483648) (h2 : -2147483648 ≤ lo ∧ lo < 2147483648) (h3 : -2147483648 ≤ hi ∧ hi < 2147483648) : f_X8_in (iI x) (iI lo) (iI hi) = some (bI (lo ≤ x ∧ x ≤ hi)) := F_isWithin h1 h2 h3
theorem M_of (h : MOK m a) (ha : aN a ≤ 12) {p w : Nat} {wi : Int} (hp : p < aN a) (hw : w < 6) (e : wi = (w : Int)) : f_X8_of m (iI (p : Int)) (iI wi) = some (iI (aP a p w)) := by
  subst e
  unfold f_X8_of
  simp only [iL_0, iL_1, iL_2, iL_3, iL_4, iL_5, iL_6, iL_7, iL_8, iL_9, iL_10, iL_11, iL_12, iL_15, iL_16, iL_20, iL_22, iL_24, iL_31, iL_32, iL_40, iL_45, iL_48, iL_57, iL_59, iL_60, iL_63, iL_72, iL_76, iL_88, iL_97, iL_100, iL_101, iL_102, iL_103, iL_109, iL_110, iL_112, iL_114, iL_120, iL_122, iL_144, iL_255, iL_352, iL_440, iL_576, iL_1000, nI_iI, iI_add, iI_sub, iI_mul, iI_neg]
  rw [x_ldI (j := 4 + 6 * p + w) (by omega) (by omega) (by omega), ob_some, h.p hp hw]
theorem M_of0 (h : MOK m a) (ha : aN a ≤ 12) {p : Nat} (hp : p < aN a) : f_X8_of m (iI (p : Int)) (iI 0) = some (iI (aP a p 0)) := M_of h ha hp (by omega) (by omega)
theorem M_of1 (h : MOK m a) (ha : aN a ≤ 12) {p : Nat} (hp : p < aN a) : f_X8_of m (iI (p : Int)) (iI 1) = some (iI (aP a p 1)) := M_of h ha hp (by omega) (by omega)
theorem M_of2 (h : MOK m a) (ha : aN a ≤ 12) {p : Nat} (hp : p < aN a) : f_X8_of m (iI (p : Int)) (iI 2) = some (iI (aP a p 2)) := M_of h ha hp (by omega) (by omega)
theorem M_of3 (h : MOK m a) (ha : aN a ≤ 12) {p : Nat} (hp : p < aN a) : f_X8_of m (iI (p : Int)) (iI 3) = some (iI (aP a p 3)) := M_of h ha hp (by omega) (by omega)
theorem M_of4 (h : MOK m a) (ha : aN a ≤ 12) {p : Nat} (hp : p < aN a) : f_X8_of m (iI (p : Int)) (iI 4) = some (iI (aP a p 4)) := M_of h ha hp (by omega) (by omega)
theorem M_of5 (h : MOK m a) (ha : aN a ≤ 12) {p : Nat} (hp : p < aN a) : f_X8_of m (iI (p : Int)) (iI 5) = some (iI (aP a p 5)) := M_of h ha hp (by omega) (by omega)
theorem M_isPiece (h : MOK m a) (ha : aN a ≤ 12) {x : Int} (hx : -2147483648 ≤ x ∧ x < 2147483648) : f_X8_isPiece m (iI x) = some (bI (0 ≤ x ∧ x < aN a)) := by
  unfold f_X8_isPiece
  simp only [iL_0, iL_1, iL_2, iL_3, iL_4, iL_5, iL_6, iL_7, iL_8, iL_9, iL_10, iL_11, iL_12, iL_15, iL_16, iL_20, iL_22, iL_24, iL_31, iL_32, iL_40, iL_45, iL_48, iL_57, iL_59, iL_60, iL_63, iL_72, iL_76, iL_88, iL_97, iL_100, iL_101, iL_102, iL_103, iL_109, iL_110, iL_112, iL_114, iL_120, iL_122, iL_144, iL_255, iL_352, iL_440, iL_576, iL_1000, nI_iI, iI_add, iI_sub, iI_mul, iI_neg]
  rw [M_ld2 h, ob_some, iI_sub, M_in hx (by omega) (by omega), ob_some, bI_zr, ob_some]
  exact congrArg some (bI_c (by omega))
theorem M_area (h : MOK m a) (ha : aN a ≤ 12) {p : Nat} (hp : p < aN a) : f_X8_area m (iI (p : Int)) = some (iI (aP a p 2 * aP a p 3)) := by
  unfold f_X8_area
  rw [iL_2, iL_3, M_of2 h ha hp, M_of3 h ha hp, ob_some, ob_some, iI_mul]
theorem M_layerOf (h : MOK m a) (ha : AOK a) {l : Nat} (hl : l < aN a) : f_X8_layerOf m (iI (aO a l : Int)) = some (iI (l : Int)) := by
  have hb := ha.b
  have key := x_for (B := b_X8_layerOf_4 m (iI (aO a l : Int))) (fun i (f : Nat) => (iI (f : Int), iI (i : Int))) (fun i f => l < i → f = l) (aN a) (fun b => b.1 = iI (l : Int))
    (by
      intro i f hi hI
      left
      have h1 := ha.o hi
      have h2 := ha.o hl
      refine ⟨if i = l then i else f, ?_, fun q => ?_⟩
      · rw [b_X8_layerOf_4]
        simp only [iL_0, iL_1, iL_2, iL_3, iL_4, iL_5, iL_6, iL_7, iL_8, iL_9, iL_10, iL_11, iL_12, iL_15, iL_16, iL_20, iL_22, iL_24, iL_31, iL_32, iL_40, iL_45, iL_48, iL_57, iL_59, iL_60, iL_63, iL_72, iL_76, iL_88, iL_97, iL_100, iL_101, iL_102, iL_103, iL_109, iL_110, iL_112, iL_114, iL_120, iL_122, iL_144, iL_255, iL_352, iL_440, iL_576, iL_1000, nI_iI, iI_add, iI_sub, iI_mul, iI_neg]
        rw [M_ld2 h, ob_some, M_ldO h (by omega) hi rfl, ob_some]
        simp (disch := omega) only [iI_le, iI_eq]
        rw [if_neg (by omega)]
        by_cases e : i = l
        · subst e; rw [if_pos rfl, if_pos rfl]; rfl
        · rw [if_neg (fun q => e (ha.inj hi hl (by omega))), if_neg e]; rfl
      · by_cases e : i = l
        · rw [if_pos e, e]
        · rw [if_neg e]; exact hI (by omega))
    (by
      intro f hI
      rw [b_X8_layerOf_4]
      simp only [iL_0, iL_1, iL_2, iL_3, iL_4, iL_5, iL_6, iL_7, iL_8, iL_9, iL_10, iL_11, iL_12, iL_15, iL_16, iL_20, iL_22, iL_24, iL_31, iL_32, iL_40, iL_45, iL_48, iL_57, iL_59, iL_60, iL_63, iL_72, iL_76, iL_88, iL_97, iL_100, iL_101, iL_102, iL_103, iL_109, iL_110, iL_112, iL_114, iL_120, iL_122, iL_144, iL_255, iL_352, iL_440, iL_576, iL_1000, nI_iI, iI_add, iI_sub, iI_mul, iI_neg]
      rw [M_ld2 h, ob_some]
      simp (disch := omega) only [iI_le]
      rw [if_pos (by omega)]
      exact ⟨_, rfl, by rw [hI hl]⟩) 0 (fun q => by omega) (by omega)
  obtain ⟨b, e1, e2⟩ := key
  unfold f_X8_layerOf
  have e1' : x_loop (b_X8_layerOf_4 m (iI (aO a l : Int))) x_fuel ((0 : Int32), (0 : Int32)) = some b := e1
  rw [e1', ob_some]
  exact congrArg some e2
theorem M_covers (h : MOK m a) (ha : AOK a) {p : Nat} (hp : p < aN a) {x y : Int} (hx : -1000 ≤ x ∧ x ≤ 1000) (hy : -1000 ≤ y ∧ y ≤ 1000) : f_X8_covers m (iI (p : Int)) (iI x) (iI y) = some (bI (cov a p x y = true)) := by
  have hb := ha.b
  have hv := ha.p hp
  unfold f_X8_covers
  rw [iL_0, iL_1, iL_2, iL_3, M_of0 h (by omega) hp, M_of1 h (by omega) hp, M_of2 h (by omega) hp, M_of3 h (by omega) hp]
  simp only [ob_some, iI_sub]
  rw [M_in (by omega) (by omega) (by omega), M_in (by omega) (by omega) (by omega)]
  simp only [ob_some, bI_0]
  unfold bI
  simp only [cov_iff]
  repeat' split
  all_goals first | rfl | (exfalso; omega)
/-- a cell's place in 'shown' -/
theorem cell_lt {c r x y : Nat} (hc : c ≤ 24) (hr : r ≤ 24) (hx : x < c) (hy : y < r) : c * y + x < 576 ∧ c * y + x < c * r := by
  have h1 : c * (y + 1) ≤ c * r := Nat.mul_le_mul_left c hy
  have h2 : c * r ≤ 24 * 24 := Nat.mul_le_mul hc hr
  rw [Nat.mul_add, Nat.mul_one] at h1
  omega
theorem cell_inj {c x y x' y' : Nat} (hx : x < c) (hx' : x' < c) (e : c * y + x = c * y' + x') : x = x' ∧ y = y' := by
  have h1 : (c * y + x) % c = x := by rw [Nat.mul_add_mod_self_left, Nat.mod_eq_of_lt hx]
  have h2 : (c * y' + x') % c = x' := by rw [Nat.mul_add_mod_self_left, Nat.mod_eq_of_lt hx']
  have h3 : (c * y + x) / c = y := by rw [Nat.mul_add_div (by omega), Nat.div_eq_of_lt hx, Nat.add_zero]
  have h4 : (c * y' + x') / c = y' := by rw [Nat.mul_add_div (by omega), Nat.div_eq_of_lt hx', Nat.add_zero]
  rw [e] at h1 h3
  exact ⟨h1.symm.trans h2, h3.symm.trans h4⟩
theorem M_paintPiece (h : MOK m a) (ha : AOK a) {p : Nat} (hp : p < aN a) (sh : Nat → Int32) : ∃ sh', f_X8_paintPiece m sh (iI (p : Int)) = some sh' ∧ ∀ x y : Nat, x < aC a → y < aR a → sh' (aC a * y + x) = if cov a p x y = true then iI (p : Int) else sh (aC a * y + x) := by
  have hb := ha.b
  have hv := ha.p hp
  obtain ⟨L, hL⟩ : ∃ L : Nat, L = (aP a p 0).toNat := ⟨_, rfl⟩
  obtain ⟨U, hU⟩ : ∃ U : Nat, U = (aP a p 1).toNat := ⟨_, rfl⟩
  obtain ⟨Rt, hRt⟩ : ∃ Rt : Int, Rt = min (aP a p 0 + aP a p 2) (aC a : Int) := ⟨_, rfl⟩
  obtain ⟨Dn, hDn⟩ : ∃ Dn : Int, Dn = min (aP a p 1 + aP a p 3) (aR a : Int) := ⟨_, rfl⟩
  -- a row
  have inner : ∀ (g : Nat → Int32) (row : Nat), row < aR a → ∃ z g', x_loop (b_X8_paintPiece_145 m (iI (p : Int)) (iI Rt) (iI (row : Int))) x_fuel (iI (L : Int), g) = some (z, g') ∧ ∀ x y : Nat, x < aC a → y < aR a → g' (aC a * y + x) = if y = row ∧ L ≤ x ∧ (x : Int) < Rt then iI (p : Int) else g (aC a * y + x) := by
    intro g row hrow
    have key := x_for (B := b_X8_paintPiece_145 m (iI (p : Int)) (iI Rt) (iI (row : Int))) (fun i (g' : Nat → Int32) => (iI (L + i : Int), g')) (fun i g' => ∀ x y : Nat, x < aC a → y < aR a → g' (aC a * y + x) = if y = row ∧ L ≤ x ∧ x < L + i then iI (p : Int) else g (aC a * y + x)) (Rt - L).toNat (fun b => ∃ z g', b = (z, g') ∧ ∀ x y : Nat, x < aC a → y < aR a → g' (aC a * y + x) = if y = row ∧ L ≤ x ∧ (x : Int) < Rt then iI (p : Int) else g (aC a * y + x))
      (by
        intro i g' hi hI
        left
        have hx0 : L + i < aC a := by omega
        have hcl := cell_lt (c := aC a) (r := aR a) (by omega) (by omega) hx0 hrow
        refine ⟨upd g' (aC a * row + (L + i)) (iI (p : Int)), ?_, fun x y hx hy => ?_⟩
        · rw [b_X8_paintPiece_145]
          simp only [iL_0, iL_1, iL_2, iL_3, iL_4, iL_5, iL_6, iL_7, iL_8, iL_9, iL_10, iL_11, iL_12, iL_15, iL_16, iL_20, iL_22, iL_24, iL_31, iL_32, iL_40, iL_45, iL_48, iL_57, iL_59, iL_60, iL_63, iL_72, iL_76, iL_88, iL_97, iL_100, iL_101, iL_102, iL_103, iL_109, iL_110, iL_112, iL_114, iL_120, iL_122, iL_144, iL_255, iL_352, iL_440, iL_576, iL_1000, nI_iI, iI_add, iI_sub, iI_mul, iI_neg]
          simp (disch := omega) only [iI_le]
          rw [if_neg (by omega), M_ld0 h, ob_some, iI_mul, iI_add, x_stI (j := aC a * row + (L + i)) (by push_cast; omega) hcl.1 (by omega), ob_some]
          congr 3
        · by_cases e : y = row ∧ x = L + i
          · obtain ⟨rfl, rfl⟩ := e
            rw [upd_same, if_pos (by omega)]
          · have hne : aC a * y + x ≠ aC a * row + (L + i) := fun q => e (by have := cell_inj hx hx0 q; omega)
            rw [upd_ne _ _ hne, hI x y hx hy]
            by_cases e2 : y = row ∧ L ≤ x ∧ x < L + i
            · rw [if_pos e2, if_pos (by omega)]
            · rw [if_neg e2, if_neg (by omega)])
      (by
        intro g' hI
        rw [b_X8_paintPiece_145]
        simp (disch := omega) only [iI_le]
        rw [if_pos (by omega)]
        refine ⟨_, rfl, _, g', rfl, fun x y hx hy => ?_⟩
        rw [hI x y hx hy]
        by_cases e2 : y = row ∧ L ≤ x ∧ (x : Int) < Rt
        · rw [if_pos e2, if_pos (by omega)]
        · rw [if_neg e2, if_neg (by omega)])
      g (fun x y hx hy => by rw [if_neg (by omega)]) (by omega)
    obtain ⟨b, e1, z, g', rfl, hg⟩ := key
    have e1' : x_loop (b_X8_paintPiece_145 m (iI (p : Int)) (iI Rt) (iI (row : Int))) x_fuel (iI (L : Int), g) = some (z, g') := by
      rw [← e1]; congr 2 <;> (congr 1; omega)
    exact ⟨z, g', e1', hg⟩
  have key := x_for (B := b_X8_paintPiece_135 m (iI (p : Int)) (iI Dn) (iI (L : Int)) (iI Rt)) (fun i (g' : Nat → Int32) => (iI (U + i : Int), g')) (fun i g' => ∀ x y : Nat, x < aC a → y < aR a → g' (aC a * y + x) = if (U ≤ y ∧ y < U + i) ∧ L ≤ x ∧ (x : Int) < Rt then iI (p : Int) else sh (aC a * y + x)) (Dn - U).toNat (fun b => ∃ z g', b = (z, g') ∧ ∀ x y : Nat, x < aC a → y < aR a → g' (aC a * y + x) = if (U ≤ y ∧ (y : Int) < Dn) ∧ L ≤ x ∧ (x : Int) < Rt then iI (p : Int) else sh (aC a * y + x))
    (by
      intro i g hi hI
      left
      obtain ⟨z, g', e1, hg⟩ := inner g (U + i) (by omega)
      refine ⟨g', ?_, fun x y hx hy => ?_⟩
      · rw [b_X8_paintPiece_135]
        simp (disch := omega) only [iI_le]
        rw [if_neg (by omega), show iI ((U : Int) + i) = iI ((U + i : Nat) : Int) by congr 1, e1, ob_some]
        dsimp only
        rw [iL_1, iI_add]
        congr 3
      · rw [hg x y hx hy, hI x y hx hy]
        by_cases e : y = U + i ∧ L ≤ x ∧ (x : Int) < Rt
        · rw [if_pos e, if_pos (by omega)]
        · rw [if_neg e]
          by_cases e2 : (U ≤ y ∧ y < U + i) ∧ L ≤ x ∧ (x : Int) < Rt
          · rw [if_pos e2, if_pos (by omega)]
          · rw [if_neg e2, if_neg (by omega)])
    (by
      intro g hI
      rw [b_X8_paintPiece_135]
      simp (disch := omega) only [iI_le]
      rw [if_pos (by omega)]
      refine ⟨_, rfl, _, g, rfl, fun x y hx hy => ?_⟩
      rw [hI x y hx hy]
      by_cases e2 : (U ≤ y ∧ (y : Int) < Dn) ∧ L ≤ x ∧ (x : Int) < Rt
      · rw [if_pos e2, if_pos (by omega)]
      · rw [if_neg e2, if_neg (by omega)])
    sh (fun x y hx hy => by rw [if_neg (by omega)]) (by omega)
  obtain ⟨b, e1, z, g, rfl, hg⟩ := key
  refine ⟨g, ?_, fun x y hx hy => ?_⟩
  · unfold f_X8_paintPiece
    simp only [iL_0, iL_1, iL_2, iL_3]
    rw [M_of0 h (by omega) hp, M_of1 h (by omega) hp, M_of2 h (by omega) hp, M_of3 h (by omega) hp, M_ld0 h, M_ld1 h]
    simp (disch := omega) only [ob_some, iI_add, iI_le]
    have d1 : (if 0 ≤ aP a p 0 then some (iI (aP a p 0)) else some (iI 0)) = some (iI (L : Int)) := by
      split
      · congr 2; omega
      · congr 2; omega
    have d2 : (if 0 ≤ aP a p 1 then some (iI (aP a p 1)) else some (iI 0)) = some (iI (U : Int)) := by
      split
      · congr 2; omega
      · congr 2; omega
    have d3 : (if (aC a : Int) ≤ aP a p 0 + aP a p 2 then some (iI (aC a : Int)) else some (iI (aP a p 0 + aP a p 2))) = some (iI Rt) := by
      split
      · congr 2; omega
      · congr 2; omega
    have d4 : (if (aR a : Int) ≤ aP a p 1 + aP a p 3 then some (iI (aR a : Int)) else some (iI (aP a p 1 + aP a p 3))) = some (iI Dn) := by
      split
      · congr 2; omega
      · congr 2; omega
    rw [d1, ob_some, d2, ob_some, d3, ob_some, d4, ob_some]
    have e1' : x_loop (b_X8_paintPiece_135 m (iI (p : Int)) (iI Dn) (iI (L : Int)) (iI Rt)) x_fuel (iI (U : Int), sh) = some (z, g) := by
      rw [← e1]; congr 2 <;> (congr 1; omega)
    rw [e1', ob_some]
  · rw [hg x y hx hy]
    by_cases e : cov a p x y = true
    · have := cov_iff.mp e
      rw [if_pos e, if_pos (by omega)]
    · rw [if_neg e, if_neg (fun q => e (cov_iff.mpr (by omega)))]
end MO
