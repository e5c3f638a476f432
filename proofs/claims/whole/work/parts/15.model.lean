/-! the reference's changes -/
section MC
variable {m : Nat → Int32} {a : AL}
theorem MOK.eq {m' : Nat → Int32} (h : MOK m a) (ha : aN a ≤ 12) (e : ∀ k, k < 88 → m' k = m k) : MOK m' a :=
  ⟨(e 0 (by omega)).trans h.1, (e 1 (by omega)).trans h.2.1, (e 2 (by omega)).trans h.2.2.1, fun p w hp hw => (e _ (by omega)).trans (h.p hp hw), fun l hl => (e _ (by omega)).trans (h.o hl)⟩
theorem MOK.set (h : MOK m a) {p w : Nat} (hp : p < 12) (hw : w < 6) (v : Int) : MOK (upd m (4 + 6 * p + w) (iI v)) (aSet a p w v) := by
  refine ⟨(upd_ne _ _ (by omega)).trans h.1, (upd_ne _ _ (by omega)).trans h.2.1, (upd_ne _ _ (by omega)).trans h.2.2.1, fun q u hq hu => ?_, fun l hl => (upd_ne _ _ (by omega)).trans (h.o hl)⟩
  rw [aSet_P]
  by_cases e : q = p ∧ u = w
  · rw [if_pos e, e.1, e.2, upd_same]
  · rw [if_neg e, upd_ne _ _ (by omega)]
    exact h.p hq hu
theorem M_isPlace {v : Int} (hv : -2147483648 ≤ v ∧ v < 2147483648) : f_X8_isPlace (iI v) = some (bI (-20 ≤ v ∧ v ≤ 40)) := by
  unfold f_X8_isPlace
  simp only [iL_0, iL_1, iL_2, iL_3, iL_4, iL_5, iL_6, iL_7, iL_8, iL_9, iL_10, iL_11, iL_12, iL_15, iL_16, iL_20, iL_22, iL_24, iL_31, iL_32, iL_40, iL_45, iL_48, iL_57, iL_59, iL_60, iL_63, iL_72, iL_76, iL_88, iL_97, iL_100, iL_101, iL_102, iL_103, iL_109, iL_110, iL_112, iL_114, iL_120, iL_122, iL_144, iL_255, iL_352, iL_440, iL_576, iL_1000, nI_iI, iI_add, iI_sub, iI_mul, iI_neg]
  rw [M_in hv (by omega) (by omega), ob_some, bI_zr, ob_some]
theorem M_isSize {v : Int} (hv : -2147483648 ≤ v ∧ v < 2147483648) : f_X8_isSize (iI v) = some (bI (1 ≤ v ∧ v ≤ 12)) := by
  unfold f_X8_isSize
  simp only [iL_0, iL_1, iL_2, iL_3, iL_4, iL_5, iL_6, iL_7, iL_8, iL_9, iL_10, iL_11, iL_12, iL_15, iL_16, iL_20, iL_22, iL_24, iL_31, iL_32, iL_40, iL_45, iL_48, iL_57, iL_59, iL_60, iL_63, iL_72, iL_76, iL_88, iL_97, iL_100, iL_101, iL_102, iL_103, iL_109, iL_110, iL_112, iL_114, iL_120, iL_122, iL_144, iL_255, iL_352, iL_440, iL_576, iL_1000, nI_iI, iI_add, iI_sub, iI_mul, iI_neg]
  rw [M_in hv (by omega) (by omega), ob_some, bI_zr, ob_some]
theorem M_size {d : Int} (h : -2147483647 ≤ d ∧ d < 2147483648) : f_X8_size (iI d) = some (iI (ab d)) := by
  unfold f_X8_size ab
  simp (disch := omega) only [iL_0, iI_le, iI_neg]
  split <;> rfl
theorem M_isPossible (h : MOK m a) (ha : AOK a) {p : Nat} (hp : p < aN a) {dx dy : Int} (hx : -1000000 ≤ dx ∧ dx ≤ 1000000) (hy : -1000000 ≤ dy ∧ dy ≤ 1000000) : f_X8_isPossible m (iI (p : Int)) (iI dx) (iI dy) = some (bI ((-20 ≤ aP a p 0 + dx ∧ aP a p 0 + dx ≤ 40) ∧ -20 ≤ aP a p 1 + dy ∧ aP a p 1 + dy ≤ 40)) := by
  have hb := ha.b
  have hv := ha.p hp
  unfold f_X8_isPossible
  rw [iL_0, iL_1, M_of0 h (by omega) hp, M_of1 h (by omega) hp, ob_some, ob_some, iI_add, iI_add, M_isPlace (by omega), M_isPlace (by omega), ob_some, ob_some]
  simp only [bI_0]
  unfold bI
  repeat' split
  all_goals first | rfl | (exfalso; omega)
theorem M_shifts (h : MOK m a) (ha : aN a ≤ 12) {p : Nat} (hp : p < aN a) (dx dy : Int) : f_X8_shifts m (iI (p : Int)) (iI dx) (iI dy) = some (upd (upd m (4 + 6 * p + 0) (iI (aP a p 0 + dx))) (4 + 6 * p + 1) (iI (aP a p 1 + dy))) := by
  unfold f_X8_shifts
  simp only [iL_0, iL_1, iL_2, iL_3, iL_4, iL_5, iL_6, iL_7, iL_8, iL_9, iL_10, iL_11, iL_12, iL_15, iL_16, iL_20, iL_22, iL_24, iL_31, iL_32, iL_40, iL_45, iL_48, iL_57, iL_59, iL_60, iL_63, iL_72, iL_76, iL_88, iL_97, iL_100, iL_101, iL_102, iL_103, iL_109, iL_110, iL_112, iL_114, iL_120, iL_122, iL_144, iL_255, iL_352, iL_440, iL_576, iL_1000, nI_iI, iI_add, iI_sub, iI_mul, iI_neg, x_nm_eq]
  rw [x_ldI (j := 4 + 6 * p + 0) (by omega) (by omega) (by omega), ob_some, h.p hp (by omega), iI_add, x_stI (j := 4 + 6 * p + 0) (by omega) (by omega) (by omega), ob_some, x_ldI (j := 4 + 6 * p + 1) (by omega) (by omega) (by omega), ob_some, upd_ne _ _ (by omega), h.p hp (by omega), iI_add, x_stI (j := 4 + 6 * p + 1) (by omega) (by omega) (by omega), ob_some]
theorem M_shifts_ok (h : MOK m a) (ha : aN a ≤ 12) {p : Nat} (hp : p < aN a) (dx dy : Int) : MOK (upd (upd m (4 + 6 * p + 0) (iI (aP a p 0 + dx))) (4 + 6 * p + 1) (iI (aP a p 1 + dy))) (aSh a p dx dy) :=
  (h.set (by omega) (by omega) _).set (by omega) (by omega) _
theorem aSh_back (a : AL) (p : Nat) (dx dy : Int) : aP (aSh a p dx dy) p 0 + -dx = aP a p 0 ∧ aP (aSh a p dx dy) p 1 + -dy = aP a p 1 := by
  rw [aSh_P, aSh_P]
  simp
  omega
theorem M_shifts_back (h : MOK m a) (ha : aN a ≤ 12) {p : Nat} (hp : p < aN a) (dx dy : Int) : f_X8_shifts (upd (upd m (4 + 6 * p + 0) (iI (aP a p 0 + dx))) (4 + 6 * p + 1) (iI (aP a p 1 + dy))) (iI (p : Int)) (iI (-dx)) (iI (-dy)) = some m := by
  rw [M_shifts (M_shifts_ok h ha hp dx dy) ha hp, (aSh_back a p dx dy).1, (aSh_back a p dx dy).2]
  congr 1
  funext k
  by_cases e1 : k = 4 + 6 * p + 1
  · subst e1; rw [upd_same, h.p hp (by omega)]
  · rw [upd_ne _ _ e1]
    by_cases e0 : k = 4 + 6 * p + 0
    · subst e0; rw [upd_same, h.p hp (by omega)]
    · rw [upd_ne _ _ e0, upd_ne _ _ e1, upd_ne _ _ e0]
theorem M_lays (h : MOK m a) (ha : AOK a) {l0 l1 : Nat} (h0 : l0 < aN a) (h1 : l1 < aN a) : ∃ m', f_X8_lays m (iI (aO a l0 : Int)) (iI (l1 : Int)) = some (iI (l0 : Int), m') ∧ MOK m' (aMov a l0 l1) ∧ (∀ k, k < 76 ∨ 76 + aN a ≤ k → m' k = m k) := by
  have hb := ha.b
  have k2 := x_for (B := b_X8_lays_9 (iI (l1 : Int))) (fun i (g : Nat → Int32) => (iI (l0 - i : Int), g)) (fun i g => (∀ k, k < aN a → g (76 + k) = iI ((if l0 - i < k ∧ k ≤ l0 then aO a (k - 1) else aO a k : Nat) : Int)) ∧ ∀ k, k < 76 ∨ 76 + aN a ≤ k → g k = m k) (l0 - l1) (fun b => ∃ z g, b = (z, g) ∧ (∀ k, k < aN a → g (76 + k) = iI ((if l1 < k ∧ k ≤ l0 then aO a (k - 1) else aO a k : Nat) : Int)) ∧ ∀ k, k < 76 ∨ 76 + aN a ≤ k → g k = m k)
    (by
      intro i g hi ⟨hI, hJ⟩
      left
      refine ⟨upd g (76 + (l0 - i)) (iI (aO a (l0 - i - 1) : Int)), ?_, fun k hk => ?_, fun k hk => by rw [upd_ne _ _ (by omega)]; exact hJ k hk⟩
      · rw [b_X8_lays_9]
        simp (disch := omega) only [iL_0, iL_1, iL_2, iL_3, iL_4, iL_5, iL_6, iL_7, iL_8, iL_9, iL_10, iL_11, iL_12, iL_15, iL_16, iL_20, iL_22, iL_24, iL_31, iL_32, iL_40, iL_45, iL_48, iL_57, iL_59, iL_60, iL_63, iL_72, iL_76, iL_88, iL_97, iL_100, iL_101, iL_102, iL_103, iL_109, iL_110, iL_112, iL_114, iL_120, iL_122, iL_144, iL_255, iL_352, iL_440, iL_576, iL_1000, nI_iI, iI_add, iI_sub, iI_mul, iI_neg, iI_le]
        rw [if_neg (by omega), x_ldI (j := 76 + (l0 - i - 1)) (by omega) (by omega) (by omega), ob_some, x_stI (j := 76 + (l0 - i)) (by omega) (by omega) (by omega), ob_some, hI _ (by omega), if_neg (by omega)]
        congr 3 <;> (congr 1; omega)
      · by_cases e : k = l0 - i
        · subst e; rw [upd_same, if_pos (by omega)]
        · rw [upd_ne _ _ (by omega), hI k hk]
          congr 2
          by_cases e2 : l0 - i < k ∧ k ≤ l0
          · rw [if_pos e2, if_pos (by omega)]
          · rw [if_neg e2, if_neg (by omega)])
    (by
      intro g ⟨hI, hJ⟩
      rw [b_X8_lays_9]
      simp (disch := omega) only [iI_le]
      rw [if_pos (by omega)]
      refine ⟨_, rfl, _, g, rfl, fun k hk => ?_, hJ⟩
      rw [hI k hk]
      congr 2
      by_cases e2 : l1 < k ∧ k ≤ l0
      · rw [if_pos e2, if_pos (by omega)]
      · rw [if_neg e2, if_neg (by omega)])
    m ⟨fun k hk => by rw [h.o hk, if_neg (by omega)], fun _ _ => rfl⟩ (by omega)
  obtain ⟨b2, e2, z2, g2, rfl, hg2, hj2⟩ := k2
  have k1 := x_for (B := b_X8_lays_46 (iI (l1 : Int))) (fun i (g : Nat → Int32) => (iI (l0 + i : Int), g)) (fun i g => (∀ k, k < aN a → g (76 + k) = iI ((if l0 ≤ k ∧ k < l0 + i then aO a (k + 1) else if l1 < k ∧ k ≤ l0 then aO a (k - 1) else aO a k : Nat) : Int)) ∧ ∀ k, k < 76 ∨ 76 + aN a ≤ k → g k = m k) (l1 - l0) (fun b => ∃ z g, b = (z, g) ∧ (∀ k, k < aN a → g (76 + k) = iI ((if l0 ≤ k ∧ k < l1 then aO a (k + 1) else if l1 < k ∧ k ≤ l0 then aO a (k - 1) else aO a k : Nat) : Int)) ∧ ∀ k, k < 76 ∨ 76 + aN a ≤ k → g k = m k)
    (by
      intro i g hi ⟨hI, hJ⟩
      left
      refine ⟨upd g (76 + (l0 + i)) (iI (aO a (l0 + i + 1) : Int)), ?_, fun k hk => ?_, fun k hk => by rw [upd_ne _ _ (by omega)]; exact hJ k hk⟩
      · rw [b_X8_lays_46]
        simp (disch := omega) only [iL_0, iL_1, iL_2, iL_3, iL_4, iL_5, iL_6, iL_7, iL_8, iL_9, iL_10, iL_11, iL_12, iL_15, iL_16, iL_20, iL_22, iL_24, iL_31, iL_32, iL_40, iL_45, iL_48, iL_57, iL_59, iL_60, iL_63, iL_72, iL_76, iL_88, iL_97, iL_100, iL_101, iL_102, iL_103, iL_109, iL_110, iL_112, iL_114, iL_120, iL_122, iL_144, iL_255, iL_352, iL_440, iL_576, iL_1000, nI_iI, iI_add, iI_sub, iI_mul, iI_neg, iI_le]
        rw [if_neg (by omega), x_ldI (j := 76 + (l0 + i + 1)) (by omega) (by omega) (by omega), ob_some, x_stI (j := 76 + (l0 + i)) (by omega) (by omega) (by omega), ob_some, hI _ (by omega), if_neg (by omega), if_neg (by omega)]
        congr 3
      · by_cases e : k = l0 + i
        · subst e; rw [upd_same, if_pos (by omega)]
        · rw [upd_ne _ _ (by omega), hI k hk]
          congr 2
          by_cases e2 : l0 ≤ k ∧ k < l0 + i
          · rw [if_pos e2, if_pos (by omega)]
          · rw [if_neg e2, if_neg (show ¬ (l0 ≤ k ∧ k < l0 + (i + 1)) by omega)])
    (by
      intro g ⟨hI, hJ⟩
      rw [b_X8_lays_46]
      simp (disch := omega) only [iI_le]
      rw [if_pos (by omega)]
      refine ⟨_, rfl, _, g, rfl, fun k hk => ?_, hJ⟩
      rw [hI k hk]
      congr 2
      by_cases e2 : l0 ≤ k ∧ k < l1
      · rw [if_pos e2, if_pos (by omega)]
      · rw [if_neg e2, if_neg (by omega)])
    g2 ⟨fun k hk => by rw [hg2 k hk, if_neg (show ¬ (l0 ≤ k ∧ k < l0 + 0) by omega)], hj2⟩ (by omega)
  obtain ⟨b1, e1, z1, g1, rfl, hg1, hj1⟩ := k1
  refine ⟨upd g1 (76 + l1) (iI (aO a l0 : Int)), ?_, ⟨?_, ?_, ?_, fun p w hp hw => ?_, fun k hk => ?_⟩, fun k hk => by rw [upd_ne _ _ (by omega)]; exact hj1 k hk⟩
  · unfold f_X8_lays
    rw [M_layerOf h ha h0, ob_some]
    have e2' : x_loop (b_X8_lays_9 (iI (l1 : Int))) x_fuel (iI (l0 : Int), m) = some (z2, g2) := by
      rw [← e2]; congr 2 <;> (congr 1; omega)
    have e1' : x_loop (b_X8_lays_46 (iI (l1 : Int))) x_fuel (iI (l0 : Int), g2) = some (z1, g1) := by
      rw [← e1]; congr 2 <;> (congr 1; omega)
    rw [e2', ob_some]
    dsimp only
    rw [e1', ob_some]
    dsimp only
    simp only [iL_0, iL_1, iL_2, iL_3, iL_4, iL_5, iL_6, iL_7, iL_8, iL_9, iL_10, iL_11, iL_12, iL_15, iL_16, iL_20, iL_22, iL_24, iL_31, iL_32, iL_40, iL_45, iL_48, iL_57, iL_59, iL_60, iL_63, iL_72, iL_76, iL_88, iL_97, iL_100, iL_101, iL_102, iL_103, iL_109, iL_110, iL_112, iL_114, iL_120, iL_122, iL_144, iL_255, iL_352, iL_440, iL_576, iL_1000, nI_iI, iI_add, iI_sub, iI_mul, iI_neg]
    rw [x_stI (j := 76 + l1) (by omega) (by omega) (by omega), ob_some]
  · exact (upd_ne _ _ (by omega)).trans ((hj1 0 (by omega)).trans h.1)
  · exact (upd_ne _ _ (by omega)).trans ((hj1 1 (by omega)).trans h.2.1)
  · exact (upd_ne _ _ (by omega)).trans ((hj1 2 (by omega)).trans h.2.2.1)
  · have hp : p < aN a := hp
    exact (upd_ne _ _ (by omega)).trans ((hj1 _ (by omega)).trans (h.p hp hw))
  · show upd g1 (76 + l1) _ (76 + k) = iI (mvO (aO a) l0 l1 k : Int)
    have hk : k < aN a := hk
    unfold mvO
    by_cases e : k = l1
    · subst e; rw [upd_same, if_pos rfl]
    · rw [upd_ne _ _ (by omega), if_neg e]
      exact hg1 k hk
theorem M_adds (h : MOK m a) (ha : aN a < 12) (v : Nat → Int) : ∃ m', f_X8_adds m (iI (v 0)) (iI (v 1)) (iI (v 2)) (iI (v 3)) (iI (v 4)) (iI (v 5)) = some m' ∧ MOK m' (aAdd a v) ∧ m' 3 = m 3 := by
  refine ⟨upd (upd (upd (upd (upd (upd (upd (upd m (4 + 6 * aN a + 0) (iI (v 0))) (4 + 6 * aN a + 1) (iI (v 1))) (4 + 6 * aN a + 2) (iI (v 2))) (4 + 6 * aN a + 3) (iI (v 3))) (4 + 6 * aN a + 4) (iI (v 4))) (4 + 6 * aN a + 5) (iI (v 5))) (76 + aN a) (iI (aN a : Int))) 2 (iI ((aN a + 1 : Nat) : Int)), ?_, ⟨?_, ?_, ?_, fun q u hq hu => ?_, fun l hl => ?_⟩, ?_⟩
  · unfold f_X8_adds
    simp only [iL_0, iL_1, iL_2, iL_3, iL_4, iL_5, iL_6, iL_7, iL_8, iL_9, iL_10, iL_11, iL_12, iL_15, iL_16, iL_20, iL_22, iL_24, iL_31, iL_32, iL_40, iL_45, iL_48, iL_57, iL_59, iL_60, iL_63, iL_72, iL_76, iL_88, iL_97, iL_100, iL_101, iL_102, iL_103, iL_109, iL_110, iL_112, iL_114, iL_120, iL_122, iL_144, iL_255, iL_352, iL_440, iL_576, iL_1000, nI_iI, iI_add, iI_sub, iI_mul, iI_neg, x_nm_eq]
    rw [M_ld2 h, ob_some]
    simp only [iL_0, iL_1, iL_2, iL_3, iL_4, iL_5, iL_6, iL_7, iL_8, iL_9, iL_10, iL_11, iL_12, iL_15, iL_16, iL_20, iL_22, iL_24, iL_31, iL_32, iL_40, iL_45, iL_48, iL_57, iL_59, iL_60, iL_63, iL_72, iL_76, iL_88, iL_97, iL_100, iL_101, iL_102, iL_103, iL_109, iL_110, iL_112, iL_114, iL_120, iL_122, iL_144, iL_255, iL_352, iL_440, iL_576, iL_1000, nI_iI, iI_add, iI_sub, iI_mul, iI_neg]
    rw [x_stI (j := 4 + 6 * aN a + 0) (by omega) (by omega) (by omega), ob_some, x_stI (j := 4 + 6 * aN a + 1) (by omega) (by omega) (by omega), ob_some, x_stI (j := 4 + 6 * aN a + 2) (by omega) (by omega) (by omega), ob_some, x_stI (j := 4 + 6 * aN a + 3) (by omega) (by omega) (by omega), ob_some, x_stI (j := 4 + 6 * aN a + 4) (by omega) (by omega) (by omega), ob_some, x_stI (j := 4 + 6 * aN a + 5) (by omega) (by omega) (by omega), ob_some]
    rw [x_ldI (j := 2) (by omega) (by omega) (by omega), ob_some, ob_some]
    simp (disch := omega) only [upd_ne, h.n, iI_add]
    rw [x_stI (j := 76 + aN a) (by omega) (by omega) (by omega), ob_some, x_ldI (j := 2) (by omega) (by omega) (by omega), ob_some]
    simp (disch := omega) only [upd_ne, h.n, iI_add]
    rw [x_stI (j := 2) (by omega) (by omega) (by omega), ob_some]
    rfl
  · simp (disch := omega) only [upd_ne]; exact h.1
  · simp (disch := omega) only [upd_ne]; exact h.2.1
  · rw [upd_same]; rfl
  · have hq : q < aN a + 1 := hq
    show _ = iI (if q = aN a then v u else aP a q u)
    by_cases e : q = aN a
    · subst e
      rw [if_pos rfl]
      rcases (show u = 0 ∨ u = 1 ∨ u = 2 ∨ u = 3 ∨ u = 4 ∨ u = 5 by omega) with rfl | rfl | rfl | rfl | rfl | rfl
      all_goals simp (disch := omega) only [upd_ne, upd_same]
    · rw [if_neg e]
      simp (disch := omega) only [upd_ne]
      exact h.p (by omega) hu
  · have hl : l < aN a + 1 := hl
    show _ = iI ((if l = aN a then aN a else aO a l : Nat) : Int)
    by_cases e : l = aN a
    · subst e
      rw [if_pos rfl]
      simp (disch := omega) only [upd_ne, upd_same]
    · rw [if_neg e]
      simp (disch := omega) only [upd_ne]
      exact h.o (by omega)
  · simp (disch := omega) only [upd_ne]
end MC
