/-! a piece comes, a piece goes -/
def aAdd (a : AL) (v : Nat → Int) : AL := ((aC a, aR a, aN a + 1), fun q u => if q = aN a then v u else aP a q u, fun l => if l = aN a then aN a else aO a l)
theorem aAdd_AOK {a : AL} (ha : AOK a) (hn : aN a < 12) {v : Nat → Int} (hv : PV v) : AOK (aAdd a v) := by
  refine ⟨⟨ha.1.1, ha.1.2.1, ha.1.2.2.1, ha.1.2.2.2.1, hn⟩, fun q hq => ?_, fun l hl => ?_, fun l l' hl hl' e => ?_, fun p hp => ?_⟩
  · show PV (fun u => if q = aN a then v u else aP a q u)
    by_cases e : q = aN a
    · simp only [e, if_pos]; exact hv
    · simp only [e, if_neg, not_false_eq_true]
      have hq : q < aN a + 1 := hq
      exact ha.2.1 q (by omega)
  · have hl : l < aN a + 1 := hl
    show (if l = aN a then aN a else aO a l) < aN a + 1
    split
    · omega
    · have := ha.o (l := l) (by omega); omega
  · have hl : l < aN a + 1 := hl
    have hl' : l' < aN a + 1 := hl'
    have e : (if l = aN a then aN a else aO a l) = (if l' = aN a then aN a else aO a l') := e
    by_cases h1 : l = aN a
    · by_cases h2 : l' = aN a
      · omega
      · rw [if_pos h1, if_neg h2] at e
        have := ha.o (l := l') (by omega); omega
    · by_cases h2 : l' = aN a
      · rw [if_neg h1, if_pos h2] at e
        have := ha.o (l := l) (by omega); omega
      · rw [if_neg h1, if_neg h2] at e
        exact ha.inj (by omega) (by omega) e
  · have hp : p < aN a + 1 := hp
    by_cases h1 : p = aN a
    · exact ⟨aN a, Nat.lt_succ_self _, by show (if aN a = aN a then aN a else _) = p; rw [if_pos rfl, h1]⟩
    · obtain ⟨l, hl, e⟩ := ha.sur (p := p) (by omega)
      exact ⟨l, Nat.lt_succ_of_lt hl, by show (if l = aN a then aN a else aO a l) = p; rw [if_neg (by omega), e]⟩
theorem L_addBlank {s : LyS} {a : AL} (h : LOK s a) (hn : aN a < 12) : ∃ s', f_X1_addBlank s = some (iI (aN a : Int), s') ∧ LOK s' (aAdd a (fun _ => 0)) ∧ L_cost s' = L_cost s := by
  have key := x_for (B := b_X1_addBlank_7 s) (fun i (g : Nat → Int32) => (iI (i : Int), L_set_props s g)) (fun i g => ∀ k, g k = if 6 * aN a ≤ k ∧ k < 6 * aN a + i then iI 0 else L_props s k) 6 (fun b => ∃ z g, b = (z, L_set_props s g) ∧ ∀ k, g k = if 6 * aN a ≤ k ∧ k < 6 * aN a + 6 then iI 0 else L_props s k)
    (by
      intro i g hi hI
      left
      refine ⟨upd g (6 * aN a + i) (iI 0), ?_, fun k => ?_⟩
      · rw [b_X1_addBlank_7, h.n]
        unfold f_X1_set
        rw [gs_L_props_props]
        simp (disch := omega) only [iL_0, iL_1, iL_2, iL_3, iL_4, iL_5, iL_6, iL_7, iL_8, iL_9, iL_10, iL_11, iL_12, iL_15, iL_16, iL_20, iL_22, iL_24, iL_31, iL_32, iL_40, iL_45, iL_48, iL_57, iL_59, iL_60, iL_63, iL_72, iL_76, iL_88, iL_97, iL_100, iL_101, iL_102, iL_103, iL_109, iL_110, iL_112, iL_114, iL_120, iL_122, iL_144, iL_255, iL_352, iL_440, iL_576, iL_1000, nI_iI, iI_add, iI_sub, iI_mul, iI_neg, iI_le]
        rw [if_neg (by omega), F_put (j := 6 * aN a + i) _ (by omega) (by omega) (by omega), ob_some, ob_some]
        congr 3
      · by_cases e : k = 6 * aN a + i
        · subst e; rw [upd_same, if_pos (by omega)]
        · rw [upd_ne _ _ e, hI k]
          by_cases e2 : 6 * aN a ≤ k ∧ k < 6 * aN a + i
          · rw [if_pos e2, if_pos (by omega)]
          · rw [if_neg e2, if_neg (by omega)])
    (by
      intro g hI
      rw [b_X1_addBlank_7]
      simp (disch := omega) only [iL_0, iL_1, iL_2, iL_3, iL_4, iL_5, iL_6, iL_7, iL_8, iL_9, iL_10, iL_11, iL_12, iL_15, iL_16, iL_20, iL_22, iL_24, iL_31, iL_32, iL_40, iL_45, iL_48, iL_57, iL_59, iL_60, iL_63, iL_72, iL_76, iL_88, iL_97, iL_100, iL_101, iL_102, iL_103, iL_109, iL_110, iL_112, iL_114, iL_120, iL_122, iL_144, iL_255, iL_352, iL_440, iL_576, iL_1000, nI_iI, iI_add, iI_sub, iI_mul, iI_neg, iI_le]
      rw [if_pos (by omega)]
      exact ⟨_, rfl, _, g, rfl, hI⟩)
    (L_props s) (fun k => by rw [if_neg (by omega)]) (by omega)
  obtain ⟨b, e1, z, g, rfl, hg⟩ := key
  refine ⟨L_set_n (L_set_order (L_set_props s g) (upd (L_order s) (aN a) (iI (aN a : Int)))) (iI ((aN a + 1 : Nat) : Int)), ?_, ⟨h.1, h.2.1, rfl, fun q u hq hu => ?_, fun l hl => ?_⟩, rfl⟩
  · unfold f_X1_addBlank
    have e1' : x_loop (b_X1_addBlank_7 s) x_fuel ((0 : Int32), s) = some (z, L_set_props s g) := e1
    rw [e1', ob_some]
    dsimp only
    rw [h.n, gs_L_order_props, F_put _ rfl hn (by omega), ob_some, x_nm_eq, gs_L_n_props, h.n, iL_1, iI_add]
    rfl
  · have hq : q < aN a + 1 := hq
    show g (6 * q + u) = iI (if q = aN a then 0 else aP a q u)
    rw [hg]
    by_cases e : q = aN a
    · rw [if_pos (by omega), if_pos e]
    · rw [if_neg (by omega), if_neg e]
      exact h.p (by omega) hu
  · have hl : l < aN a + 1 := hl
    show upd (L_order s) (aN a) (iI (aN a : Int)) l = iI ((if l = aN a then aN a else aO a l : Nat) : Int)
    by_cases e : l = aN a
    · rw [e, upd_same, if_pos rfl]
    · rw [upd_ne _ _ e, if_neg e]
      exact h.o (by omega)
def dec (p q : Nat) : Nat := if p < q then q - 1 else q
theorem dec_lt {p q n : Nat} (h : q ≠ p) (h1 : q < n) (h2 : p < n) : dec p q < n - 1 := by
  unfold dec
  split <;> omega
theorem dec_inj {p q q' : Nat} (h : q ≠ p) (h' : q' ≠ p) (e : dec p q = dec p q') : q = q' := by
  unfold dec at e
  by_cases c : p < q
  · rw [if_pos c] at e
    by_cases c' : p < q'
    · rw [if_pos c'] at e; omega
    · rw [if_neg c'] at e; omega
  · rw [if_neg c] at e
    by_cases c' : p < q'
    · rw [if_pos c'] at e; omega
    · rw [if_neg c'] at e; omega
def aRem (a : AL) (l0 : Nat) : AL := ((aC a, aR a, aN a - 1), fun q u => if q < aO a l0 then aP a q u else aP a (q + 1) u, fun l => dec (aO a l0) (aO a (if l < l0 then l else l + 1)))
theorem aRem_AOK {a : AL} (ha : AOK a) {l0 : Nat} (h0 : l0 < aN a) : AOK (aRem a l0) := by
  have hp0 := ha.o h0
  have ne : ∀ l, l < aN a - 1 → aO a (if l < l0 then l else l + 1) ≠ aO a l0 := fun l hl e => by
    have := ha.inj (l := if l < l0 then l else l + 1) (by split <;> omega) h0 e
    split at this <;> omega
  have lt : ∀ l, l < aN a - 1 → aO a (if l < l0 then l else l + 1) < aN a := fun l hl => ha.o (by split <;> omega)
  refine ⟨⟨ha.1.1, ha.1.2.1, ha.1.2.2.1, ha.1.2.2.2.1, Nat.le_trans (Nat.sub_le _ _) ha.1.2.2.2.2⟩, fun q hq => ?_, fun l hl => ?_, fun l l' hl hl' e => ?_, fun p hp => ?_⟩
  · have hq : q < aN a - 1 := hq
    show PV (fun u => if q < aO a l0 then aP a q u else aP a (q + 1) u)
    by_cases e : q < aO a l0
    · simp only [e, if_pos]; exact ha.2.1 q (by omega)
    · simp only [e, if_neg, not_false_eq_true]; exact ha.2.1 (q + 1) (by omega)
  · have hl : l < aN a - 1 := hl
    show dec (aO a l0) (aO a (if l < l0 then l else l + 1)) < aN a - 1
    exact dec_lt (ne l hl) (lt l hl) hp0
  · have hl : l < aN a - 1 := hl
    have hl' : l' < aN a - 1 := hl'
    have e : dec (aO a l0) (aO a (if l < l0 then l else l + 1)) = dec (aO a l0) (aO a (if l' < l0 then l' else l' + 1)) := e
    have h1 := ne l hl
    have h2 := ne l' hl'
    have e2 : aO a (if l < l0 then l else l + 1) = aO a (if l' < l0 then l' else l' + 1) := dec_inj h1 h2 e
    have := ha.inj (l := if l < l0 then l else l + 1) (l' := if l' < l0 then l' else l' + 1) (by split <;> omega) (by split <;> omega) e2
    split at this <;> split at this <;> omega
  · have hp : p < aN a - 1 := hp
    obtain ⟨l, hl, e⟩ := ha.sur (p := if p < aO a l0 then p else p + 1) (by split <;> omega)
    have hne : l ≠ l0 := fun q => by subst q; split at e <;> omega
    refine ⟨if l < l0 then l else l - 1, by show _ < aN a - 1; split <;> omega, ?_⟩
    show dec (aO a l0) (aO a (if (if l < l0 then l else l - 1) < l0 then (if l < l0 then l else l - 1) else (if l < l0 then l else l - 1) + 1)) = p
    have e3 : (if (if l < l0 then l else l - 1) < l0 then (if l < l0 then l else l - 1) else (if l < l0 then l else l - 1) + 1) = l := by
      repeat' split
      all_goals omega
    rw [e3, e]
    unfold dec
    repeat' split
    all_goals omega
theorem L_remove {s : LyS} {a : AL} (h : LOK s a) (ha : AOK a) {l0 : Nat} (h0 : l0 < aN a) : ∃ s', f_X1_remove s (iI (aO a l0 : Int)) = some s' ∧ LOK s' (aRem a l0) ∧ L_cost s' = L_cost s := by
  have hb := ha.b
  have hp0 := ha.o h0
  obtain ⟨s2, e2, h2, c2, p2⟩ := L_putIntoLayer h ha h0 (l1 := aN a - 1) (by omega)
  obtain ⟨s3, hs3⟩ : ∃ s3, s3 = L_set_n s2 (iI ((aN a - 1 : Nat) : Int)) := ⟨_, rfl⟩
  have o3 : ∀ k, k < aN a → L_order s3 k = iI (mvO (aO a) l0 (aN a - 1) k : Int) := fun k hk => by rw [hs3]; exact h2.o hk
  have n3 : L_n s3 = iI ((aN a - 1 : Nat) : Int) := by rw [hs3]; rfl
  have k1 := x_for (B := b_X1_remove_24 (iI (aO a l0 : Int))) (fun i (g : Nat → Int32) => (iI (i : Int), L_set_order s3 g)) (fun i g => ∀ k, k < aN a → g k = iI ((if k < i then dec (aO a l0) (mvO (aO a) l0 (aN a - 1) k) else mvO (aO a) l0 (aN a - 1) k : Nat) : Int)) (aN a - 1) (fun b => ∃ z g, b = (z, L_set_order s3 g) ∧ ∀ k, k < aN a - 1 → g k = iI (dec (aO a l0) (mvO (aO a) l0 (aN a - 1) k) : Int))
    (by
      intro i g hi hI
      left
      have ho : mvO (aO a) l0 (aN a - 1) i < aN a := (aMov_AOK ha h0 (l1 := aN a - 1) (by omega)).o (l := i) (show i < aN a by omega)
      have gi : g i = iI (mvO (aO a) l0 (aN a - 1) i : Int) := by rw [hI i (by omega), if_neg (by omega)]
      refine ⟨upd g i (iI (dec (aO a l0) (mvO (aO a) l0 (aN a - 1) i) : Int)), ?_, fun k hk => ?_⟩
      · rw [b_X1_remove_24, gs_L_order_order, gs_L_n_order, n3, F_at rfl (by omega) (by omega), ob_some, gi]
        simp (disch := omega) only [iL_0, iL_1, iL_2, iL_3, iL_4, iL_5, iL_6, iL_7, iL_8, iL_9, iL_10, iL_11, iL_12, iL_15, iL_16, iL_20, iL_22, iL_24, iL_31, iL_32, iL_40, iL_45, iL_48, iL_57, iL_59, iL_60, iL_63, iL_72, iL_76, iL_88, iL_97, iL_100, iL_101, iL_102, iL_103, iL_109, iL_110, iL_112, iL_114, iL_120, iL_122, iL_144, iL_255, iL_352, iL_440, iL_576, iL_1000, nI_iI, iI_add, iI_sub, iI_mul, iI_neg, iI_le]
        rw [if_neg (by omega)]
        have e : (if (mvO (aO a) l0 (aN a - 1) i : Int) ≤ (aO a l0 : Int) then some (iI (mvO (aO a) l0 (aN a - 1) i : Int)) else some (iI ((mvO (aO a) l0 (aN a - 1) i : Int) - 1))) = some (iI (dec (aO a l0) (mvO (aO a) l0 (aN a - 1) i) : Int)) := by
          unfold dec
          repeat' split
          all_goals first | (exfalso; omega) | (congr 2; omega) | rfl
        rw [e, ob_some, F_put _ rfl (by omega) (by omega), ob_some]
        rfl
      · by_cases e : k = i
        · subst e; rw [upd_same, if_pos (by omega)]
        · rw [upd_ne _ _ e, hI k hk]
          congr 2
          by_cases e2 : k < i
          · rw [if_pos e2, if_pos (by omega)]
          · rw [if_neg e2, if_neg (by omega)])
    (by
      intro g hI
      rw [b_X1_remove_24, gs_L_n_order, n3]
      simp (disch := omega) only [iL_0, iL_1, iL_2, iL_3, iL_4, iL_5, iL_6, iL_7, iL_8, iL_9, iL_10, iL_11, iL_12, iL_15, iL_16, iL_20, iL_22, iL_24, iL_31, iL_32, iL_40, iL_45, iL_48, iL_57, iL_59, iL_60, iL_63, iL_72, iL_76, iL_88, iL_97, iL_100, iL_101, iL_102, iL_103, iL_109, iL_110, iL_112, iL_114, iL_120, iL_122, iL_144, iL_255, iL_352, iL_440, iL_576, iL_1000, nI_iI, iI_add, iI_sub, iI_mul, iI_neg, iI_le]
      rw [if_pos (by omega)]
      exact ⟨_, rfl, _, g, rfl, fun k hk => by rw [hI k (by omega), if_pos hk]⟩)
    (L_order s3) (fun k hk => by rw [o3 k hk, if_neg (by omega)]) (by omega)
  obtain ⟨b1, x1, z1, g1, rfl, hg1⟩ := k1
  obtain ⟨s4, hs4⟩ : ∃ s4, s4 = L_set_order s3 g1 := ⟨_, rfl⟩
  have n4 : L_n s4 = iI ((aN a - 1 : Nat) : Int) := by rw [hs4]; exact n3
  have p4 : L_props s4 = L_props s := by rw [hs4, hs3]; exact p2
  have k2 := x_for (B := b_X1_remove_72) (fun i (g : Nat → Int32) => (iI (6 * aO a l0 + i : Int), L_set_props s4 g)) (fun i g => ∀ k, g k = if 6 * aO a l0 ≤ k ∧ k < 6 * aO a l0 + i then L_props s (k + 6) else L_props s k) (6 * (aN a - 1) - 6 * aO a l0) (fun b => ∃ z g, b = (z, L_set_props s4 g) ∧ ∀ k, k < 6 * (aN a - 1) → g k = if 6 * aO a l0 ≤ k then L_props s (k + 6) else L_props s k)
    (by
      intro i g hi hI
      left
      refine ⟨upd g (6 * aO a l0 + i) (L_props s (6 * aO a l0 + i + 6)), ?_, fun k => ?_⟩
      · rw [b_X1_remove_72, gs_L_props_props, gs_L_n_props, n4]
        simp (disch := omega) only [iL_0, iL_1, iL_2, iL_3, iL_4, iL_5, iL_6, iL_7, iL_8, iL_9, iL_10, iL_11, iL_12, iL_15, iL_16, iL_20, iL_22, iL_24, iL_31, iL_32, iL_40, iL_45, iL_48, iL_57, iL_59, iL_60, iL_63, iL_72, iL_76, iL_88, iL_97, iL_100, iL_101, iL_102, iL_103, iL_109, iL_110, iL_112, iL_114, iL_120, iL_122, iL_144, iL_255, iL_352, iL_440, iL_576, iL_1000, nI_iI, iI_add, iI_sub, iI_mul, iI_neg, iI_le]
        rw [if_neg (by omega), F_at (j := 6 * aO a l0 + i + 6) (by omega) (by omega) (by omega), ob_some, F_put (j := 6 * aO a l0 + i) _ (by omega) (by omega) (by omega), ob_some, hI, if_neg (by omega)]
        congr 3
      · by_cases e : k = 6 * aO a l0 + i
        · subst e; rw [upd_same, if_pos (by omega)]
        · rw [upd_ne _ _ e, hI k]
          by_cases e2 : 6 * aO a l0 ≤ k ∧ k < 6 * aO a l0 + i
          · rw [if_pos e2, if_pos (by omega)]
          · rw [if_neg e2, if_neg (by omega)])
    (by
      intro g hI
      rw [b_X1_remove_72, gs_L_n_props, n4]
      simp (disch := omega) only [iL_0, iL_1, iL_2, iL_3, iL_4, iL_5, iL_6, iL_7, iL_8, iL_9, iL_10, iL_11, iL_12, iL_15, iL_16, iL_20, iL_22, iL_24, iL_31, iL_32, iL_40, iL_45, iL_48, iL_57, iL_59, iL_60, iL_63, iL_72, iL_76, iL_88, iL_97, iL_100, iL_101, iL_102, iL_103, iL_109, iL_110, iL_112, iL_114, iL_120, iL_122, iL_144, iL_255, iL_352, iL_440, iL_576, iL_1000, nI_iI, iI_add, iI_sub, iI_mul, iI_neg, iI_le]
      rw [if_pos (by omega)]
      refine ⟨_, rfl, _, g, rfl, fun k hk => ?_⟩
      rw [hI k]
      by_cases e2 : 6 * aO a l0 ≤ k
      · rw [if_pos (by omega), if_pos e2]
      · rw [if_neg (by omega), if_neg e2])
    (L_props s) (fun k => by rw [if_neg (by omega)]) (by omega)
  obtain ⟨b2, x2, z2, g2, rfl, hg2⟩ := k2
  refine ⟨L_set_props s4 g2, ?_, ⟨?_, ?_, n4, fun q u hq hu => ?_, fun l hl => ?_⟩, ?_⟩
  · unfold f_X1_remove
    rw [h.n, iL_1, iI_sub, show (aN a : Int) - 1 = ((aN a - 1 : Nat) : Int) by omega, e2, ob_some]
    dsimp only
    have hn2 : L_n s2 = iI (aN a : Int) := h2.n
    rw [x_nm_eq, hn2, iI_sub, show (aN a : Int) - 1 = ((aN a - 1 : Nat) : Int) by omega, ← hs3]
    have x1' : x_loop (b_X1_remove_24 (iI (aO a l0 : Int))) x_fuel ((0 : Int32), s3) = some (z1, L_set_order s3 g1) := x1
    rw [x1', ob_some]
    dsimp only
    rw [x_nm_eq, iL_6, iI_mul, ← hs4]
    have x2' : x_loop b_X1_remove_72 x_fuel (iI ((aO a l0 : Int) * 6), s4) = some (z2, L_set_props s4 g2) := by
      rw [← x2]
      have : L_set_props s4 (L_props s) = s4 := by rw [← p4]; rfl
      rw [this]
      congr 2; congr 1; omega
    rw [x2', ob_some]
  · show L_cols s4 = _
    rw [hs4, hs3]; exact h2.c
  · show L_rows s4 = _
    rw [hs4, hs3]; exact h2.r
  · have hq : q < aN a - 1 := hq
    show g2 (6 * q + u) = iI (if q < aO a l0 then aP a q u else aP a (q + 1) u)
    rw [hg2 _ (by omega)]
    by_cases e : q < aO a l0
    · rw [if_neg (by omega), if_pos e]; exact h.p (by omega) hu
    · rw [if_pos (by omega), if_neg e, show 6 * q + u + 6 = 6 * (q + 1) + u by omega]; exact h.p (by omega) hu
  · have hl : l < aN a - 1 := hl
    show L_order s4 l = iI (dec (aO a l0) (aO a (if l < l0 then l else l + 1)) : Int)
    rw [hs4]
    show g1 l = _
    rw [hg1 l hl]
    congr 3
    unfold mvO
    rw [if_neg (by omega)]
    by_cases e : l < l0
    · rw [if_neg (by omega), if_neg (by omega), if_pos e]
    · rw [if_pos (by omega), if_neg e]
  · show L_cost s4 = _
    rw [hs4, hs3]; exact c2
