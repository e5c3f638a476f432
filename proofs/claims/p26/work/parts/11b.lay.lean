/-! what the layout's methods make of it -/
def loI (w : Nat) : Int := [-20, -20, 1, 1, 0, 0].getD w 0
def hiI (w : Nat) : Int := [40, 40, 12, 12, 100, 3].getD w 0
theorem F_fits {w : Nat} (hw : w < 6) {wi v : Int} (e : wi = (w : Int)) (hv : -2147483648 ≤ v ∧ v < 2147483648) : f_X7_fits (iI wi) (iI v) = some (bI (loI w ≤ v ∧ v ≤ hiI w)) := by
  subst e
  have hL : f_X7_at_tL (iI (w : Int)) = some (iI (loI w)) := by
    unfold f_X7_at_tL
    simp (disch := omega) only [iL_0, iL_1, iL_2, iL_3, iL_4, iL_5, iL_6, iL_7, iL_8, iL_9, iL_10, iL_11, iL_12, iL_15, iL_16, iL_20, iL_22, iL_24, iL_31, iL_32, iL_40, iL_45, iL_48, iL_57, iL_59, iL_60, iL_63, iL_72, iL_76, iL_88, iL_97, iL_100, iL_101, iL_102, iL_103, iL_109, iL_110, iL_112, iL_114, iL_120, iL_122, iL_144, iL_255, iL_352, iL_440, iL_576, iL_1000, nI_iI, iI_add, iI_sub, iI_mul, iI_neg, iI_lt, iI_le]
    rw [if_neg (by omega), if_neg (by omega), x_ldI rfl hw (by omega), ob_some]
    rcases (show w = 0 ∨ w = 1 ∨ w = 2 ∨ w = 3 ∨ w = 4 ∨ w = 5 by omega) with rfl | rfl | rfl | rfl | rfl | rfl <;> rfl
  have hH : f_X7_at_tH (iI (w : Int)) = some (iI (hiI w)) := by
    unfold f_X7_at_tH
    simp (disch := omega) only [iL_0, iL_1, iL_2, iL_3, iL_4, iL_5, iL_6, iL_7, iL_8, iL_9, iL_10, iL_11, iL_12, iL_15, iL_16, iL_20, iL_22, iL_24, iL_31, iL_32, iL_40, iL_45, iL_48, iL_57, iL_59, iL_60, iL_63, iL_72, iL_76, iL_88, iL_97, iL_100, iL_101, iL_102, iL_103, iL_109, iL_110, iL_112, iL_114, iL_120, iL_122, iL_144, iL_255, iL_352, iL_440, iL_576, iL_1000, nI_iI, iI_add, iI_sub, iI_mul, iI_neg, iI_lt, iI_le]
    rw [if_neg (by omega), if_neg (by omega), x_ldI rfl hw (by omega), ob_some]
    rcases (show w = 0 ∨ w = 1 ∨ w = 2 ∨ w = 3 ∨ w = 4 ∨ w = 5 by omega) with rfl | rfl | rfl | rfl | rfl | rfl <;> rfl
  have hr : -1000 ≤ loI w ∧ loI w ≤ 1000 ∧ -1000 ≤ hiI w ∧ hiI w ≤ 1000 := by
    rcases (show w = 0 ∨ w = 1 ∨ w = 2 ∨ w = 3 ∨ w = 4 ∨ w = 5 by omega) with rfl | rfl | rfl | rfl | rfl | rfl <;> decide
  unfold f_X7_fits
  rw [hL, hH, ob_some, ob_some, F_isWithin hv (by omega) (by omega), ob_some, bI_zr, ob_some]
theorem F_fits0 {v : Int} (hv : -2147483648 ≤ v ∧ v < 2147483648) : f_X7_fits (iI 0) (iI v) = some (bI (-20 ≤ v ∧ v ≤ 40)) := F_fits (w := 0) (by omega) rfl hv
theorem F_fits1 {v : Int} (hv : -2147483648 ≤ v ∧ v < 2147483648) : f_X7_fits (iI 1) (iI v) = some (bI (-20 ≤ v ∧ v ≤ 40)) := F_fits (w := 1) (by omega) rfl hv
theorem F_fits2 {v : Int} (hv : -2147483648 ≤ v ∧ v < 2147483648) : f_X7_fits (iI 2) (iI v) = some (bI (1 ≤ v ∧ v ≤ 12)) := F_fits (w := 2) (by omega) rfl hv
theorem F_fits3 {v : Int} (hv : -2147483648 ≤ v ∧ v < 2147483648) : f_X7_fits (iI 3) (iI v) = some (bI (1 ≤ v ∧ v ≤ 12)) := F_fits (w := 3) (by omega) rfl hv
theorem F_fits4 {v : Int} (hv : -2147483648 ≤ v ∧ v < 2147483648) : f_X7_fits (iI 4) (iI v) = some (bI (0 ≤ v ∧ v ≤ 100)) := F_fits (w := 4) (by omega) rfl hv
theorem F_fits5 {v : Int} (hv : -2147483648 ≤ v ∧ v < 2147483648) : f_X7_fits (iI 5) (iI v) = some (bI (0 ≤ v ∧ v ≤ 3)) := F_fits (w := 5) (by omega) rfl hv
theorem L_canMove {s : LyS} {a : AL} (h : LOK s a) (ha : AOK a) {p : Nat} (hp : p < aN a) {dx dy : Int} (hx : -1000000 ≤ dx ∧ dx ≤ 1000000) (hy : -1000000 ≤ dy ∧ dy ≤ 1000000) : f_X1_canMove s (iI (p : Int)) (iI dx) (iI dy) = some (bI ((-20 ≤ aP a p 0 + dx ∧ aP a p 0 + dx ≤ 40) ∧ -20 ≤ aP a p 1 + dy ∧ aP a p 1 + dy ≤ 40)) := by
  have hb := ha.b
  have hv := ha.p hp
  unfold f_X1_canMove
  rw [iL_0, iL_1, L_get0 h (by omega) hp, L_get1 h (by omega) hp, ob_some, ob_some, iI_add, iI_add, F_fits0 (by omega), F_fits1 (by omega), ob_some, ob_some]
  simp only [bI_0]
  unfold bI
  repeat' split
  all_goals first | rfl | (exfalso; omega)
/-- the absolute value -/
def ab (d : Int) : Int := if 0 ≤ d then d else -d
theorem F_abs {d : Int} (h : -2147483647 ≤ d ∧ d < 2147483648) : x_abs (iI d) = iI (ab d) := by
  unfold x_abs ab
  simp (disch := omega) only [iL_0, iI_le, iI_sub]
  split
  · rfl
  · congr 1; omega
def aSet (a : AL) (p w : Nat) (v : Int) : AL := (a.1, fun q u => if q = p ∧ u = w then v else aP a q u, aO a)
theorem aSet_C (a : AL) (p w : Nat) (v : Int) : aC (aSet a p w v) = aC a := rfl
theorem aSet_R (a : AL) (p w : Nat) (v : Int) : aR (aSet a p w v) = aR a := rfl
theorem aSet_N (a : AL) (p w : Nat) (v : Int) : aN (aSet a p w v) = aN a := rfl
theorem aSet_O (a : AL) (p w : Nat) (v : Int) : aO (aSet a p w v) = aO a := rfl
theorem aSet_P (a : AL) (p w : Nat) (v : Int) (q u : Nat) : aP (aSet a p w v) q u = if q = p ∧ u = w then v else aP a q u := rfl
theorem L_eta_order (s : LyS) : L_set_order s (L_order s) = s := rfl
theorem L_eta_props (s : LyS) : L_set_props s (L_props s) = s := rfl
theorem L_set {s : LyS} {a : AL} (h : LOK s a) (ha : aN a ≤ 12) {p w : Nat} (hp : p < aN a) (hw : w < 6) {wi v : Int} (e : wi = (w : Int)) : ∃ s', f_X1_set s (iI (p : Int)) (iI wi) (iI v) = some s' ∧ LOK s' (aSet a p w v) ∧ L_cost s' = L_cost s := by
  subst e
  refine ⟨L_set_props s (upd (L_props s) (6 * p + w) (iI v)), ?_, ⟨h.1, h.2.1, h.2.2.1, fun q u hq hu => ?_, h.2.2.2.2⟩, rfl⟩
  · unfold f_X1_set
    simp only [iL_0, iL_1, iL_2, iL_3, iL_4, iL_5, iL_6, iL_7, iL_8, iL_9, iL_10, iL_11, iL_12, iL_15, iL_16, iL_20, iL_22, iL_24, iL_31, iL_32, iL_40, iL_45, iL_48, iL_57, iL_59, iL_60, iL_63, iL_72, iL_76, iL_88, iL_97, iL_100, iL_101, iL_102, iL_103, iL_109, iL_110, iL_112, iL_114, iL_120, iL_122, iL_144, iL_255, iL_352, iL_440, iL_576, iL_1000, nI_iI, iI_add, iI_sub, iI_mul, iI_neg]
    rw [F_put (j := 6 * p + w) _ (by omega) (by omega) (by omega), ob_some]
  · show upd (L_props s) (6 * p + w) (iI v) (6 * q + u) = _
    rw [aSet_P]
    by_cases e : q = p ∧ u = w
    · rw [if_pos e, e.1, e.2, upd_same]
    · rw [if_neg e, upd_ne _ _ (by omega)]
      exact h.p hq hu
def aSh (a : AL) (p : Nat) (dx dy : Int) : AL := aSet (aSet a p 0 (aP a p 0 + dx)) p 1 (aP a p 1 + dy)
theorem aSh_P (a : AL) (p : Nat) (dx dy : Int) (q u : Nat) : aP (aSh a p dx dy) q u = if q = p ∧ u = 0 then aP a p 0 + dx else if q = p ∧ u = 1 then aP a p 1 + dy else aP a q u := by
  unfold aSh
  rw [aSet_P, aSet_P]
  by_cases h : q = p
  · by_cases h1 : u = 1
    · subst h1; simp [h]
    · simp [h, h1]
  · simp [h]
theorem aSh_AOK {a : AL} (ha : AOK a) {p : Nat} {dx dy : Int} (h : (-20 ≤ aP a p 0 + dx ∧ aP a p 0 + dx ≤ 40) ∧ -20 ≤ aP a p 1 + dy ∧ aP a p 1 + dy ≤ 40) : AOK (aSh a p dx dy) := by
  refine ⟨ha.1, fun q hq => ?_, ha.2.2⟩
  have hv := ha.p (p := q) hq
  unfold PV
  simp only [aSh_P]
  by_cases e : q = p
  · subst e; simp; omega
  · simp [e]; omega
theorem aSet_AOK {a : AL} (ha : AOK a) {p w : Nat} {v : Int} (hw : w < 6) (h : loI w ≤ v ∧ v ≤ hiI w) : AOK (aSet a p w v) := by
  refine ⟨ha.1, fun q hq => ?_, ha.2.2⟩
  have hv := ha.p (p := q) hq
  unfold PV
  simp only [aSet_P]
  by_cases e : q = p
  · subst e
    rcases (show w = 0 ∨ w = 1 ∨ w = 2 ∨ w = 3 ∨ w = 4 ∨ w = 5 by omega) with rfl | rfl | rfl | rfl | rfl | rfl <;> simp [loI, hiI] at h ⊢ <;> omega
  · simp [e]; omega
theorem L_move {s : LyS} {a : AL} (h : LOK s a) (ha : AOK a) {p : Nat} (hp : p < aN a) {dx dy : Int} (hx : -1000000 ≤ dx ∧ dx ≤ 1000000) (hy : -1000000 ≤ dy ∧ dy ≤ 1000000) : ∃ s', f_X1_move s (iI (p : Int)) (iI dx) (iI dy) = some (iI (ab dx + ab dy), s') ∧ LOK s' (aSh a p dx dy) ∧ L_cost s' = L_cost s + iI (ab dx + ab dy) := by
  have hb := ha.b
  have hv := ha.p hp
  obtain ⟨s1, e1, h1, c1⟩ := L_set h (by omega) hp (show 0 < 6 by omega) (wi := 0) (v := aP a p 0 + dx) rfl
  obtain ⟨s2, e2, h2, c2⟩ := L_set h1 (by rw [aSet_N]; omega) (p := p) hp (show 1 < 6 by omega) (wi := 1) (v := aP a p 1 + dy) rfl
  refine ⟨L_set_cost s2 (L_cost s + iI (ab dx + ab dy)), ?_, h2, rfl⟩
  unfold f_X1_move
  have e3 : aP (aSet a p 0 (aP a p 0 + dx)) p 1 = aP a p 1 := by rw [aSet_P, if_neg (by omega)]
  have g1 := L_get1 h1 (by rw [aSet_N]; omega) (p := p) hp
  rw [e3] at g1
  rw [x_nm_eq, F_abs (by omega), F_abs (by omega), iL_0, iL_1, L_get0 h (by omega) hp, ob_some, iI_add, iI_add, e1, ob_some, g1, ob_some, iI_add, e2, ob_some, x_nm_eq, c2, c1]
theorem L_resize {s : LyS} {a : AL} (h : LOK s a) (c r : Nat) : f_X1_resize s (iI (c : Int)) (iI (r : Int)) = some (L_set_rows (L_set_cols s (iI (c : Int))) (iI (r : Int))) ∧ LOK (L_set_rows (L_set_cols s (iI (c : Int))) (iI (r : Int))) ((c, r, aN a), a.2) := ⟨rfl, rfl, rfl, h.2.2.1, h.2.2.2.1, h.2.2.2.2⟩
/-- the same in all that is looked at -/
def LEq (s o : LyS) : Prop := L_cols s = L_cols o ∧ L_rows s = L_rows o ∧ L_n s = L_n o ∧ L_cost s = L_cost o ∧ (∀ k, k < 72 → L_props s k = L_props o k) ∧ ∀ k, k < 12 → L_order s k = L_order o k
theorem LEq.ok {s o : LyS} (e : LEq s o) {a : AL} (ha : aN a ≤ 12) (h : LOK o a) : LOK s a :=
  ⟨e.1.trans h.1, e.2.1.trans h.2.1, e.2.2.1.trans h.2.2.1, fun p w hp hw => (e.2.2.2.2.1 _ (by omega)).trans (h.p hp hw), fun l hl => (e.2.2.2.2.2 _ (by omega)).trans (h.o hl)⟩
theorem L_take (s o : LyS) : ∃ s', f_X1_take s o = some s' ∧ LEq s' o := by
  unfold f_X1_take
  have e1 : x_cp 72 72 (L_props o) (L_props s) 0 0 72 = some (va_cpy (L_props o) (L_props s) 0 0 72) := by
    unfold x_cp
    rw [if_pos (by decide)]
    rfl
  have e2 : x_cp 12 12 (L_order o) (L_order s) 0 0 12 = some (va_cpy (L_order o) (L_order s) 0 0 12) := by
    unfold x_cp
    rw [if_pos (by decide)]
    rfl
  rw [e1, e2, ob_some, ob_some]
  refine ⟨_, rfl, rfl, rfl, rfl, rfl, fun k hk => ?_, fun k hk => ?_⟩
  · show va_cpy (L_props o) (L_props s) 0 0 72 k = _
    rw [pk_cpy_in (by omega) (by omega)]
    congr 1; omega
  · show va_cpy (L_order o) (L_order s) 0 0 12 k = _
    rw [pk_cpy_in (by omega) (by omega)]
    congr 1; omega
/-- a piece goes from one layer to another -/
def mvO (O : Nat → Nat) (l0 l1 : Nat) : Nat → Nat := fun k => if k = l1 then O l0 else if l0 ≤ k ∧ k < l1 then O (k + 1) else if l1 < k ∧ k ≤ l0 then O (k - 1) else O k
def aMov (a : AL) (l0 l1 : Nat) : AL := (a.1, aP a, mvO (aO a) l0 l1)
theorem aMov_O (a : AL) (l0 l1 : Nat) : aO (aMov a l0 l1) = mvO (aO a) l0 l1 := rfl
theorem aMov_AOK {a : AL} (ha : AOK a) {l0 l1 : Nat} (h0 : l0 < aN a) (h1 : l1 < aN a) : AOK (aMov a l0 l1) := by
  -- where layer k's piece came from
  have key : ∃ f g : Nat → Nat, (∀ k, k < aN a → f k < aN a ∧ g (f k) = k ∧ mvO (aO a) l0 l1 k = aO a (f k)) ∧ ∀ k, k < aN a → g k < aN a ∧ f (g k) = k := by
    refine ⟨fun k => if k = l1 then l0 else if l0 ≤ k ∧ k < l1 then k + 1 else if l1 < k ∧ k ≤ l0 then k - 1 else k, fun k => if k = l0 then l1 else if l0 < k ∧ k ≤ l1 then k - 1 else if l1 ≤ k ∧ k < l0 then k + 1 else k, fun k hk => ⟨?_, ?_, ?_⟩, fun k hk => ⟨?_, ?_⟩⟩
    · dsimp only; repeat' split
      all_goals omega
    · dsimp only; repeat' split
      all_goals omega
    · unfold mvO
      dsimp only
      simp only [apply_ite (aO a)]
    · dsimp only; repeat' split
      all_goals omega
    · dsimp only; repeat' split
      all_goals omega
  obtain ⟨f, g, hf, hg⟩ := key
  refine ⟨ha.1, ha.2.1, fun k hk => ?_, fun k k' hk hk' e => ?_, fun p hp => ?_⟩
  · show mvO (aO a) l0 l1 k < aN a
    rw [(hf k hk).2.2]; exact ha.o (hf k hk).1
  · have e : mvO (aO a) l0 l1 k = mvO (aO a) l0 l1 k' := e
    rw [(hf k hk).2.2, (hf k' hk').2.2] at e
    have := ha.inj (hf k hk).1 (hf k' hk').1 e
    rw [← (hf k hk).2.1, this, (hf k' hk').2.1]
  · obtain ⟨l, hl, rfl⟩ := ha.sur (p := p) hp
    refine ⟨g l, (hg l hl).1, ?_⟩
    show mvO (aO a) l0 l1 (g l) = _
    rw [(hf _ (hg l hl).1).2.2, (hg l hl).2]
theorem L_putIntoLayer {s : LyS} {a : AL} (h : LOK s a) (ha : AOK a) {l0 l1 : Nat} (h0 : l0 < aN a) (h1 : l1 < aN a) : ∃ s', f_X1_putIntoLayer s (iI (aO a l0 : Int)) (iI (l1 : Int)) = some (iI (l0 : Int), s') ∧ LOK s' (aMov a l0 l1) ∧ L_cost s' = L_cost s ∧ L_props s' = L_props s := by
  have hb := ha.b
  -- up
  have k1 := x_for (B := b_X1_putIntoLayer_9 (iI (l1 : Int))) (fun i (g : Nat → Int32) => (iI (l0 + i : Int), L_set_order s g)) (fun i g => ∀ k, k < aN a → g k = iI ((if l0 ≤ k ∧ k < l0 + i then aO a (k + 1) else aO a k : Nat) : Int)) (l1 - l0) (fun b => ∃ z g, b = (z, L_set_order s g) ∧ ∀ k, k < aN a → g k = iI ((if l0 ≤ k ∧ k < l1 then aO a (k + 1) else aO a k : Nat) : Int))
    (by
      intro i g hi hI
      left
      refine ⟨upd g (l0 + i) (iI (aO a (l0 + i + 1) : Int)), ?_, ?_⟩
      · rw [b_X1_putIntoLayer_9, gs_L_order_order]
        simp (disch := omega) only [iL_0, iL_1, iL_2, iL_3, iL_4, iL_5, iL_6, iL_7, iL_8, iL_9, iL_10, iL_11, iL_12, iL_15, iL_16, iL_20, iL_22, iL_24, iL_31, iL_32, iL_40, iL_45, iL_48, iL_57, iL_59, iL_60, iL_63, iL_72, iL_76, iL_88, iL_97, iL_100, iL_101, iL_102, iL_103, iL_109, iL_110, iL_112, iL_114, iL_120, iL_122, iL_144, iL_255, iL_352, iL_440, iL_576, iL_1000, nI_iI, iI_add, iI_sub, iI_mul, iI_neg, iI_le]
        rw [if_neg (by omega), F_at (j := l0 + i + 1) (by omega) (by omega) (by omega), ob_some, F_put (j := l0 + i) _ (by omega) (by omega) (by omega), ob_some, hI _ (by omega), if_neg (by omega)]
        congr 3
      · intro k hk
        by_cases e : k = l0 + i
        · subst e; rw [upd_same, if_pos (by omega)]
        · rw [upd_ne _ _ e, hI k hk]
          congr 2
          by_cases e2 : l0 ≤ k ∧ k < l0 + i
          · rw [if_pos e2, if_pos (by omega)]
          · rw [if_neg e2, if_neg (by omega)])
    (by
      intro g hI
      rw [b_X1_putIntoLayer_9]
      simp (disch := omega) only [iI_le]
      rw [if_pos (by omega)]
      refine ⟨_, rfl, _, g, rfl, fun k hk => ?_⟩
      rw [hI k hk]
      congr 2
      by_cases e2 : l0 ≤ k ∧ k < l1
      · rw [if_pos e2, if_pos (by omega)]
      · rw [if_neg e2, if_neg (by omega)])
    (L_order s) (fun k hk => by rw [h.o hk, if_neg (by omega)]) (by omega)
  obtain ⟨b1, e1, z1, g1, rfl, hg1⟩ := k1
  -- down
  have k2 := x_for (B := b_X1_putIntoLayer_44 (iI (l1 : Int))) (fun i (g : Nat → Int32) => (iI (l0 - i : Int), L_set_order s g)) (fun i g => ∀ k, k < aN a → g k = iI ((if l0 ≤ k ∧ k < l1 then aO a (k + 1) else if l0 - i < k ∧ k ≤ l0 then aO a (k - 1) else aO a k : Nat) : Int)) (l0 - l1) (fun b => ∃ z g, b = (z, L_set_order s g) ∧ ∀ k, k < aN a → g k = iI ((if l0 ≤ k ∧ k < l1 then aO a (k + 1) else if l1 < k ∧ k ≤ l0 then aO a (k - 1) else aO a k : Nat) : Int))
    (by
      intro i g hi hI
      left
      refine ⟨upd g (l0 - i) (iI (aO a (l0 - i - 1) : Int)), ?_, ?_⟩
      · rw [b_X1_putIntoLayer_44, gs_L_order_order]
        simp (disch := omega) only [iL_0, iL_1, iL_2, iL_3, iL_4, iL_5, iL_6, iL_7, iL_8, iL_9, iL_10, iL_11, iL_12, iL_15, iL_16, iL_20, iL_22, iL_24, iL_31, iL_32, iL_40, iL_45, iL_48, iL_57, iL_59, iL_60, iL_63, iL_72, iL_76, iL_88, iL_97, iL_100, iL_101, iL_102, iL_103, iL_109, iL_110, iL_112, iL_114, iL_120, iL_122, iL_144, iL_255, iL_352, iL_440, iL_576, iL_1000, nI_iI, iI_add, iI_sub, iI_mul, iI_neg, iI_le]
        rw [if_neg (by omega), F_at (j := l0 - i - 1) (by omega) (by omega) (by omega), ob_some, F_put (j := l0 - i) _ (by omega) (by omega) (by omega), ob_some, hI _ (by omega), if_neg (by omega), if_neg (by omega)]
        congr 3 <;> (congr 1; omega)
      · intro k hk
        by_cases e : k = l0 - i
        · subst e; rw [upd_same, if_neg (by omega), if_pos (by omega)]
        · rw [upd_ne _ _ e, hI k hk]
          congr 2
          by_cases e1 : l0 ≤ k ∧ k < l1
          · rw [if_pos e1, if_pos e1]
          · rw [if_neg e1, if_neg e1]
            by_cases e2 : l0 - i < k ∧ k ≤ l0
            · rw [if_pos e2, if_pos (by omega)]
            · rw [if_neg e2, if_neg (by omega)])
    (by
      intro g hI
      rw [b_X1_putIntoLayer_44]
      simp (disch := omega) only [iI_le]
      rw [if_pos (by omega)]
      refine ⟨_, rfl, _, g, rfl, fun k hk => ?_⟩
      rw [hI k hk]
      congr 2
      by_cases e1 : l0 ≤ k ∧ k < l1
      · rw [if_pos e1, if_pos e1]
      · rw [if_neg e1, if_neg e1]
        by_cases e2 : l1 < k ∧ k ≤ l0
        · rw [if_pos e2, if_pos (by omega)]
        · rw [if_neg e2, if_neg (by omega)])
    g1 (fun k hk => by
      rw [hg1 k hk]
      congr 2
      by_cases e1 : l0 ≤ k ∧ k < l1
      · rw [if_pos e1, if_pos e1]
      · rw [if_neg e1, if_neg e1, if_neg (by omega)]) (by omega)
  obtain ⟨b2, e2, z2, g2, rfl, hg2⟩ := k2
  refine ⟨L_set_order s (upd g2 l1 (iI (aO a l0 : Int))), ?_, ⟨h.1, h.2.1, h.2.2.1, h.2.2.2.1, fun k hk => ?_⟩, rfl, rfl⟩
  · unfold f_X1_putIntoLayer
    rw [L_layerOf h ha h0, ob_some]
    have e1' : x_loop (b_X1_putIntoLayer_9 (iI (l1 : Int))) x_fuel (iI (l0 : Int), s) = some (z1, L_set_order s g1) := by
      rw [← e1, L_eta_order]; congr 2 <;> (congr 1; omega)
    have e2' : x_loop (b_X1_putIntoLayer_44 (iI (l1 : Int))) x_fuel (iI (l0 : Int), L_set_order s g1) = some (z2, L_set_order s g2) := by
      rw [← e2]; congr 2 <;> (congr 1; omega)
    rw [e1', ob_some]
    dsimp only
    rw [e2', ob_some]
    dsimp only
    rw [gs_L_order_order, F_put _ rfl (by omega) (by omega), ob_some]
    rfl
  · show upd g2 l1 (iI (aO a l0 : Int)) k = iI (mvO (aO a) l0 l1 k : Int)
    unfold mvO
    by_cases e : k = l1
    · subst e; rw [upd_same, if_pos rfl]
    · rw [upd_ne _ _ e, if_neg e]
      exact hg2 k hk
