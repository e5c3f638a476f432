/-! a part is taken; all parts -/
theorem P_take {t : PaS} {R : Nat → Nat → Bool} (hR : rowsOK (Pa_rest t) R) {y x : Nat} (hy : y < 24) (hx : x < 24) (h1 : R y x = true) (h2 : ∀ k, k < x → R y k = false) :
    ∃ t', f_X2_takePart t (iI (y : Int)) = some (iI (c24 (cmp R y x) : Int), t') ∧ rowsOK (Pa_rest t') (fun y' x' => R y' x' && !cmp R y x y' x') ∧ Pa_number t' = Pa_number t ∧ Pa_largest t' = Pa_largest t ∧ isC R y x (cmp R y x) := by
  obtain ⟨g1, e1, hg1⟩ := L_fill 24 (by omega) (Pa_part t) 0
  obtain ⟨P0, hP0⟩ : ∃ P0 : Nat → Nat → Bool, P0 = fun y' x' => decide (y' = y) && decide (x' = x) := ⟨_, rfl⟩
  have hP0i : ∀ y' x', P0 y' x' = true ↔ y' = y ∧ x' = x := fun y' x' => by rw [hP0]; simp
  have r0 : rowsOK (upd g1 y (msk (fun i => decide (i = x)))) P0 := fun y' hy' => by
    by_cases c : y' = y
    · subst c
      rw [upd_same, hP0]
      refine msk_congr (fun i _ => ?_)
      simp
    · rw [upd_ne _ _ c, hg1 y' hy', hP0]
      exact (msk_none (fun i _ => by simp [c])).symm
  have key := x_for (B := b_X2_takePart_38) (fun i (s : Bool × (Nat → Int32) × (Nat → Nat → Bool)) => (bnI s.1, iI (i : Int), Pa_set_part t s.2.1))
    (fun i s => rowsOK s.2.1 s.2.2 ∧ grd R s.2.2 ∧ s.2.2 y x = true ∧ mnm R y x s.2.2 ∧ (s.1 = true → i + 1 ≤ c24 s.2.2) ∧ (s.1 = false → clsd R s.2.2))
    576 (fun r => ∃ z1 z2 g P, r = (z1, z2, Pa_set_part t g) ∧ rowsOK g P ∧ isC R y x P)
    (by
      rintro i ⟨b, g, P⟩ hi ⟨i1, i2, i3, i4, i5, i6⟩
      dsimp only at i1 i2 i3 i4 i5 i6
      cases b with
      | false =>
        right
        refine ⟨(bnI false, iI (i : Int), Pa_set_part t g), ?_, _, _, g, P, rfl, i1, i3, i2, i6 rfl, i4⟩
        rw [b_X2_takePart_38]
        simp (disch := omega) only [iL_576, iI_le]
        rw [if_neg (by omega)]
        rfl
      | true =>
        left
        obtain ⟨b', g', P', f1, f2, f3, f4, f5, f6, f7⟩ := P_grow (t := Pa_set_part t g) (R := R) (P := P) hR i1 i2
        refine ⟨(b', g', P'), ?_, f2, f3, f4 _ _ i3, fun Q hQ hQ2 => f5 Q hQ (i4 Q hQ hQ2), fun q => ?_, fun q => ?_⟩
        · rw [b_X2_takePart_38, f1]
          simp (disch := omega) only [iL_576, iI_le]
          rw [if_neg (by omega), if_neg (by decide), ob_some, iI_suc]
          rfl
        · have := f7 q
          have := i5 rfl
          show i + 1 + 1 ≤ c24 P'
          omega
        · have := f6 q
          rw [this.1]
          exact this.2)
    (by
      rintro ⟨b, g, P⟩ ⟨i1, i2, i3, i4, i5, i6⟩
      dsimp only at i1 i2 i3 i4 i5 i6
      have hb : b = false := by
        cases b with
        | false => rfl
        | true =>
          have := i5 rfl
          have := c24_le P
          omega
      rw [b_X2_takePart_38]
      simp (disch := omega) only [iL_576, iI_le]
      rw [if_pos (by omega)]
      exact ⟨_, rfl, _, _, g, P, rfl, i1, i3, i2, i6 hb, i4⟩)
    (true, upd g1 y (msk (fun i => decide (i = x))), P0)
    ⟨r0, fun y' x' q => by
      obtain ⟨rfl, rfl⟩ := (hP0i y' x').mp q
      exact ⟨⟨hy, hx⟩, h1⟩, (hP0i y x).mpr ⟨rfl, rfl⟩, fun Q _ hQ y' x' q => by
      obtain ⟨rfl, rfl⟩ := (hP0i y' x').mp q
      exact hQ, fun _ => by
      have := c24_pos (P := P0) hy hx ((hP0i y x).mpr ⟨rfl, rfl⟩)
      show 0 + 1 ≤ c24 P0
      omega, fun q => by cases q⟩ (by omega)
  obtain ⟨r, e2, z1, z2, g, P, rfl, hg, hC⟩ := key
  have hcmp := isC_cmp hC
  rw [hcmp]
  have key2 := x_for (B := b_X2_takePart_65) (fun i (s : Nat × (Nat → Int32)) => (iI (s.1 : Int), iI (i : Int), Pa_set_rest (Pa_set_part t g) s.2))
    (fun i s => s.1 = sumN (fun y => sumN (fun x => if P y x = true then 1 else 0) 24) i ∧ ∀ y', y' < 24 → s.2 y' = if y' < i then msk (fun x' => R y' x' && !P y' x') else msk (R y'))
    24 (fun r => ∃ z h, r = (iI (c24 P : Int), z, Pa_set_rest (Pa_set_part t g) h) ∧ rowsOK h (fun y' x' => R y' x' && !P y' x'))
    (by
      rintro i ⟨n, h⟩ hi ⟨j1, j2⟩
      dsimp only at j1 j2
      left
      have hh : h i = msk (R i) := by rw [j2 i hi, if_neg (by omega)]
      refine ⟨(n + sumN (fun x => if P i x = true then 1 else 0) 24, upd h i (msk (fun x' => R i x' && !P i x'))), ?_, by show n + _ = _; rw [j1]; rfl, fun y' hy' => ?_⟩
      · rw [b_X2_takePart_65, gs_Pa_part_rest, gs_Pa_part_part, gs_Pa_rest_rest]
        simp (disch := omega) only [iL_24, iI_le]
        rw [if_neg (by omega), at_row hg hi rfl, ob_some, F_bitCount, ob_some, x_nm_eq, F_at rfl hi (by omega), hh, ob_some, ob_some, msk_diff, F_put _ rfl hi (by omega), ob_some, nI_iI, iI_add, iI_suc]
        rfl
      · show upd h i _ y' = _
        by_cases c : y' = i
        · subst c
          rw [upd_same, if_pos (by omega)]
        · rw [upd_ne _ _ c, j2 y' hy']
          by_cases c2 : y' < i
          · rw [if_pos c2, if_pos (by omega)]
          · rw [if_neg c2, if_neg (by omega)])
    (by
      rintro ⟨n, h⟩ ⟨j1, j2⟩
      dsimp only at j1 j2
      rw [b_X2_takePart_65]
      simp (disch := omega) only [iL_24, iI_le]
      rw [if_pos (by omega)]
      exact ⟨_, rfl, _, h, by rw [j1]; rfl, fun y' hy' => by rw [j2 y' hy', if_pos hy']⟩)
    (0, Pa_rest t) ⟨rfl, fun y' hy' => by rw [if_neg (by omega)]; exact hR y' hy'⟩ (by omega)
  obtain ⟨r2, e3, z3, h, rfl, hh⟩ := key2
  refine ⟨Pa_set_rest (Pa_set_part t g) h, ?_, hh, rfl, rfl, hC⟩
  unfold f_X2_takePart
  rw [e1, ob_some, at_row hR hy rfl, ob_some, ob_some, msk_low hx h1 h2, F_put _ rfl hy (by omega), ob_some]
  have e2' : x_loop b_X2_takePart_38 x_fuel ((1 : Int32), (0 : Int32), Pa_set_part t (upd g1 y (msk (fun i => decide (i = x))))) = some (z1, z2, Pa_set_part t g) := e2
  rw [e2', ob_some]
  dsimp only
  have e3' : x_loop b_X2_takePart_65 x_fuel ((0 : Int32), (0 : Int32), Pa_set_part t g) = some (iI (c24 P : Int), z3, Pa_set_rest (Pa_set_part t g) h) := e3
  rw [e3', ob_some]
/-- what remains, the number of parts, the largest one -/
abbrev PST : Type := (Nat → Nat → Bool) × Nat × Nat
noncomputable def pst (st : PST) (y x : Nat) : PST := if st.1 y x = true then (fun y' x' => st.1 y' x' && !cmp st.1 y x y' x', st.2.1 + 1, max st.2.2 (c24 (cmp st.1 y x))) else st
noncomputable def pcol (st : PST) (y : Nat) : Nat → PST
  | 0 => st
  | n + 1 => pst (pcol st y n) y n
noncomputable def prow (S : Nat → Nat → Bool) : Nat → PST
  | 0 => (S, 0, 0)
  | n + 1 => pcol (prow S n) n 24
theorem pcol_skip {st : PST} {y n m : Nat} (hn : n ≤ m) (h : ∀ k, n ≤ k → k < m → (pcol st y n).1 y k = false) : pcol st y m = pcol st y n := by
  induction m with
  | zero =>
    have : n = 0 := by omega
    subst this
    rfl
  | succ m ih =>
    by_cases c : n = m + 1
    · subst c; rfl
    · have e := ih (by omega) (fun k h1 h2 => h k h1 (by omega))
      rw [pcol, e]
      unfold pst
      rw [if_neg]
      rw [h m (by omega) (by omega)]
      simp
theorem first_true {f : Nat → Bool} {n : Nat} (h : ¬ ∀ k, k < n → f k = false) : ∃ k, k < n ∧ f k = true ∧ ∀ j, j < k → f j = false := by
  induction n with
  | zero => exact absurd (fun k hk => by omega) h
  | succ n ih =>
    by_cases c : ∀ k, k < n → f k = false
    · refine ⟨n, by omega, ?_, c⟩
      cases e : f n with
      | true => rfl
      | false =>
        refine absurd (fun k hk => ?_) h
        by_cases c2 : k = n
        · subst c2; exact e
        · exact c k (by omega)
    · obtain ⟨k, h1, h2, h3⟩ := ih c
      exact ⟨k, by omega, h2, h3⟩
theorem x_maxI {x y : Int} (h1 : -2147483648 ≤ x ∧ x < 2147483648) (h2 : -2147483648 ≤ y ∧ y < 2147483648) : x_max (iI x) (iI y) = iI (max x y) := by
  unfold x_max
  simp (disch := omega) only [iI_lt]
  split
  · congr 1; omega
  · congr 1; omega
/-- the class's parts hold it -/
def POK (t : PaS) (st : PST) : Prop := rowsOK (Pa_rest t) st.1 ∧ Pa_number t = iI (st.2.1 : Int) ∧ Pa_largest t = iI (st.2.2 : Int) ∧ st.2.2 ≤ 576 ∧ ∀ y x, st.1 y x = true → y < 24 ∧ x < 24
theorem P_row {t : PaS} {st : PST} {y : Nat} (hy : y < 24) (h : POK t st) : ∃ z t', x_loop (b_X2_split_51 (iI (y : Int))) x_fuel ((0 : Int32), t) = some (z, t') ∧ POK t' (pcol st y 24) := by
  have key := x_for (B := b_X2_split_51 (iI (y : Int))) (fun i (s : Nat × PaS) => (iI (i : Int), s.2)) (fun i s => i ≤ s.1 ∧ s.1 ≤ 24 ∧ POK s.2 (pcol st y s.1) ∧ ∀ j, j < s.1 → (pcol st y s.1).1 y j = false) 24 (fun r => ∃ z t', r = (z, t') ∧ POK t' (pcol st y 24))
    (by
      rintro i ⟨x, u⟩ hi ⟨h1, h2, h3, h4⟩
      dsimp only at h1 h2 h3 h4
      have hrow := at_row h3.1 hy (k := (y : Int)) rfl
      by_cases c : ∀ k, k < 24 → (pcol st y x).1 y k = false
      · right
        refine ⟨(iI (i : Int), u), ?_, _, u, rfl, ?_⟩
        · rw [b_X2_split_51, hrow, msk_none c, ob_some]
          simp (disch := omega) only [iL_24, iI_le]
          rw [if_neg (by omega), if_pos trivial]
        · rw [pcol_skip h2 (fun k _ hk => c k hk)]
          exact h3
      · left
        obtain ⟨x', g1, g2, g3⟩ := first_true c
        have hxx : x ≤ x' := by
          rcases Nat.lt_or_ge x' x with q | q
          · rw [h4 x' q] at g2; cases g2
          · exact q
        have es := pcol_skip (st := st) (y := y) hxx (fun k _ hk => g3 k hk)
        obtain ⟨t', e1, e2, e3, e4, e5⟩ := P_take (t := Pa_set_number u (iI ((pcol st y x).2.1 + 1 : Nat))) (R := (pcol st y x).1) h3.1 hy g1 g2 g3
        have enew : pcol st y (x' + 1) = (fun y' x'' => (pcol st y x).1 y' x'' && !cmp (pcol st y x).1 y x' y' x'', (pcol st y x).2.1 + 1, max (pcol st y x).2.2 (c24 (cmp (pcol st y x).1 y x'))) := by
          rw [pcol, es]
          unfold pst
          rw [if_pos g2]
        have hc := c24_le (cmp (pcol st y x).1 y x')
        refine ⟨(x' + 1, Pa_set_largest t' (iI (max ((pcol st y x).2.2 : Int) (c24 (cmp (pcol st y x).1 y x'))))), ?_, ?_, ?_, ?_, ?_⟩
        · rw [b_X2_split_51, hrow, ob_some, h3.2.1, h3.2.2.1, x_nm_eq, iI_suc, e1, ob_some]
          dsimp only
          have := h3.2.2.2.1
          rw [x_nm_eq, x_maxI (by omega) (by omega)]
          simp (disch := omega) only [iL_24, iI_le]
          rw [if_neg (by omega), if_neg, iI_suc]
          intro q
          have := msk_0.mp q x' g1
          rw [g2] at this
          cases this
        · show i + 1 ≤ x' + 1
          omega
        · show x' + 1 ≤ 24
          omega
        · show POK _ (pcol st y (x' + 1))
          rw [enew]
          refine ⟨e2, e3, ?_, ?_, fun y' x'' q => ?_⟩
          · show iI _ = iI _
            congr 1
            show _ = ((max (pcol st y x).2.2 (c24 (cmp (pcol st y x).1 y x')) : Nat) : Int)
            omega
          · have := h3.2.2.2.1
            show max _ _ ≤ 576
            omega
          · have q : ((pcol st y x).1 y' x'' && !cmp (pcol st y x).1 y x' y' x'') = true := q
            rw [Bool.and_eq_true] at q
            exact h3.2.2.2.2 _ _ q.1
        · intro j hj
          have hj : j < x' + 1 := hj
          show (pcol st y (x' + 1)).1 y j = false
          rw [enew]
          show ((pcol st y x).1 y j && !cmp (pcol st y x).1 y x' y j) = false
          by_cases q : j = x'
          · subst q
            rw [e5.1]
            simp
          · rw [g3 j (by omega)]
            rfl)
    (by
      rintro ⟨x, u⟩ ⟨h1, h2, h3, h4⟩
      dsimp only at h1 h2 h3 h4
      have : x = 24 := by omega
      subst this
      rw [b_X2_split_51]
      simp (disch := omega) only [iL_24, iI_le]
      rw [if_pos (by omega)]
      exact ⟨_, rfl, _, u, rfl, h3⟩)
    (0, t) ⟨Nat.le_refl _, by show 0 ≤ 24; omega, h, fun j hj => by have hj : j < 0 := hj; omega⟩ (by omega)
  obtain ⟨r, e1, z, t', rfl, h'⟩ := key
  exact ⟨z, t', e1, h'⟩
def sS (a : AL) (p : Nat) : Nat → Nat → Bool := fun y x => sn a p x y
theorem P_split {s : LyS} {a : AL} {ss : SiS} (h : LOK s a) (ha : AOK a) (hs : SOK ss a) {p : Nat} (hp : p < aN a) (t : PaS) : ∃ t', f_X2_split t ss s (iI (p : Int)) = some t' ∧ POK t' (prow (sS a p) 24) := by
  have hb := ha.b
  have k1 := x_for (B := b_X2_split_12 ss s (iI (p : Int))) (fun i (g : Nat → Int32) => (iI (i : Int), Pa_set_rest (Pa_set_largest (Pa_set_number t (0 : Int32)) (0 : Int32)) g)) (fun i g => ∀ y, y < i → g y = msk (sS a p y)) 24 (fun r => ∃ z g, r = (z, Pa_set_rest (Pa_set_largest (Pa_set_number t (0 : Int32)) (0 : Int32)) g) ∧ rowsOK g (sS a p))
    (by
      intro i g hi hI
      left
      refine ⟨upd g i (msk (sS a p i)), ?_, fun y hy => ?_⟩
      · rw [b_X2_split_12, gs_Pa_rest_rest, S_rowOf h ha hs (Or.inr ⟨p, rfl, hp⟩) (by omega), ob_some, F_put _ rfl hi (by omega), ob_some]
        simp (disch := omega) only [iL_24, iI_le]
        rw [if_neg (by omega), iI_suc]
        rfl
      · by_cases c : y = i
        · subst c; rw [upd_same]
        · rw [upd_ne _ _ c]; exact hI y (by omega))
    (by
      intro g hI
      rw [b_X2_split_12]
      simp (disch := omega) only [iL_24, iI_le]
      rw [if_pos (by omega)]
      exact ⟨_, rfl, _, g, rfl, hI⟩) (Pa_rest t) (fun y hy => by omega) (by omega)
  obtain ⟨r1, e1, z1, g, rfl, hg⟩ := k1
  have k2 := x_for (B := b_X2_split_43) (fun i (u : PaS) => (iI (i : Int), u)) (fun i u => POK u (prow (sS a p) i)) 24 (fun r => ∃ z u, r = (z, u) ∧ POK u (prow (sS a p) 24))
    (by
      intro i u hi hI
      left
      obtain ⟨z, t', f1, f2⟩ := P_row hi hI
      refine ⟨t', ?_, f2⟩
      rw [b_X2_split_43, f1, ob_some]
      simp (disch := omega) only [iL_24, iI_le]
      rw [if_neg (by omega), iI_suc])
    (by
      intro u hI
      rw [b_X2_split_43]
      simp (disch := omega) only [iL_24, iI_le]
      rw [if_pos (by omega)]
      exact ⟨_, rfl, _, u, rfl, hI⟩)
    (Pa_set_rest (Pa_set_largest (Pa_set_number t (0 : Int32)) (0 : Int32)) g) ⟨hg, rfl, rfl, by show 0 ≤ 576; omega, fun y x q => by
      have q : sn a p x y = true := q
      have := sn_iff.mp q
      omega⟩ (by omega)
  obtain ⟨r2, e2, z2, u, rfl, hu⟩ := k2
  refine ⟨u, ?_, hu⟩
  unfold f_X2_split
  have e1' : x_loop (b_X2_split_12 ss s (iI (p : Int))) x_fuel ((0 : Int32), Pa_set_largest (Pa_set_number t (0 : Int32)) (0 : Int32)) = some (z1, Pa_set_rest (Pa_set_largest (Pa_set_number t (0 : Int32)) (0 : Int32)) g) := e1
  rw [e1', ob_some]
  dsimp only
  have e2' : x_loop b_X2_split_43 x_fuel ((0 : Int32), Pa_set_rest (Pa_set_largest (Pa_set_number t (0 : Int32)) (0 : Int32)) g) = some (z2, u) := e2
  rw [e2', ob_some]
