/-! all parts of the reference -/
theorem pst_sub {st : PST} {y x y' x' : Nat} (h : (pst st y x).1 y' x' = true) : st.1 y' x' = true := by
  unfold pst at h
  split at h
  · have h : (st.1 y' x' && !cmp st.1 y x y' x') = true := h
    rw [Bool.and_eq_true] at h
    exact h.1
  · exact h
theorem pcol_sub {st : PST} {y n y' x' : Nat} (h : (pcol st y n).1 y' x' = true) : st.1 y' x' = true := by
  induction n with
  | zero => exact h
  | succ n ih => exact ih (pst_sub h)
theorem prow_sub {S : Nat → Nat → Bool} {n y' x' : Nat} (h : (prow S n).1 y' x' = true) : S y' x' = true := by
  induction n with
  | zero => exact h
  | succ n ih => exact ih (pcol_sub h)
theorem prow_skip {S : Nat → Nat → Bool} {r m : Nat} (hr : r ≤ m) (h : ∀ y x, S y x = true → y < r) : prow S m = prow S r := by
  induction m with
  | zero =>
    have : r = 0 := by omega
    subst this
    rfl
  | succ m ih =>
    by_cases c : r = m + 1
    · subst c; rfl
    · rw [← ih (by omega), prow]
      refine pcol_skip (n := 0) (by omega) (fun k _ _ => ?_)
      cases e : (pcol (prow S m) m 0).1 m k with
      | false => rfl
      | true =>
        have := h _ _ (prow_sub (pcol_sub e))
        omega
noncomputable def pk (S : Nat → Nat → Bool) (c : Nat) : Nat → PST
  | 0 => (S, 0, 0)
  | k + 1 => pst (pk S c k) (k / c) (k % c)
theorem pk_col {S : Nat → Nat → Bool} {c : Nat} (hc : 0 < c ∧ c ≤ 24) (hS : ∀ y x, S y x = true → x < c) (y : Nat) : ∀ x, x ≤ c → pk S c (c * y + x) = pcol (prow S y) y x := by
  have inner : ∀ y, pk S c (c * y) = prow S y → ∀ x, x ≤ c → pk S c (c * y + x) = pcol (prow S y) y x := by
    intro y h x
    induction x with
    | zero => intro _; exact h
    | succ x ih =>
      intro hx
      have h1 : (c * y + x) % c = x := by rw [Nat.mul_add_mod_self_left, Nat.mod_eq_of_lt (by omega)]
      have h3 : (c * y + x) / c = y := by rw [Nat.mul_add_div (by omega), Nat.div_eq_of_lt (by omega), Nat.add_zero]
      show pst (pk S c (c * y + x)) ((c * y + x) / c) ((c * y + x) % c) = pst (pcol (prow S y) y x) y x
      rw [h1, h3, ih (by omega)]
  have outer : ∀ y, pk S c (c * y) = prow S y := by
    intro y
    induction y with
    | zero => rfl
    | succ y ih =>
      rw [Nat.mul_succ, inner y ih c (Nat.le_refl _), prow]
      refine (pcol_skip hc.2 (fun k h1 _ => ?_)).symm
      cases e : (pcol (prow S y) y c).1 y k with
      | false => rfl
      | true =>
        have := hS _ _ (prow_sub (pcol_sub e))
        omega
  exact inner y (outer y)
theorem pk_all {a : AL} (ha : AOK a) (p : Nat) : pk (sS a p) (aC a) (aC a * aR a) = prow (sS a p) 24 := by
  have hb := ha.b
  have hS : ∀ y x, sS a p y x = true → x < aC a ∧ y < aR a := fun y x q => by
    have q : sn a p x y = true := q
    have := sn_iff.mp q
    omega
  have := pk_col (S := sS a p) (c := aC a) (by omega) (fun y x q => (hS y x q).1) (aR a) 0 (by omega)
  rw [prow_skip (r := aR a) (by omega) (fun y x q => (hS y x q).2)]
  exact this
section MG
variable {m : Nat → Int32} {a : AL} {sh : Nat → Int32}
theorem M_parts (h : MOK m a) (ha : AOK a) (hs : ShOK sh a (-109)) {p : Nat} (hp : p < aN a) (g0 oo0 : Nat → Int32) (n0 : Int32) (w : Int32) :
    ∃ g' oo' n', f_X8_parts m sh g0 oo0 n0 (iI (p : Int)) w = some (if w = 0 then iI ((prow (sS a p) 24).2.1 : Int) else iI ((prow (sS a p) 24).2.2 : Int), g', oo', n') := by
  have hb := ha.b
  have hcr : aC a * aR a ≤ 576 := Nat.le_trans (Nat.mul_le_mul (show aC a ≤ 24 by omega) (show aR a ≤ 24 by omega)) (by decide)
  have k1 := x_for (B := b_X8_parts_8) (fun i (g : Nat → Int32) => (iI (i : Int), g)) (fun i g => ∀ k, k < i → g k = 0) 576 (fun r => ∃ z g, r = (z, g) ∧ ∀ k, k < 576 → g k = 0)
    (by
      intro i g hi hI
      left
      refine ⟨upd g i 0, ?_, fun k hk => ?_⟩
      · rw [b_X8_parts_8, x_zr0, ob_some, x_stI rfl hi (by omega), ob_some]
        simp (disch := omega) only [iL_576, iI_le]
        rw [if_neg (by omega), iI_suc]
      · by_cases c : k = i
        · subst c; rw [upd_same]
        · rw [upd_ne _ _ c]; exact hI k (by omega))
    (by
      intro g hI
      rw [b_X8_parts_8]
      simp (disch := omega) only [iL_576, iI_le]
      rw [if_pos (by omega)]
      exact ⟨_, rfl, _, g, rfl, hI⟩) g0 (fun k hk => by omega) (by omega)
  obtain ⟨r1, e1, z1, g1, rfl, hg1⟩ := k1
  have k2 := x_for (B := b_X8_parts_33 m sh (iI (p : Int))) (fun i (s : Nat × Nat × (Nat → Int32) × (Nat → Int32) × Int32 × (Nat → Nat → Bool)) => (iI (s.1 : Int), iI (s.2.1 : Int), iI (i : Int), s.2.2.1, s.2.2.2.1, s.2.2.2.2.1))
    (fun i s => GO a s.2.2.1 s.2.2.2.2.2 ∧ rS a p s.2.2.2.2.2 = (pk (sS a p) (aC a) i).1 ∧ s.1 = (pk (sS a p) (aC a) i).2.1 ∧ s.2.1 = (pk (sS a p) (aC a) i).2.2 ∧ s.2.1 ≤ 576)
    (aC a * aR a) (fun r => ∃ z1 z2 z3 z4, r = (iI ((prow (sS a p) 24).2.1 : Int), iI ((prow (sS a p) 24).2.2 : Int), z1, z2, z3, z4))
    (by
      rintro i ⟨nu, la, g, oo, n, V⟩ hi ⟨j1, j2, j3, j4, j5⟩
      dsimp only at j1 j2 j3 j4 j5
      left
      obtain ⟨x, y, hx, hy, rfl⟩ := cell_of hi
      have h1 : (aC a * y + x) % aC a = x := by rw [Nat.mul_add_mod_self_left, Nat.mod_eq_of_lt hx]
      have h3 : (aC a * y + x) / aC a = y := by rw [Nat.mul_add_div (by omega), Nat.div_eq_of_lt hx, Nat.add_zero]
      have enew : pk (sS a p) (aC a) (aC a * y + x + 1) = pst (pk (sS a p) (aC a) (aC a * y + x)) y x := by
        show pst _ ((aC a * y + x) / aC a) ((aC a * y + x) % aC a) = _
        rw [h1, h3]
      obtain ⟨g', oo', n', N, f1, f2, f3, f4, f5⟩ := M_partAt h ha hs hp j1 oo n hx hy
      have hc := c24_le N
      have hstep : b_X8_parts_33 m sh (iI (p : Int)) (iI (nu : Int), iI (la : Int), iI ((aC a * y + x : Nat) : Int), g, oo, n) = some (.inl (iI ((nu + if n' = 0 then 0 else 1 : Nat) : Int), iI ((max la n' : Nat) : Int), iI ((aC a * y + x + 1 : Nat) : Int), g', oo', iI (n' : Int))) := by
        rw [b_X8_parts_33, f1]
        simp only [iL_0, iL_1]
        rw [M_ld0 h, M_ld1 h, ob_some, ob_some, ob_some]
        dsimp only
        rw [iI_mul, cr_cast]
        simp (disch := omega) only [iI_le]
        rw [if_neg (by omega)]
        by_cases c : n' = 0
        · subst c
          rw [if_pos (by omega), ob_some, x_nm_eq, if_pos (by omega), if_pos rfl, iI_add, iI_add]
          rw [show max la 0 = la by omega]
          rfl
        · rw [if_neg (by omega), ob_some, x_nm_eq, if_neg c, iI_add, iI_add]
          by_cases c2 : n' ≤ la
          · rw [if_pos (by omega), show max la n' = la by omega]
            rfl
          · rw [if_neg (by omega), show max la n' = n' by omega]
            rfl
      refine ⟨(nu + if n' = 0 then 0 else 1, max la n', g', oo', iI (n' : Int), fun y x => V y x || N y x), hstep, f2, ?_, ?_, ?_, by show max la n' ≤ 576; omega⟩
      all_goals rw [enew]
      all_goals unfold pst
      all_goals rw [← j2]
      · cases e : rS a p V y x with
        | true =>
          rw [if_pos rfl]
          have hN := isC_cmp (f4 e)
          funext y1 x1
          show rS a p (fun y x => V y x || N y x) y1 x1 = (rS a p V y1 x1 && !cmp (rS a p V) y x y1 x1)
          rw [hN]
          show (sS a p y1 x1 && !(V y1 x1 || N y1 x1)) = (sS a p y1 x1 && !V y1 x1 && !N y1 x1)
          cases sS a p y1 x1 <;> cases V y1 x1 <;> cases N y1 x1 <;> rfl
        | false =>
          rw [if_neg Bool.false_ne_true, ← j2, (f5 e).2]
          funext y1 x1
          show (sS a p y1 x1 && !(V y1 x1 || false)) = (sS a p y1 x1 && !V y1 x1)
          rw [Bool.or_false]
      · cases e : rS a p V y x with
        | true =>
          rw [if_pos rfl]
          have := f4 e
          have hpos : 1 ≤ c24 N := c24_pos (by omega) (by omega) this.1
          show nu + (if n' = 0 then 0 else 1) = _ + 1
          rw [if_neg (by omega), j3]
        | false =>
          rw [if_neg Bool.false_ne_true]
          show nu + (if n' = 0 then 0 else 1) = _
          rw [if_pos (f5 e).1, j3]
          rfl
      · cases e : rS a p V y x with
        | true =>
          rw [if_pos rfl]
          have hN := isC_cmp (f4 e)
          show max la n' = max _ (c24 (cmp (rS a p V) y x))
          rw [hN, f3, j4]
        | false =>
          rw [if_neg Bool.false_ne_true]
          show max la n' = _
          rw [(f5 e).1, ← j4]
          omega)
    (by
      rintro ⟨nu, la, g, oo, n, V⟩ ⟨j1, j2, j3, j4, j5⟩
      dsimp only at j1 j2 j3 j4 j5
      rw [pk_all ha] at j3 j4
      rw [b_X8_parts_33]
      simp only [iL_0, iL_1]
      rw [M_ld0 h, M_ld1 h, ob_some, ob_some, iI_mul, cr_cast]
      simp (disch := omega) only [iI_le]
      rw [if_pos (by omega)]
      exact ⟨_, rfl, _, _, _, _, by rw [j3, j4]⟩)
    (0, 0, g1, oo0, n0, fun _ _ => false) ⟨fun x y hx hy => by
      have hcl := cell_lt (c := aC a) (r := aR a) (by omega) (by omega) hx hy
      exact hg1 _ hcl.1, by
      funext y x
      show (sS a p y x && !false) = sS a p y x
      rw [Bool.not_false, Bool.and_true], rfl, rfl, by show 0 ≤ 576; omega⟩ (by omega)
  obtain ⟨r2, e2, z2, z3, z4, z5, rfl⟩ := k2
  refine ⟨z3, z4, z5, ?_⟩
  unfold f_X8_parts
  have e1' : x_loop b_X8_parts_8 x_fuel ((0 : Int32), g0) = some (z1, g1) := e1
  rw [e1', ob_some]
  dsimp only
  have e2' : x_loop (b_X8_parts_33 m sh (iI (p : Int))) x_fuel ((0 : Int32), (0 : Int32), (0 : Int32), g1, oo0, n0) = some (iI ((prow (sS a p) 24).2.1 : Int), iI ((prow (sS a p) 24).2.2 : Int), z2, z3, z4, z5) := e2
  rw [e2', ob_some]
  dsimp only
  split <;> rfl
end MG
