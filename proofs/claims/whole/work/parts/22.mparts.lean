/-! the reference's parts -/
def nbr (y x y' x' : Nat) : Prop := (y' = y ∧ (x' + 1 = x ∨ x + 1 = x')) ∨ (x' = x ∧ (y' + 1 = y ∨ y + 1 = y'))
theorem adj_of {Q : Nat → Nat → Bool} {y x y' x' : Nat} (h : nbr y x y' x') (hy : y < 24) (hx : x < 24) (q : Q y x = true) : adj Q y' x' = true := by
  rw [adj_iff]
  rcases h with ⟨rfl, h | h⟩ | ⟨rfl, h | h⟩
  · exact Or.inr (Or.inl ⟨by omega, by rw [h]; exact q⟩)
  · exact Or.inl ⟨by omega, by rw [show x' - 1 = x by omega]; exact q⟩
  · exact Or.inr (Or.inr (Or.inr ⟨by omega, by rw [h]; exact q⟩))
  · exact Or.inr (Or.inr (Or.inl ⟨by omega, by rw [show y' - 1 = y by omega]; exact q⟩))
theorem adj_el {Q : Nat → Nat → Bool} {y' x' : Nat} (h : adj Q y' x' = true) : ∃ y x, nbr y x y' x' ∧ Q y x = true := by
  rw [adj_iff] at h
  unfold nbr
  rcases h with ⟨h, q⟩ | ⟨h, q⟩ | ⟨h, q⟩ | ⟨h, q⟩
  · exact ⟨_, _, by omega, q⟩
  · exact ⟨_, _, by omega, q⟩
  · exact ⟨_, _, by omega, q⟩
  · exact ⟨_, _, by omega, q⟩
def plus (N : Nat → Nat → Bool) (y x : Nat) : Nat → Nat → Bool := fun y' x' => N y' x' || (decide (y' = y) && decide (x' = x))
theorem plus_iff {N : Nat → Nat → Bool} {y x y' x' : Nat} : plus N y x y' x' = true ↔ N y' x' = true ∨ (y' = y ∧ x' = x) := by
  unfold plus
  simp
theorem c24_plus {N : Nat → Nat → Bool} {y x : Nat} (hy : y < 24) (hx : x < 24) (h : N y x = false) : c24 (plus N y x) = c24 N + 1 := by
  have e : ∀ y', sumN (fun x' => if plus N y x y' x' = true then 1 else 0) 24 = sumN (fun x' => if N y' x' = true then 1 else 0) 24 + (if y' = y then 1 else 0) := by
    intro y'
    by_cases c : y' = y
    · subst c
      have s1 := sumN_one (n := 24) (k := x) 1 hx
      rw [if_pos rfl]
      refine Eq.trans (sumN_congr (h := fun x' => (if N y' x' = true then 1 else 0) + (if x' = x then 1 else 0)) (fun x' _ => ?_)) (by rw [sumN_add, s1])
      by_cases c2 : x' = x
      · subst c2
        rw [if_pos (plus_iff.mpr (Or.inr ⟨rfl, rfl⟩)), if_neg (by rw [h]; simp), if_pos rfl]
      · rw [if_neg c2]
        by_cases c3 : N y' x' = true
        · rw [if_pos c3, if_pos (plus_iff.mpr (Or.inl c3))]
        · rw [if_neg c3, if_neg (fun q => by rcases plus_iff.mp q with q | q; exact c3 q; exact c2 q.2)]
    · rw [if_neg c, Nat.add_zero]
      refine sumN_congr (fun x' _ => ?_)
      by_cases c3 : N y' x' = true
      · rw [if_pos c3, if_pos (plus_iff.mpr (Or.inl c3))]
      · rw [if_neg c3, if_neg (fun q => by rcases plus_iff.mp q with q | q; exact c3 q; exact c q.1)]
  unfold c24
  rw [sumN_congr (fun y' _ => e y'), sumN_add, sumN_one 1 hy]
/-- gone cells in the reference's array -/
def GO (a : AL) (g : Nat → Int32) (V : Nat → Nat → Bool) : Prop := ∀ x y : Nat, x < aC a → y < aR a → g (aC a * y + x) = bnI (V y x)
/-- the open cells of one part -/
def LI (a : AL) (o : Nat → Nat) (n : Nat) (N : Nat → Nat → Bool) : Prop := (∀ k, k < n → ∃ x y, x < aC a ∧ y < aR a ∧ o k = aC a * y + x ∧ N y x = true) ∧ ∀ y x, N y x = true → ∃ k, k < n ∧ o k = aC a * y + x
section MG
variable {m : Nat → Int32} {a : AL} {sh : Nat → Int32}
def rS (a : AL) (p : Nat) (V0 : Nat → Nat → Bool) : Nat → Nat → Bool := fun y x => sS a p y x && !V0 y x
theorem rS_pg {p : Nat} {V0 : Nat → Nat → Bool} {y x : Nat} (h : rS a p V0 y x = true) : (x < aC a ∧ y < aR a) ∧ V0 y x = false ∧ sn a p x y = true := by
  unfold rS sS at h
  simp only [Bool.and_eq_true, Bool.not_eq_true'] at h
  have := sn_iff.mp h.1
  exact ⟨by omega, h.2, h.1⟩
theorem M_goTo (h : MOK m a) (ha : AOK a) (hs : ShOK sh a (-109)) {p : Nat} (hp : p < aN a) {V0 N : Nat → Nat → Bool} {g oo : Nat → Int32} {o : Nat → Nat} {n : Nat}
    (hV : GO a g (fun y x => V0 y x || N y x)) (hO : ∀ k, k < n → oo k = iI (o k : Int)) (hn : n = c24 N) (hN : grd (rS a p V0) N) (hL : LI a o n N) {X Y : Int} (hX : -1000 ≤ X ∧ X ≤ 1000) (hY : -1000 ≤ Y ∧ Y ≤ 1000) :
    ∃ (g' oo' : Nat → Int32) (o' : Nat → Nat) (n' : Nat) (N' : Nat → Nat → Bool), f_X8_goTo m sh g oo (iI (n : Int)) (iI (p : Int)) (iI X) (iI Y) = some (g', oo', iI (n' : Int)) ∧ GO a g' (fun y x => V0 y x || N' y x) ∧ (∀ k, k < n' → oo' k = iI (o' k : Int)) ∧ n' = c24 N' ∧ grd (rS a p V0) N' ∧ LI a o' n' N' ∧ sub N N' ∧ n ≤ n' ∧ (∀ k, k < n → o' k = o k) ∧
      (∀ y x, N' y x = true → N y x = true ∨ ((y : Int) = Y ∧ (x : Int) = X)) ∧ ∀ y x : Nat, (y : Int) = Y → (x : Int) = X → rS a p V0 y x = true → N' y x = true := by
  have hb := ha.b
  unfold f_X8_goTo
  rw [M_isSeen h ha hs (by omega) hX hY, ob_some]
  by_cases hsn : sn a p X Y = true
  · have hin := sn_iff.mp hsn
    obtain ⟨x, rfl⟩ : ∃ x : Nat, (x : Int) = X := ⟨X.toNat, by omega⟩
    obtain ⟨y, rfl⟩ : ∃ y : Nat, (y : Int) = Y := ⟨Y.toNat, by omega⟩
    have hx : x < aC a := by omega
    have hy : y < aR a := by omega
    have hcl := cell_lt (c := aC a) (r := aR a) (by omega) (by omega) hx hy
    rw [bI_t hsn, if_neg (by decide), iL_0, M_ld0 h, ob_some, iI_mul, iI_add, x_ldI (j := aC a * y + x) (by push_cast; rfl) hcl.1 (by omega), ob_some, show g (aC a * y + x) = bnI (V0 y x || N y x) from hV x y hx hy]
    by_cases hvn : (V0 y x || N y x) = true
    · refine ⟨g, oo, o, n, N, ?_, hV, hO, hn, hN, hL, fun _ _ e => e, Nat.le_refl _, fun _ _ => rfl, fun _ _ e => Or.inl e, fun y' x' e1 e2 e3 => ?_⟩
      · rw [hvn]
        rfl
      · have : y' = y := by omega
        have : x' = x := by omega
        subst y' x'
        have := (rS_pg e3).2.1
        rw [this] at hvn
        exact hvn
    · have hv : V0 y x = false := by
        cases e : V0 y x with
        | false => rfl
        | true => rw [e] at hvn; exact absurd rfl hvn
      have hnn : N y x = false := by
        cases e : N y x with
        | false => rfl
        | true => rw [e, Bool.or_true] at hvn; exact absurd rfl hvn
      have hr : rS a p V0 y x = true := by
        unfold rS sS
        rw [hsn, hv]
        rfl
      have hc := c24_plus (N := N) (y := y) (x := x) (by omega) (by omega) hnn
      have hc2 := c24_le (plus N y x)
      refine ⟨upd g (aC a * y + x) 1, upd oo n (iI ((aC a * y + x : Nat) : Int)), fun k => if k = n then aC a * y + x else o k, n + 1, plus N y x, ?_, fun x' y' hx' hy' => ?_, fun k hk => ?_, by rw [hc, hn], fun y' x' e => ?_, ⟨fun k hk => ?_, fun y' x' e => ?_⟩, fun y' x' e => plus_iff.mpr (Or.inl e), by omega, fun k hk => if_neg (by omega), fun y' x' e => ?_, fun y' x' e1 e2 _ => plus_iff.mpr (Or.inr ⟨by omega, by omega⟩)⟩
      · have hb0 : bnI (V0 y x || N y x) = iI 0 := by rw [hv, hnn]; rfl
        rw [hb0, if_pos rfl, ob_some, x_zr1, ob_some, iI_mul, iI_add, x_stI (j := aC a * y + x) (by push_cast; rfl) hcl.1 (by omega), ob_some, ob_some, iI_mul, iI_add, x_stI (j := n) rfl (by omega) (by omega), ob_some, x_nm_eq, iI_suc]
        have ec : (aC a : Int) * (y : Int) + x = ((aC a * y + x : Nat) : Int) := by push_cast; rfl
        rw [ec]
      · show upd g (aC a * y + x) 1 (aC a * y' + x') = bnI (V0 y' x' || plus N y x y' x')
        by_cases c : x' = x ∧ y' = y
        · obtain ⟨rfl, rfl⟩ := c
          rw [upd_same, plus_iff.mpr (Or.inr ⟨rfl, rfl⟩), Bool.or_true]
          rfl
        · rw [upd_ne _ _ (fun q => c (cell_inj hx' hx q)), show g (aC a * y' + x') = bnI (V0 y' x' || N y' x') from hV x' y' hx' hy']
          have : plus N y x y' x' = N y' x' := by
            rw [Bool.eq_iff_iff, plus_iff]
            exact ⟨fun q => by rcases q with q | q; exact q; exact absurd ⟨q.2, q.1⟩ c, Or.inl⟩
          rw [this]
      · show upd oo n (iI ((aC a * y + x : Nat) : Int)) k = iI ((if k = n then aC a * y + x else o k : Nat) : Int)
        by_cases c : k = n
        · subst c
          rw [upd_same, if_pos rfl]
        · rw [upd_ne _ _ c, if_neg c]
          exact hO k (by omega)
      · rcases plus_iff.mp e with e | ⟨rfl, rfl⟩
        · exact hN _ _ e
        · exact ⟨by omega, hr⟩
      · by_cases c : k = n
        · subst c
          exact ⟨x, y, hx, hy, if_pos rfl, plus_iff.mpr (Or.inr ⟨rfl, rfl⟩)⟩
        · obtain ⟨x', y', f1, f2, f3, f4⟩ := hL.1 k (by omega)
          exact ⟨x', y', f1, f2, (if_neg c).trans f3, plus_iff.mpr (Or.inl f4)⟩
      · rcases plus_iff.mp e with e | ⟨rfl, rfl⟩
        · obtain ⟨k, f1, f2⟩ := hL.2 _ _ e
          exact ⟨k, by omega, (if_neg (by omega)).trans f2⟩
        · exact ⟨n, by omega, if_pos rfl⟩
      · rcases plus_iff.mp e with e | ⟨rfl, rfl⟩
        · exact Or.inl e
        · exact Or.inr ⟨rfl, rfl⟩
  · refine ⟨g, oo, o, n, N, ?_, hV, hO, hn, hN, hL, fun _ _ e => e, Nat.le_refl _, fun _ _ => rfl, fun _ _ e => Or.inl e, fun y' x' e1 e2 e3 => ?_⟩
    · rw [bI_f hsn, if_pos rfl]
    · have := (rS_pg e3).2.2
      rw [e1, e2] at this
      exact absurd this hsn
theorem M_partAt (h : MOK m a) (ha : AOK a) (hs : ShOK sh a (-109)) {p : Nat} (hp : p < aN a) {V0 : Nat → Nat → Bool} {g : Nat → Int32} (hV : GO a g V0) (oo : Nat → Int32) (n0 : Int32) {x y : Nat} (hx : x < aC a) (hy : y < aR a) :
    ∃ (g' oo' : Nat → Int32) (n' : Nat) (N : Nat → Nat → Bool), f_X8_partAt m sh g oo n0 (iI (p : Int)) (iI ((aC a * y + x : Nat) : Int)) = some (iI (n' : Int), g', oo', iI (n' : Int)) ∧ GO a g' (fun y x => V0 y x || N y x) ∧ n' = c24 N ∧ (rS a p V0 y x = true → isC (rS a p V0) y x N) ∧ (rS a p V0 y x = false → n' = 0 ∧ N = fun _ _ => false) := by
  have hb := ha.b
  have hcl := cell_lt (c := aC a) (r := aR a) (by omega) (by omega) hx hy
  have hdm := cell_dm (c := aC a) (y := y) hx
  have c0 : c24 (fun _ _ => false) = 0 := sumN_none (fun _ _ => sumN_none (fun _ _ => if_neg (by simp)))
  obtain ⟨g1, oo1, o1, n1, N1, e1, i1, i2, i3, i4, i5, -, -, -, i6, i7⟩ := M_goTo h ha hs hp (V0 := V0) (N := fun _ _ => false) (g := g) (oo := oo) (o := fun _ => 0) (n := 0) (fun x y h1 h2 => by
    show g (aC a * y + x) = bnI (V0 y x || false)
    rw [Bool.or_false]
    exact hV x y h1 h2) (fun k hk => by omega) c0.symm (fun _ _ e => by cases e) ⟨fun k hk => by omega, fun _ _ e => by cases e⟩ (X := x) (Y := y) (by omega) (by omega)
  have key := x_for (B := b_X8_partAt_28 m sh (iI (p : Int))) (fun i (s : (Nat → Int32) × (Nat → Int32) × (Nat → Nat) × Nat × (Nat → Nat → Bool)) => (iI (i : Int), s.1, s.2.1, iI (s.2.2.2.1 : Int)))
    (fun i s => GO a s.1 (fun y x => V0 y x || s.2.2.2.2 y x) ∧ (∀ k, k < s.2.2.2.1 → s.2.1 k = iI (s.2.2.1 k : Int)) ∧ s.2.2.2.1 = c24 s.2.2.2.2 ∧ grd (rS a p V0) s.2.2.2.2 ∧ LI a s.2.2.1 s.2.2.2.1 s.2.2.2.2 ∧ i ≤ s.2.2.2.1 ∧
      (∀ k, k < i → ∀ y x y' x', s.2.2.1 k = aC a * y + x → x < aC a → nbr y x y' x' → rS a p V0 y' x' = true → s.2.2.2.2 y' x' = true) ∧ mnm (rS a p V0) y x s.2.2.2.2 ∧ sub N1 s.2.2.2.2 ∧ (n1 = 0 → s.2.2.2.2 = N1))
    576 (fun r => ∃ (z : Int32) (g' oo' : Nat → Int32) (o' : Nat → Nat) (n' : Nat) (N : Nat → Nat → Bool), r = (z, g', oo', iI (n' : Int)) ∧ GO a g' (fun y x => V0 y x || N y x) ∧ n' = c24 N ∧ grd (rS a p V0) N ∧ LI a o' n' N ∧ (∀ k, k < n' → ∀ y x y' x', o' k = aC a * y + x → x < aC a → nbr y x y' x' → rS a p V0 y' x' = true → N y' x' = true) ∧ mnm (rS a p V0) y x N ∧ sub N1 N ∧ (n1 = 0 → N = N1))
    (by
      rintro i ⟨g, oo, o, n, N⟩ hi ⟨j1, j2, j3, j4, j5, j6, j7, j8, j9, j10⟩
      dsimp only at j1 j2 j3 j4 j5 j6 j7 j8 j9 j10
      by_cases hin : i < n
      · left
        obtain ⟨x', y', f1, f2, f3, f4⟩ := j5.1 i hin
        have hcl' := cell_lt (c := aC a) (r := aR a) (by omega) (by omega) f1 f2
        have hdm' := cell_dm (c := aC a) (y := y') f1
        obtain ⟨ga, ooa, oa, na, Na, ea, a1, a2, a3, a4, a5, a6, a7, a8, a9, a10⟩ := M_goTo h ha hs hp j1 j2 j3 j4 j5 (X := (x' : Int) - 1) (Y := y') (by omega) (by omega)
        obtain ⟨gb, oob, ob, nb', Nb, eb, b1, b2, b3, b4, b5, b6, b7, b8, b9, b10⟩ := M_goTo h ha hs hp a1 a2 a3 a4 a5 (X := (x' : Int) + 1) (Y := y') (by omega) (by omega)
        obtain ⟨gc, ooc, oc, nc, Nc, ec, c1, c2, c3, c4, c5, c6, c7, c8, c9, c10⟩ := M_goTo h ha hs hp b1 b2 b3 b4 b5 (X := (x' : Int)) (Y := (y' : Int) - 1) (by omega) (by omega)
        obtain ⟨gd, ood, od, nd, Nd, ed, d1, d2, d3, d4, d5, d6, d7, d8, d9, d10⟩ := M_goTo h ha hs hp c1 c2 c3 c4 c5 (X := (x' : Int)) (Y := (y' : Int) + 1) (by omega) (by omega)
        have hod : ∀ k, k < n → od k = o k := fun k hk => by rw [d8 k (by omega), c8 k (by omega), b8 k (by omega), a8 k hk]
        have hsub : sub N Nd := fun _ _ e => d6 _ _ (c6 _ _ (b6 _ _ (a6 _ _ e)))
        refine ⟨(gd, ood, od, nd, Nd), ?_, d1, d2, d3, d4, d5, by show i + 1 ≤ nd; omega, fun k hk y1 x1 y2 x2 g1 g0 g2 g3 => ?_, fun Q hQ hQ2 y1 x1 e => ?_, fun _ _ e => hsub _ _ (j9 _ _ e), fun q => ?_⟩
        · rw [b_X8_partAt_28]
          have hcN := c24_le N
          simp (disch := omega) only [iI_le]
          rw [if_neg (by omega), x_ldI (j := i) rfl (by omega) (by omega), j2 i hin, f3, ob_some, iL_0, M_ld0 h, ob_some, x_remI (by omega) (by omega) (by omega) (by omega), ob_some, ob_some, ob_some, x_divI (by omega) (by omega) (by omega) (by omega), ob_some, hdm'.1, hdm'.2, iL_1, iI_sub, ea, ob_some]
          dsimp only
          rw [iI_add, eb, ob_some]
          dsimp only
          rw [iI_sub, ec, ob_some]
          dsimp only
          rw [iI_add, ed, ob_some]
          dsimp only
          rw [iI_add]
          rfl
        · by_cases c : k = i
          · subst c
            have g1 : od k = aC a * y1 + x1 := g1
            rw [hod k hin, f3] at g1
            obtain ⟨rfl, rfl⟩ := cell_inj f1 g0 g1
            show Nd y2 x2 = true
            rcases g2 with ⟨rfl, q | q⟩ | ⟨rfl, q | q⟩
            · exact d6 _ _ (c6 _ _ (b6 _ _ (a10 _ _ rfl (by omega) g3)))
            · exact d6 _ _ (c6 _ _ (b10 _ _ rfl (by omega) g3))
            · exact d6 _ _ (c10 _ _ (by omega) rfl g3)
            · exact d10 _ _ (by omega) rfl g3
          · have g1 : od k = aC a * y1 + x1 := g1
            rw [hod k (by omega)] at g1
            exact hsub _ _ (j7 k (by omega) y1 x1 y2 x2 g1 g0 g2 g3)
        · have hq : ∀ y1 x1, N y1 x1 = true → Q y1 x1 = true := j8 Q hQ hQ2
          have hQ' : Q y' x' = true := hq _ _ f4
          have lift : ∀ (Nx Ny : Nat → Nat → Bool) (X Y : Int), (∀ y x, Ny y x = true → Nx y x = true ∨ ((y : Int) = Y ∧ (x : Int) = X)) → grd (rS a p V0) Ny → (∀ y2 x2 : Nat, (y2 : Int) = Y → (x2 : Int) = X → nbr y' x' y2 x2) → (∀ y1 x1, Nx y1 x1 = true → Q y1 x1 = true) → ∀ y1 x1, Ny y1 x1 = true → Q y1 x1 = true := by
            intro Nx Ny X Y g1 g2 g3 g4 y1 x1 e
            rcases g1 y1 x1 e with q | ⟨q1, q2⟩
            · exact g4 _ _ q
            · have := g2 y1 x1 e
              exact hQ y1 x1 this.1.1 this.1.2 this.2 (adj_of (g3 y1 x1 q1 q2) (by omega) (by omega) hQ')
          have qa := lift N Na _ _ a9 a4 (fun y2 x2 q1 q2 => Or.inl (by omega)) hq
          have qb := lift Na Nb _ _ b9 b4 (fun y2 x2 q1 q2 => Or.inl (by omega)) qa
          have qc := lift Nb Nc _ _ c9 c4 (fun y2 x2 q1 q2 => Or.inr (by omega)) qb
          exact lift Nc Nd _ _ d9 d4 (fun y2 x2 q1 q2 => Or.inr (by omega)) qc y1 x1 e
        · have hNN := j10 q
          have : n = n1 := by rw [j3, hNN, i3]
          omega
      · right
        refine ⟨(iI (i : Int), g, oo, iI (n : Int)), ?_, _, g, oo, o, n, N, rfl, j1, j3, j4, j5, ?_, j8, j9, j10⟩
        · rw [b_X8_partAt_28]
          have := c24_le N
          simp (disch := omega) only [iI_le]
          rw [if_pos (by omega)]
        · have : i = n := by omega
          rw [← this]
          exact j7)
    (by
      rintro ⟨g, oo, o, n, N⟩ ⟨j1, j2, j3, j4, j5, j6, j7, j8, j9, j10⟩
      dsimp only at j1 j2 j3 j4 j5 j6 j7 j8 j9 j10
      have := c24_le N
      have hn : 576 = n := by omega
      refine ⟨(iI ((576 : Nat) : Int), g, oo, iI (n : Int)), ?_, _, g, oo, o, n, N, rfl, j1, j3, j4, j5, ?_, j8, j9, j10⟩
      · rw [b_X8_partAt_28]
        simp (disch := omega) only [iI_le]
        rw [if_pos (by omega)]
      · rw [← hn]
        exact j7)
    (g1, oo1, o1, n1, N1) ⟨i1, i2, i3, i4, i5, Nat.zero_le _, fun k hk => by omega, fun Q _ hQ2 y1 x1 e => by
      rcases i6 y1 x1 e with q | ⟨q1, q2⟩
      · cases q
      · have e1 : y1 = y := by omega
        have e2 : x1 = x := by omega
        rw [e1, e2]
        exact hQ2, fun _ _ e => e, fun _ => rfl⟩ (by omega)
  obtain ⟨r, e2, z, g', oo', o', n', N, rfl, k1, k2, k3, k4, k5, k6, k7, k8⟩ := key
  refine ⟨g', oo', n', N, ?_, k1, k2, fun q => ⟨k7 _ _ (i7 y x rfl rfl q), k3, fun y1 x1 hy1 hx1 q1 q2 => ?_, k6⟩, fun q => ?_⟩
  · unfold f_X8_partAt
    rw [iL_0, M_ld0 h, ob_some, x_remI (by omega) (by omega) (by omega) (by omega), ob_some, ob_some, x_divI (by omega) (by omega) (by omega) (by omega), ob_some, hdm.1, hdm.2]
    have e1' : f_X8_goTo m sh g oo (iI 0) (iI (p : Int)) (iI (x : Int)) (iI (y : Int)) = some (g1, oo1, iI (n1 : Int)) := e1
    rw [e1', ob_some]
    dsimp only
    have e2' : x_loop (b_X8_partAt_28 m sh (iI (p : Int))) x_fuel (iI 0, g1, oo1, iI (n1 : Int)) = some (z, g', oo', iI (n' : Int)) := e2
    rw [e2', ob_some]
  · obtain ⟨y2, x2, q3, q4⟩ := adj_el q2
    obtain ⟨k, q5, q6⟩ := k4.2 _ _ q4
    have := (rS_pg (k3 _ _ q4).2).1
    exact k5 k q5 y2 x2 y1 x1 q6 this.1 q3 q1
  · have hN1 : N1 = fun _ _ => false := by
      funext y1 x1
      cases e : N1 y1 x1 with
      | false => rfl
      | true =>
        rcases i6 y1 x1 e with q' | ⟨q1, q2⟩
        · cases q'
        · have e1 : y1 = y := by omega
          have e2 : x1 = x := by omega
          have := (i4 _ _ e).2
          rw [e1, e2, q] at this
          cases this
    have hn1 : n1 = 0 := by rw [i3, hN1]; exact c0
    have hN := k8 hn1
    exact ⟨by rw [k2, hN, hN1]; exact c0, by rw [hN, hN1]⟩
end MG
