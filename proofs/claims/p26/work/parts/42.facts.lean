/-! p26: what covers a cell -/
theorem cvI_big (a : AL) (x y : Int) : ∀ (L : Nat) (k : Int), (L : Int) ≤ k → cvI a x y L k = -109 := by
  intro L
  induction L with
  | zero => intro k _; rfl
  | succ L ih =>
    intro k hk
    rw [cvI]
    by_cases c : cov a (aO a L) x y = true
    · rw [if_pos c, if_neg (by omega)]
      exact ih (k - 1) (by omega)
    · rw [if_neg c]
      exact ih k (by omega)
theorem cvI_rng (a : AL) (x y : Int) : ∀ (L : Nat) (k : Int), cvI a x y L k = -109 ∨ ∃ l, l < L ∧ cvI a x y L k = (aO a l : Int) := by
  intro L
  induction L with
  | zero => intro k; exact Or.inl rfl
  | succ L ih =>
    intro k
    rw [cvI]
    by_cases c : cov a (aO a L) x y = true
    · rw [if_pos c]
      by_cases d : k = 0
      · rw [if_pos d]
        exact Or.inr ⟨L, by omega, rfl⟩
      · rw [if_neg d]
        rcases ih (k - 1) with h | ⟨l, h1, h2⟩
        · exact Or.inl h
        · exact Or.inr ⟨l, by omega, h2⟩
    · rw [if_neg c]
      rcases ih k with h | ⟨l, h1, h2⟩
      · exact Or.inl h
      · exact Or.inr ⟨l, by omega, h2⟩
theorem cvI_two (a : AL) (x y : Int) : ∀ L : Nat, (cvI a x y L 0 = -109 ∧ cvI a x y L 1 = -109) ∨ ∃ l0, l0 < L ∧ cvI a x y L 0 = (aO a l0 : Int) ∧ (cvI a x y L 1 = -109 ∨ ∃ l1, l1 < l0 ∧ cvI a x y L 1 = (aO a l1 : Int)) := by
  intro L
  induction L with
  | zero => exact Or.inl ⟨rfl, rfl⟩
  | succ L ih =>
    rw [cvI, cvI]
    by_cases c : cov a (aO a L) x y = true
    · rw [if_pos c, if_pos c, if_pos rfl, if_neg (by omega)]
      right
      refine ⟨L, by omega, rfl, ?_⟩
      rcases cvI_rng a x y L (1 - 1) with h | ⟨l, h1, h2⟩
      · exact Or.inl h
      · exact Or.inr ⟨l, h1, h2⟩
    · rw [if_neg c, if_neg c]
      rcases ih with h | ⟨l0, h1, h2⟩
      · exact Or.inl h
      · exact Or.inr ⟨l0, by omega, h2⟩
/-! a set of small numbers as bits -/
def bsF (v : Nat → Nat) : Nat → Nat → Bool
  | 0, _ => false
  | k + 1, i => bsF v k i || decide (i = v k)
theorem bsF_mem {v : Nat → Nat} {k i : Nat} (h : bsF v k i = true) : ∃ j, j < k ∧ v j = i := by
  induction k with
  | zero => cases h
  | succ k ih =>
    have h : (bsF v k i || decide (i = v k)) = true := h
    rw [Bool.or_eq_true] at h
    rcases h with h | h
    · obtain ⟨j, h1, h2⟩ := ih h
      exact ⟨j, by omega, h2⟩
    · exact ⟨k, by omega, (of_decide_eq_true h).symm⟩
theorem bs_0 (v : Nat → Nat) : (0 : Int32) = msk (bsF v 0) := (msk_none (fun _ _ => rfl)).symm
theorem bs_test {v : Nat → Nat} {k m : Nat} (hm : m < 24) (h : ∀ j, j < k → v j ≠ m) : ¬ ((msk (bsF v k) >>> (iI (m : Int) &&& 31)) &&& (1 : Int32)) = (1 : Int32) := by
  have hf : bsF v k m = false := by
    cases e : bsF v k m with
    | false => rfl
    | true =>
      obtain ⟨j, h1, h2⟩ := bsF_mem e
      exact absurd h2 (h j h1)
  have e := (msk_at (bsF v k) hm).mpr hf
  rw [nI_iI] at e
  rw [e]
  decide
theorem bs_set {v : Nat → Nat} {k : Nat} (hm : v k < 24) : msk (bsF v k) ||| ((1 : Int32) <<< (iI (v k : Int) &&& 31)) = msk (bsF v (k + 1)) := by
  rw [← nI_iI, msk_one (v k) hm, msk_or]
  rfl
/-! ranks -/
theorem rnk_lt {a : AL} {p : Nat} (hp : p < aN a) : rnk a p < aN a := by
  have h := sumN_lt (g := fun o => if shr a o < shr a p ∨ (shr a o = shr a p ∧ lyr a o < lyr a p) then 1 else 0) (h := fun _ => 1) (n := aN a) (fun i _ => by split <;> omega) (k := p) hp (by
    show (if shr a p < shr a p ∨ (shr a p = shr a p ∧ lyr a p < lyr a p) then 1 else 0) < 1
    rw [if_neg (by omega)]
    omega)
  rw [sumN_const] at h
  unfold rnk
  omega
theorem rnk_mono {a : AL} {p q : Nat} (hp : p < aN a) (h : shr a p < shr a q ∨ (shr a p = shr a q ∧ lyr a p < lyr a q)) : rnk a p < rnk a q := by
  refine sumN_lt (g := fun o => if shr a o < shr a p ∨ (shr a o = shr a p ∧ lyr a o < lyr a p) then 1 else 0) (h := fun o => if shr a o < shr a q ∨ (shr a o = shr a q ∧ lyr a o < lyr a q) then 1 else 0) (n := aN a) (fun i _ => ?_) (k := p) hp ?_
  · by_cases c : shr a i < shr a p ∨ (shr a i = shr a p ∧ lyr a i < lyr a p)
    · rw [if_pos c, if_pos (by omega)]
      omega
    · rw [if_neg c]
      omega
  · show (if shr a p < shr a p ∨ (shr a p = shr a p ∧ lyr a p < lyr a p) then 1 else 0) < (if shr a p < shr a q ∨ (shr a p = shr a q ∧ lyr a p < lyr a q) then 1 else 0)
    rw [if_neg (by omega), if_pos h]
    omega
theorem rnk_inj {a : AL} (ha : AOK a) {p q : Nat} (hp : p < aN a) (hq : q < aN a) (e : rnk a p = rnk a q) : p = q := by
  by_cases c : p = q
  · exact c
  · exfalso
    have hl : lyr a p ≠ lyr a q := fun z => c (lyr_inj ha hp hq z)
    by_cases d : shr a p < shr a q ∨ (shr a p = shr a q ∧ lyr a p < lyr a q)
    · have := rnk_mono hp d
      omega
    · have := rnk_mono (q := p) hq (by omega)
      omega
theorem pigeon : ∀ (n : Nat) (f : Nat → Nat), (∀ i, i < n → f i < n) → (∀ i j, i < n → j < n → f i = f j → i = j) → ∀ k, k < n → ∃ i, i < n ∧ f i = k := by
  intro n
  induction n with
  | zero => intro f _ _ k hk; omega
  | succ n ih =>
    intro f h1 h2 k hk
    have hm := h1 n (by omega)
    have hg : ∀ i, i < n → (if f i = n then f n else f i) < n := by
      intro i hi
      have a1 := h1 i (by omega)
      by_cases c : f i = n
      · rw [if_pos c]
        have : f n ≠ n := fun z => by
          have := h2 i n (by omega) (by omega) (by omega)
          omega
        omega
      · rw [if_neg c]
        omega
    have hi : ∀ i j, i < n → j < n → (if f i = n then f n else f i) = (if f j = n then f n else f j) → i = j := by
      intro i j hi hj e
      by_cases c : f i = n
      · by_cases d : f j = n
        · exact h2 i j (by omega) (by omega) (by omega)
        · rw [if_pos c, if_neg d] at e
          have := h2 n j (by omega) (by omega) e
          omega
      · by_cases d : f j = n
        · rw [if_neg c, if_pos d] at e
          have := h2 i n (by omega) (by omega) e
          omega
        · rw [if_neg c, if_neg d] at e
          exact h2 i j (by omega) (by omega) e
    by_cases ck : f n = k
    · exact ⟨n, by omega, ck⟩
    · by_cases kn : k < n
      · obtain ⟨i, hi1, hi2⟩ := ih (fun i => if f i = n then f n else f i) hg hi k kn
        by_cases c : f i = n
        · rw [if_pos c] at hi2
          exact absurd hi2 ck
        · rw [if_neg c] at hi2
          exact ⟨i, by omega, hi2⟩
      · obtain ⟨i, hi1, hi2⟩ := ih (fun i => if f i = n then f n else f i) hg hi (f n) (by omega)
        by_cases c : f i = n
        · exact ⟨i, by omega, by omega⟩
        · rw [if_neg c] at hi2
          have := h2 i n (by omega) (by omega) hi2
          omega
theorem rnk_all {a : AL} (ha : AOK a) : ∃ v : Nat → Nat, ∀ i, i < aN a → v i < aN a ∧ rnk a (v i) = i := by
  have h : ∀ i, ∃ p, i < aN a → p < aN a ∧ rnk a p = i := by
    intro i
    by_cases c : i < aN a
    · obtain ⟨p, h1, h2⟩ := pigeon (aN a) (rnk a) (fun i hi => rnk_lt hi) (fun i j hi hj e => rnk_inj ha hi hj e) i c
      exact ⟨p, fun _ => ⟨h1, h2⟩⟩
    · exact ⟨0, fun q => absurd q c⟩
  exact ⟨fun i => (h i).choose, fun i hi => (h i).choose_spec hi⟩
/-! shifts: what is found is the first that is reached -/
theorem sX_none {R : Int → Int → Bool} {c : Int} {k : Nat} (h : sX R c k = none) : ∀ j : Nat, j < k → sF R c (-c + (j : Int)) = none := by
  induction k with
  | zero => intro j hj; omega
  | succ k ih =>
    intro j hj
    rw [sX] at h
    cases e : sX R c k with
    | some r =>
      rw [e] at h
      cases h
    | none =>
      rw [e] at h
      dsimp only at h
      by_cases d : j = k
      · subst d
        exact h
      · exact ih e j (by omega)
theorem sF_none {R : Int → Int → Bool} {c X : Int} (h : sF R c X = none) : ¬ R X (-(c - ab X)) = true ∧ ¬ R X (c - ab X) = true := by
  unfold sF at h
  by_cases c1 : R X (-(c - ab X)) = true
  · rw [if_pos c1] at h; cases h
  · rw [if_neg c1] at h
    by_cases c2 : R X (c - ab X) = true
    · rw [if_pos c2] at h; cases h
    · exact ⟨c1, c2⟩
theorem sC_none_all {R : Int → Int → Bool} : ∀ N : Nat, sC R N = none → ∀ x y : Int, ab x + ab y < (N : Int) → ¬ R x y = true := by
  intro N
  induction N with
  | zero =>
    intro _ x y hxy
    have h1 := ab_b x
    have h2 := ab_b y
    omega
  | succ N ih =>
    intro h x y hxy
    have h1 := ab_b x
    have h2 := ab_b y
    rw [sC] at h
    cases e : sC R N with
    | some r =>
      rw [e] at h
      cases h
    | none =>
      rw [e] at h
      dsimp only at h
      by_cases c : ab x + ab y < (N : Int)
      · exact ih e x y c
      · have ej : -(N : Int) + (((x + N).toNat : Nat) : Int) = x := by omega
        have q := sX_none h (x + N).toNat (by omega)
        rw [ej] at q
        obtain ⟨q1, q2⟩ := sF_none q
        rcases h2.2 with e2 | e2
        · rw [show (N : Int) - ab x = y by omega] at q2
          exact q2
        · rw [show -((N : Int) - ab x) = y by omega] at q1
          exact q1
theorem sC_first {R : Int → Int → Bool} {N : Nat} {x y : Int} (h : sC R N = some (x, y)) : R x y = true ∧ ab x + ab y < (N : Int) ∧ ∀ x' y' : Int, ab x' + ab y' < ab x + ab y → ¬ R x' y' = true := by
  obtain ⟨k, g1, g2, -, g4⟩ := sC_at h
  refine ⟨sC_true h, by omega, fun x' y' hxy => ?_⟩
  exact sC_none_all k g2 x' y' (by omega)
theorem sC_found {R : Int → Int → Bool} {N : Nat} {x y : Int} (h : R x y = true) (hN : ab x + ab y < (N : Int)) : ∃ x' y', sC R N = some (x', y') ∧ ab x' + ab y' ≤ ab x + ab y := by
  cases e : sC R N with
  | none => exact absurd h (sC_none_all N e x y hN)
  | some r =>
    obtain ⟨x', y'⟩ := r
    refine ⟨x', y', rfl, ?_⟩
    obtain ⟨-, -, g⟩ := sC_first e
    by_cases c : ab x + ab y < ab x' + ab y'
    · exact absurd h (g x y c)
    · omega
theorem rch_iff {a : AL} {p nd : Nat} {x y : Int} : rchN a p nd x y = true ↔ ((-20 ≤ aP a p 0 + x ∧ aP a p 0 + x ≤ 40) ∧ -20 ≤ aP a p 1 + y ∧ aP a p 1 + y ≤ 40) ∧ con (aSh a p x y) p = true ∧ nd ≤ cons (aSh a p x y) := by
  unfold rchN
  rw [Bool.and_eq_true, Bool.and_eq_true, decide_eq_true_eq, decide_eq_true_eq]
theorem rch_mono {a : AL} {p nd nd' : Nat} {x y : Int} (hn : nd ≤ nd') (h : rchN a p nd' x y = true) : rchN a p nd x y = true := by
  obtain ⟨h1, h2, h3⟩ := rch_iff.mp h
  exact rch_iff.mpr ⟨h1, h2, by omega⟩
theorem aSh_0 (a : AL) (p : Nat) : aSh a p 0 0 = a := by
  have h : ∀ q u, aP (aSh a p 0 0) q u = aP a q u := by
    intro q u
    rw [aSh_P]
    by_cases c : q = p ∧ u = 0
    · rw [if_pos c, c.1, c.2]; omega
    · rw [if_neg c]
      by_cases c2 : q = p ∧ u = 1
      · rw [if_pos c2, c2.1, c2.2]; omega
      · rw [if_neg c2]
  exact Prod.ext rfl (Prod.ext (funext fun q => funext fun u => h q u) rfl)
theorem rch_0 {a : AL} (ha : AOK a) {p nd : Nat} (hp : p < aN a) : rchN a p nd 0 0 = true ↔ con a p = true ∧ nd ≤ cons a := by
  have hv := ha.p hp
  rw [rch_iff, aSh_0]
  exact ⟨fun q => q.2, fun q => ⟨by omega, q⟩⟩
theorem rch_0' {a : AL} {p nd : Nat} (h : rchN a p nd 0 0 = true) : con a p = true := by
  have := (rch_iff.mp h).2.1
  rw [aSh_0] at this
  exact this
theorem ab_0 {x y : Int} (h : ab x + ab y = 0) : x = 0 ∧ y = 0 := by
  have h1 := ab_b x
  have h2 := ab_b y
  omega
theorem need_mono (a : AL) {aim : Int} (h : aim = 0 ∨ aim = 1) : need a aim ≤ need a (aim + 1) := by
  have := cons_le a
  rcases h with rfl | rfl
  · exact Nat.zero_le _
  · exact this
/-- the aims, one stronger than the other -/
theorem aim_none {a : AL} {p : Nat} {aim : Int} (h : aim = 0 ∨ aim = 1) (hn : sC (rchN a p (need a aim)) 9 = none) : sC (rchN a p (need a (aim + 1))) 9 = none := by
  cases e : sC (rchN a p (need a (aim + 1))) 9 with
  | none => rfl
  | some r =>
    obtain ⟨x, y⟩ := r
    obtain ⟨h1, h2, -⟩ := sC_first e
    exact absurd (rch_mono (need_mono a h) h1) (sC_none_all 9 hn x y h2)
theorem aim_le {a : AL} {p : Nat} {aim : Int} (h : aim = 0 ∨ aim = 1) {x y x' y' : Int} (h1 : sC (rchN a p (need a aim)) 9 = some (x, y)) (h2 : sC (rchN a p (need a (aim + 1))) 9 = some (x', y')) : ab x + ab y ≤ ab x' + ab y' := by
  obtain ⟨g1, g2, -⟩ := sC_first h2
  obtain ⟨u, v, e, hle⟩ := sC_found (rch_mono (need_mono a h) g1) g2
  rw [h1] at e
  simp only [Option.some.injEq, Prod.mk.injEq] at e
  rw [e.1, e.2]
  exact hle
theorem least_0 {a : AL} (ha : AOK a) {p nd : Nat} (hp : p < aN a) {x y : Int} (h : sC (rchN a p nd) 9 = some (x, y)) : ab x + ab y = 0 ↔ con a p = true ∧ nd ≤ cons a := by
  obtain ⟨g1, -, g3⟩ := sC_first h
  rw [← rch_0 ha hp (nd := nd)]
  constructor
  · intro q
    obtain ⟨rfl, rfl⟩ := ab_0 q
    exact g1
  · intro q
    have hx := ab_b x
    have hy := ab_b y
    have h0 : ab 0 = 0 := rfl
    by_cases c : 0 < ab x + ab y
    · exact absurd q (g3 0 0 (by omega))
    · omega
/-! arranging -/
theorem bst_no {a : AL} {i : Nat} (h : (bst a i).1 = -109) : bst a i = (-109, 9, 0, 0) := by
  rcases (bst_inv (a := a) i).2 with q | ⟨j, x, y, -, q, -, -⟩
  · exact q
  · rw [q] at h
    dsimp only at h
    omega
theorem bst_none {a : AL} : ∀ i, (bst a i).1 = -109 → ∀ j, j < i → ¬ con a j = true → sC (rchN a j (cons a)) 9 = none := by
  intro i
  induction i with
  | zero => intro _ j hj; omega
  | succ i ih =>
    intro h j hj hc
    rw [bst] at h
    by_cases c : con a i = true
    · rw [if_pos c] at h
      have : j ≠ i := fun z => by subst z; exact hc c
      exact ih h j (by omega) hc
    · rw [if_neg c] at h
      cases e : sC (rchN a i (cons a)) (bst a i).2.1 with
      | none =>
        rw [e] at h
        dsimp only at h
        by_cases d : j = i
        · subst d
          rw [bst_no h] at e
          exact e
        · exact ih h j (by omega) hc
      | some r =>
        obtain ⟨x, y⟩ := r
        rw [e] at h
        dsimp only at h
        omega
theorem bst_some {a : AL} : ∀ i, (bst a i).1 ≠ -109 → ∃ j x y, j < i ∧ ¬ con a j = true ∧ bst a i = ((j : Int), (ab x + ab y).toNat, x, y) ∧ ab x + ab y ≤ 8 ∧ rchN a j (cons a) x y = true := by
  intro i
  induction i with
  | zero => intro h; exact absurd rfl h
  | succ i ih =>
    intro h
    rw [bst] at h ⊢
    by_cases c : con a i = true
    · rw [if_pos c] at h ⊢
      obtain ⟨j, x, y, h1, h2⟩ := ih h
      exact ⟨j, x, y, by omega, h2⟩
    · rw [if_neg c] at h ⊢
      cases e : sC (rchN a i (cons a)) (bst a i).2.1 with
      | none =>
        rw [e] at h
        dsimp only at h ⊢
        obtain ⟨j, x, y, h1, h2⟩ := ih h
        exact ⟨j, x, y, by omega, h2⟩
      | some r =>
        obtain ⟨x, y⟩ := r
        dsimp only
        obtain ⟨k, g1, -, -, g4⟩ := sC_at e
        have := (bst_inv (a := a) i).1
        exact ⟨i, x, y, by omega, c, rfl, by omega, sC_true e⟩
theorem nx_ok {a : AL} (h : ¬ ist a) : aN (nx a) = aN a ∧ cons a ≤ cons (nx a) ∧ 1 ≤ (bst a (aN a)).2.1 ∧ (bst a (aN a)).2.1 ≤ 8 := by
  obtain ⟨j, x, y, h1, h2, h3, h4, h5⟩ := bst_some (aN a) h
  have hx := ab_b x
  have hy := ab_b y
  have hc : ab x + ab y ≠ 0 := fun z => by
    obtain ⟨rfl, rfl⟩ := ab_0 z
    exact h2 (rch_0' h5)
  have e : nx a = aSh a j x y := by
    unfold nx
    rw [h3]
    rfl
  refine ⟨rfl, ?_, ?_, ?_⟩
  · rw [e]
    exact (rch_iff.mp h5).2.2
  · rw [h3]
    show 1 ≤ (ab x + ab y).toNat
    omega
  · rw [h3]
    show (ab x + ab y).toNat ≤ 8
    omega
theorem itr_ok {a : AL} (c : Int) : ∀ n : Nat, (∀ j, j < n → ¬ ist (itr a j)) → aN (itr a n) = aN a ∧ cons a ≤ cons (itr a n) ∧ ∃ d : Nat, n ≤ d ∧ d ≤ 8 * n ∧ tc (iI c) a n = iI (c + d) := by
  intro n
  induction n with
  | zero => intro _; exact ⟨rfl, Nat.le_refl _, 0, by omega, by omega, by rw [show c + ((0 : Nat) : Int) = c by omega]; rfl⟩
  | succ n ih =>
    intro h
    obtain ⟨h1, h2, d, h3, h4, h5⟩ := ih (fun j hj => h j (by omega))
    obtain ⟨g1, g2, g3, g4⟩ := nx_ok (h n (by omega))
    refine ⟨g1.trans h1, Nat.le_trans h2 g2, d + (bst (itr a n) (aN (itr a n))).2.1, by omega, by omega, ?_⟩
    show tc (iI c) a n + iI ((bst (itr a n) (aN (itr a n))).2.1 : Int) = _
    rw [h5, iI_add]
    congr 1
    omega
