/-! p26: sums over the cells of the page -/
theorem sumN_const (c n : Nat) : sumN (fun _ => c) n = n * c := by
  induction n with
  | zero => exact (Nat.zero_mul c).symm
  | succ n ih =>
    show sumN (fun _ => c) n + c = (n + 1) * c
    rw [ih, Nat.succ_mul]
theorem sumN_mulc (c : Nat) (g : Nat → Nat) (n : Nat) : sumN (fun i => c * g i) n = c * sumN g n := by
  induction n with
  | zero => rfl
  | succ n ih =>
    show sumN (fun i => c * g i) n + c * g n = c * (sumN g n + g n)
    rw [ih, Nat.mul_add]
theorem sumN_out (g : Nat → Nat) {k n : Nat} (h : k < n) : sumN (fun q => if q = k then 0 else g q) n + g k = sumN g n := by
  have e : sumN (fun q => if q = k then g q else 0) n = g k := sumN_at h
  have e2 : sumN (fun q => (if q = k then 0 else g q) + (if q = k then g q else 0)) n = sumN g n := sumN_congr (fun i _ => by
    by_cases c : i = k
    · rw [if_pos c, if_pos c, Nat.zero_add]
    · rw [if_neg c, if_neg c, Nat.add_zero])
  rw [← e2, sumN_add, e]
theorem sumN_eq0 {g : Nat → Nat} {n : Nat} (h : sumN g n = 0) : ∀ i, i < n → g i = 0 := by
  induction n with
  | zero => intro i hi; omega
  | succ n ih =>
    have h : sumN g n + g n = 0 := h
    intro i hi
    by_cases c : i = n
    · subst c; omega
    · exact ih (by omega) i (by omega)
theorem sumN_cut (g : Nat → Nat) {m n : Nat} (hm : m ≤ n) (h : ∀ i, m ≤ i → i < n → g i = 0) : sumN g n = sumN g m := by
  induction n with
  | zero =>
    have : m = 0 := by omega
    subst this
    rfl
  | succ n ih =>
    by_cases c : m = n + 1
    · subst c; rfl
    · have e := ih (by omega) (fun i h1 h2 => h i h1 (by omega))
      have e2 := h n (by omega) (by omega)
      show sumN g n + g n = sumN g m
      omega
def S2 (a : AL) (f : Nat → Nat → Nat) : Nat := sumN (fun y => sumN (fun x => f x y) (aC a)) (aR a)
theorem S2_congr {a : AL} {f g : Nat → Nat → Nat} (h : ∀ x y, x < aC a → y < aR a → f x y = g x y) : S2 a f = S2 a g := sumN_congr (fun y hy => sumN_congr (fun x hx => h x y hx hy))
theorem S2_add (a : AL) (f g : Nat → Nat → Nat) : S2 a (fun x y => f x y + g x y) = S2 a f + S2 a g := by
  unfold S2
  rw [← sumN_add]
  exact sumN_congr (fun y _ => sumN_add _ _ _)
theorem S2_sum (a : AL) (f : Nat → Nat → Nat → Nat) (n : Nat) : sumN (fun q => S2 a (f q)) n = S2 a (fun x y => sumN (fun q => f q x y) n) := by
  induction n with
  | zero =>
    show 0 = sumN (fun y => sumN (fun x => 0) (aC a)) (aR a)
    rw [sumN_none (fun y _ => sumN_none (fun x _ => rfl))]
  | succ n ih =>
    show sumN (fun q => S2 a (f q)) n + S2 a (f n) = S2 a (fun x y => sumN (fun q => f q x y) n + f n x y)
    rw [ih, S2_add]
theorem S2_const (a : AL) (c : Nat) : S2 a (fun _ _ => c) = aR a * (aC a * c) := by
  unfold S2
  rw [← sumN_const (aC a * c) (aR a)]
  exact sumN_congr (fun y _ => sumN_const c (aC a))
theorem S2_mulc (a : AL) (c : Nat) (f : Nat → Nat → Nat) : S2 a (fun x y => c * f x y) = c * S2 a f := by
  unfold S2
  rw [← sumN_mulc]
  exact sumN_congr (fun y _ => sumN_mulc _ _ _)
theorem S2_none {a : AL} {f : Nat → Nat → Nat} (h : ∀ x y, x < aC a → y < aR a → f x y = 0) : S2 a f = 0 := sumN_none (fun y hy => sumN_none (fun x hx => h x y hx hy))
theorem S2_swap (a : AL) (f : Nat → Nat → Nat) : S2 a f = sumN (fun x => sumN (fun y => f x y) (aR a)) (aC a) := sumN_swap (fun y x => f x y) (aR a) (aC a)
theorem cnt_S2 (a : AL) (q : Int) : cnt a q = S2 a (fun x y => if top a x y = q then 1 else 0) := rfl
theorem top_or {a : AL} (ha : AOK a) (x y : Int) : top a x y = -1 ∨ ∃ p : Nat, p < aN a ∧ top a x y = (p : Int) := by
  rcases tW_range a (-109) x y (aN a) with h | ⟨l, h1, h2, -⟩
  · exact Or.inl h
  · exact Or.inr ⟨aO a l, ha.o h1, h2⟩
theorem top_one {a : AL} (ha : AOK a) (x y : Int) : sumN (fun q : Nat => if top a x y = (q : Int) then 1 else 0) (aN a) + (if top a x y = -1 then 1 else 0) = 1 := by
  rcases top_or ha x y with h | ⟨p, hp, h⟩
  · have e : sumN (fun q : Nat => if top a x y = (q : Int) then 1 else 0) (aN a) = 0 := sumN_none (fun q _ => if_neg (by rw [h]; omega))
    rw [e, if_pos h]
  · have e : sumN (fun q : Nat => if top a x y = (q : Int) then 1 else 0) (aN a) = 1 := by
      refine Eq.trans (sumN_congr (h := fun q => if q = p then 1 else 0) (fun q _ => ?_)) (sumN_one 1 hp)
      by_cases c : q = p
      · rw [if_pos c, if_pos (by rw [h, c])]
      · rw [if_neg c, if_neg (by rw [h]; omega)]
    rw [e, if_neg (by rw [h]; omega)]
/-- every cell of the page belongs to one piece, or to the page -/
theorem page_sum {a : AL} (ha : AOK a) : sumN (fun p : Nat => cnt a (p : Int)) (aN a) + cnt a (-1) = aR a * aC a := by
  have e1 : sumN (fun p : Nat => cnt a (p : Int)) (aN a) = S2 a (fun x y => sumN (fun q : Nat => if top a x y = (q : Int) then 1 else 0) (aN a)) := S2_sum a (fun q x y => if top a x y = (q : Int) then 1 else 0) (aN a)
  rw [e1, cnt_S2, ← S2_add, S2_congr (g := fun _ _ => 1) (fun x y _ _ => top_one ha x y), S2_const, Nat.mul_one]
theorem cov_top {a : AL} {x y : Int} {l : Nat} (hl : l < aN a) (hc : cov a (aO a l) x y = true) : ∃ l', l ≤ l' ∧ l' < aN a ∧ top a x y = (aO a l' : Int) := by
  have key : ∀ L, L ≤ aN a → l < L → ∃ l', l ≤ l' ∧ l' < L ∧ tW a (-109) x y L = (aO a l' : Int) := by
    intro L
    induction L with
    | zero => intro _ h; omega
    | succ L ih =>
      intro hL h
      rw [tW]
      by_cases c : cov a (aO a L) x y = true ∧ (aO a L : Int) ≠ -109
      · rw [if_pos c]
        exact ⟨L, by omega, by omega, rfl⟩
      · rw [if_neg c]
        have hlL : l < L := by
          rcases Nat.lt_or_ge l L with h' | h'
          · exact h'
          · have e : l = L := by omega
            subst e
            exact absurd ⟨hc, by omega⟩ c
        obtain ⟨l', h1, h2, h3⟩ := ih (by omega) hlL
        exact ⟨l', h1, by omega, h3⟩
  exact key (aN a) (Nat.le_refl _) hl
theorem hid_self (a : AL) (k : Nat) : hid a k k = cnt a (k : Int) := by
  show S2 a (fun x y => if top a x y = (k : Int) ∧ cov a k x y = true then 1 else 0) = S2 a (fun x y => if top a x y = (k : Int) then 1 else 0)
  refine S2_congr (fun x y _ _ => ?_)
  by_cases c : top a x y = (k : Int)
  · rw [if_pos c, if_pos ⟨c, top_cov c⟩]
  · rw [if_neg c, if_neg (fun q => c q.1)]
theorem hid_sum {a : AL} (ha : AOK a) {k : Nat} (hk : k < aN a) : sumN (fun q => hid a q k) (aN a) = ins a k := by
  have e1 : sumN (fun q => hid a q k) (aN a) = S2 a (fun x y => sumN (fun q : Nat => if top a x y = (q : Int) ∧ cov a k x y = true then 1 else 0) (aN a)) := S2_sum a (fun q x y => if top a x y = (q : Int) ∧ cov a k x y = true then 1 else 0) (aN a)
  rw [e1]
  show _ = S2 a (fun x y => if cov a k x y = true then 1 else 0)
  refine S2_congr (fun x y _ _ => ?_)
  by_cases c : cov a k x y = true
  · rw [if_pos c]
    obtain ⟨l, hl, rfl⟩ := ha.sur hk
    obtain ⟨l', -, h2, h3⟩ := cov_top hl c
    have h1 := top_one ha x y
    rw [if_neg (show ¬ top a x y = -1 by rw [h3]; omega), Nat.add_zero] at h1
    refine Eq.trans (sumN_congr (fun q _ => ?_)) h1
    by_cases d : top a x y = (q : Int)
    · rw [if_pos d, if_pos ⟨d, c⟩]
    · rw [if_neg d, if_neg (fun z => d z.1)]
  · rw [if_neg c]
    exact sumN_none (fun q _ => if_neg (fun z => c z.2))
/-- what is seen, what is hidden -/
theorem hid_out {a : AL} (ha : AOK a) {k : Nat} (hk : k < aN a) : sumN (fun q => if q = k then 0 else hid a q k) (aN a) + cnt a (k : Int) = ins a k := by
  have e : sumN (fun q => if q = k then 0 else hid a q k) (aN a) + hid a k k = sumN (fun q => hid a q k) (aN a) := sumN_out (fun q => hid a q k) hk
  rw [hid_sum ha hk, hid_self] at e
  exact e
theorem hid_low {a : AL} (ha : AOK a) {q k : Nat} (hk : k < aN a) (h : lyr a q < lyr a k) : hid a q k = 0 := by
  refine S2_none (a := a) (f := fun x y => if top a x y = (q : Int) ∧ cov a k x y = true then 1 else 0) (fun x y _ _ => if_neg (fun z => ?_))
  have hc : cov a (aO a (lyr a k)) x y = true := by rw [lyr_o ha hk]; exact z.2
  obtain ⟨l', h1, h2, h3⟩ := cov_top (lyr_lt ha hk) hc
  have e : aO a l' = q := by have := z.1; omega
  have := lyr_at ha h2
  rw [e] at this
  omega
theorem lyr_inj {a : AL} (ha : AOK a) {p q : Nat} (hp : p < aN a) (hq : q < aN a) (e : lyr a p = lyr a q) : p = q := by
  rw [← lyr_o ha hp, e, lyr_o ha hq]
theorem hid_top {a : AL} (ha : AOK a) {k : Nat} (hk : k < aN a) (h : lyr a k = aN a - 1) : sumN (fun q => if q = k then 0 else hid a q k) (aN a) = 0 := by
  refine sumN_none (fun q hq => ?_)
  by_cases c : q = k
  · exact if_pos c
  · rw [if_neg c]
    have h1 := lyr_lt ha hq
    have h2 : lyr a q ≠ lyr a k := fun e => c (lyr_inj ha hq hk e)
    exact hid_low ha hk (by omega)
/-! the edges -/
theorem nb_out {a : AL} {q x y : Int} (h : ¬ ((0 ≤ x ∧ x < aC a) ∧ 0 ≤ y ∧ y < aR a)) : nb a q x y = 0 := by
  unfold nb sn
  exact if_neg (fun z => h (by rw [Bool.and_eq_true] at z; exact inP_iff.mp z.1))
theorem nb_in {a : AL} {q : Int} {x y : Nat} (hx : x < aC a) (hy : y < aR a) : nb a q x y = if top a x y = q then 1 else 0 := by
  unfold nb
  rw [sn_nat hx hy]
  by_cases d : top a x y = q
  · rw [if_pos d, if_pos (decide_eq_true d)]
  · rw [if_neg d, if_neg (fun z => d (of_decide_eq_true z))]
theorem nb_le (a : AL) (q x y : Int) : nb a q x y ≤ 1 := by
  unfold nb
  split <;> omega
theorem nb_sum {a : AL} (ha : AOK a) (x y : Int) : sumN (fun q : Nat => nb a (q : Int) x y) (aN a) + nb a (-1) x y = if inP a x y = true then 1 else 0 := by
  by_cases c : inP a x y = true
  · rw [if_pos c]
    refine Eq.trans ?_ (top_one ha x y)
    have e : ∀ q : Int, nb a q x y = if top a x y = q then 1 else 0 := fun q => by
      unfold nb sn
      rw [c, Bool.true_and]
      by_cases d : top a x y = q
      · rw [if_pos d, if_pos (decide_eq_true d)]
      · rw [if_neg d, if_neg (fun z => d (of_decide_eq_true z))]
    rw [e (-1), sumN_congr (fun q _ => e (q : Int))]
  · rw [if_neg c]
    have e : ∀ q : Int, nb a q x y = 0 := fun q => by
      unfold nb sn
      exact if_neg (fun z => c (by rw [Bool.and_eq_true] at z; exact z.1))
    rw [e (-1), sumN_none (fun q _ => e (q : Int))]
def nb4 (a : AL) (q x y : Int) : Nat := nb a q (x - 1) y + nb a q (x + 1) y + nb a q x (y - 1) + nb a q x (y + 1)
def bd4 (a : AL) (x y : Nat) : Nat := b1 (x = 0) + b1 (x + 1 = aC a) + b1 (y = 0) + b1 (y + 1 = aR a)
theorem nb4_sum {a : AL} (ha : AOK a) {x y : Nat} (hx : x < aC a) (hy : y < aR a) : sumN (fun q : Nat => nb4 a (q : Int) x y) (aN a) + nb4 a (-1) x y + bd4 a x y = 4 := by
  have e : sumN (fun q : Nat => nb4 a (q : Int) x y) (aN a) = sumN (fun q : Nat => nb a (q : Int) ((x : Int) - 1) y) (aN a) + sumN (fun q : Nat => nb a (q : Int) ((x : Int) + 1) y) (aN a) + sumN (fun q : Nat => nb a (q : Int) x ((y : Int) - 1)) (aN a) + sumN (fun q : Nat => nb a (q : Int) x ((y : Int) + 1)) (aN a) := by
    rw [← sumN_add, ← sumN_add, ← sumN_add]
    rfl
  have h1 := nb_sum ha ((x : Int) - 1) y
  have h2 := nb_sum ha ((x : Int) + 1) y
  have h3 := nb_sum ha x ((y : Int) - 1)
  have h4 := nb_sum ha x ((y : Int) + 1)
  have g1 : (if inP a ((x : Int) - 1) y = true then 1 else 0) + b1 (x = 0) = 1 := by
    unfold b1
    simp only [inP_iff]
    repeat' split
    all_goals omega
  have g2 : (if inP a ((x : Int) + 1) y = true then 1 else 0) + b1 (x + 1 = aC a) = 1 := by
    unfold b1
    simp only [inP_iff]
    repeat' split
    all_goals omega
  have g3 : (if inP a x ((y : Int) - 1) = true then 1 else 0) + b1 (y = 0) = 1 := by
    unfold b1
    simp only [inP_iff]
    repeat' split
    all_goals omega
  have g4 : (if inP a x ((y : Int) + 1) = true then 1 else 0) + b1 (y + 1 = aR a) = 1 := by
    unfold b1
    simp only [inP_iff]
    repeat' split
    all_goals omega
  rw [e]
  unfold nb4 bd4
  omega
theorem edg_sum {a : AL} (ha : AOK a) (k : Nat) : sumN (fun q : Nat => edg a k (q : Int)) (aN a) + edg a k (-1) + bor a k = 4 * cnt a (k : Int) := by
  have e1 : sumN (fun q : Nat => edg a k (q : Int)) (aN a) = S2 a (fun x y => sumN (fun q : Nat => if top a x y = (k : Int) then nb4 a (q : Int) x y else 0) (aN a)) := S2_sum a (fun q x y => if top a x y = (k : Int) then nb4 a (q : Int) x y else 0) (aN a)
  have e2 : edg a k (-1) = S2 a (fun x y => if top a x y = (k : Int) then nb4 a (-1) x y else 0) := rfl
  have e3 : bor a k = S2 a (fun x y => if top a x y = (k : Int) then bd4 a x y else 0) := rfl
  rw [e1, e2, e3, cnt_S2, ← S2_mulc, ← S2_add, ← S2_add]
  refine S2_congr (fun x y hx hy => ?_)
  by_cases c : top a x y = (k : Int)
  · have h := nb4_sum ha hx hy
    have e : sumN (fun q : Nat => if top a x y = (k : Int) then nb4 a (q : Int) x y else 0) (aN a) = sumN (fun q : Nat => nb4 a (q : Int) x y) (aN a) := sumN_congr (fun q _ => if_pos c)
    rw [e, if_pos c, if_pos c, if_pos c]
    omega
  · have e : sumN (fun q : Nat => if top a x y = (k : Int) then nb4 a (q : Int) x y else 0) (aN a) = 0 := sumN_none (fun q _ => if_neg c)
    rw [e, if_neg c, if_neg c, if_neg c]
theorem sumN_sh (g : Int → Nat) (n : Nat) (h0 : g (-1) = 0) (h1 : g ((n : Int) - 1) = 0) : sumN (fun x : Nat => g ((x : Int) - 1)) n = sumN (fun x : Nat => g (x : Int)) n := by
  have key : ∀ n : Nat, sumN (fun x : Nat => g ((x : Int) - 1)) n + g ((n : Int) - 1) = g (-1) + sumN (fun x : Nat => g (x : Int)) n := by
    intro n
    induction n with
    | zero =>
      show 0 + g (((0 : Nat) : Int) - 1) = g (-1) + 0
      rw [show ((0 : Nat) : Int) - 1 = -1 from rfl]
      omega
    | succ n ih =>
      show sumN (fun x : Nat => g ((x : Int) - 1)) n + g ((n : Int) - 1) + g (((n + 1 : Nat) : Int) - 1) = g (-1) + (sumN (fun x : Nat => g (x : Int)) n + g (n : Int))
      rw [show ((n + 1 : Nat) : Int) - 1 = (n : Int) by omega]
      omega
  have := key n
  omega
theorem hor (a : AL) (p q y : Int) : sumN (fun x : Nat => nb a p x y * nb a q ((x : Int) - 1) y) (aC a) = sumN (fun x : Nat => nb a q x y * nb a p ((x : Int) + 1) y) (aC a) := by
  have e := sumN_sh (fun z => nb a q z y * nb a p (z + 1) y) (aC a)
    (by show nb a q (-1) y * nb a p (-1 + 1) y = 0; rw [nb_out (x := -1) (by omega), Nat.zero_mul])
    (by show nb a q ((aC a : Int) - 1) y * nb a p ((aC a : Int) - 1 + 1) y = 0; rw [nb_out (x := (aC a : Int) - 1 + 1) (by omega), Nat.mul_zero])
  refine Eq.trans (sumN_congr (fun x _ => ?_)) e
  show nb a p x y * nb a q ((x : Int) - 1) y = nb a q ((x : Int) - 1) y * nb a p ((x : Int) - 1 + 1) y
  rw [show (x : Int) - 1 + 1 = x by omega, Nat.mul_comm]
theorem ver (a : AL) (p q x : Int) : sumN (fun y : Nat => nb a p x y * nb a q x ((y : Int) - 1)) (aR a) = sumN (fun y : Nat => nb a q x y * nb a p x ((y : Int) + 1)) (aR a) := by
  have e := sumN_sh (fun z => nb a q x z * nb a p x (z + 1)) (aR a)
    (by show nb a q x (-1) * nb a p x (-1 + 1) = 0; rw [nb_out (y := -1) (by omega), Nat.zero_mul])
    (by show nb a q x ((aR a : Int) - 1) * nb a p x ((aR a : Int) - 1 + 1) = 0; rw [nb_out (y := (aR a : Int) - 1 + 1) (by omega), Nat.mul_zero])
  refine Eq.trans (sumN_congr (fun y _ => ?_)) e
  show nb a p x y * nb a q x ((y : Int) - 1) = nb a q x ((y : Int) - 1) * nb a p x ((y : Int) - 1 + 1)
  rw [show (y : Int) - 1 + 1 = y by omega, Nat.mul_comm]
def HLf (a : AL) (p q : Int) : Nat := S2 a (fun x y => nb a p x y * nb a q ((x : Int) - 1) y)
def HRt (a : AL) (p q : Int) : Nat := S2 a (fun x y => nb a p x y * nb a q ((x : Int) + 1) y)
def VUp (a : AL) (p q : Int) : Nat := S2 a (fun x y => nb a p x y * nb a q x ((y : Int) - 1))
def VDn (a : AL) (p q : Int) : Nat := S2 a (fun x y => nb a p x y * nb a q x ((y : Int) + 1))
theorem HLf_HRt (a : AL) (p q : Int) : HLf a p q = HRt a q p := sumN_congr (fun y _ => hor a p q y)
theorem VUp_VDn (a : AL) (p q : Int) : VUp a p q = VDn a q p := by
  unfold VUp VDn
  rw [S2_swap, S2_swap]
  exact sumN_congr (fun x _ => ver a p q x)
theorem edg_split (a : AL) (p : Nat) (q : Int) : edg a p q = HLf a p q + HRt a p q + VUp a p q + VDn a p q := by
  unfold HLf HRt VUp VDn
  rw [← S2_add, ← S2_add, ← S2_add]
  show S2 a (fun x y => if top a x y = (p : Int) then nb4 a q x y else 0) = _
  refine S2_congr (fun x y hx hy => ?_)
  rw [nb_in (q := (p : Int)) hx hy]
  unfold nb4
  by_cases c : top a x y = (p : Int)
  · rw [if_pos c, if_pos c]; omega
  · rw [if_neg c, if_neg c]; omega
theorem edg_symm (a : AL) (p q : Nat) : edg a p (q : Int) = edg a q (p : Int) := by
  rw [edg_split, edg_split]
  have h1 := HLf_HRt a p q
  have h2 := HLf_HRt a q p
  have h3 := VUp_VDn a p q
  have h4 := VUp_VDn a q p
  omega
theorem edg_even (a : AL) (k : Nat) : edg a k (k : Int) = 2 * (HLf a k k + VUp a k k) := by
  rw [edg_split]
  have h1 := HLf_HRt a k k
  have h3 := VUp_VDn a k k
  omega
/-- the edges of a piece with all others, the page and the border -/
theorem edg_all {a : AL} (ha : AOK a) {k : Nat} (hk : k < aN a) : ∃ e : Nat, edg a k (-1) + bor a k + sumN (fun q => if q = k then 0 else edg a k (q : Int)) (aN a) + 2 * e = 4 * cnt a (k : Int) := by
  refine ⟨HLf a k k + VUp a k k, ?_⟩
  have h1 := edg_sum ha k
  have h2 : sumN (fun q : Nat => if q = k then 0 else edg a k (q : Int)) (aN a) + edg a k (k : Int) = sumN (fun q : Nat => edg a k (q : Int)) (aN a) := sumN_out (fun q : Nat => edg a k (q : Int)) hk
  have h3 := edg_even a k
  omega
