/-! p26: the cells of a piece one by one; frames -/
theorem nb_cov {a : AL} {p : Nat} {x y : Int} (h : ¬ cov a p x y = true) : nb a (p : Int) x y = 0 := by
  unfold nb
  exact if_neg (fun z => h (top_cov (sn_iff.mp z).2))
theorem cnt_box {a : AL} (ha : AOK a) {p : Nat} (hp : p < aN a) : sumN (fun j : Nat => sumN (fun i : Nat => nb a (p : Int) (aP a p 0 + i) (aP a p 1 + j)) (aP a p 2).toNat) (aP a p 3).toNat = cnt a (p : Int) := by
  have hv := ha.p hp
  obtain ⟨w, hw⟩ : ∃ w : Nat, (w : Int) = aP a p 2 := ⟨(aP a p 2).toNat, by omega⟩
  obtain ⟨v, hv2⟩ : ∃ v : Nat, (v : Int) = aP a p 3 := ⟨(aP a p 3).toNat, by omega⟩
  rw [show (aP a p 2).toNat = w by omega, show (aP a p 3).toNat = v by omega]
  have row : ∀ y : Int, sumN (fun x : Nat => nb a (p : Int) x y) (aC a) = sumN (fun i : Nat => nb a (p : Int) (aP a p 0 + i) y) w := by
    intro y
    have e := sumN_shift (fun x => nb a (p : Int) x y) (aC a) (aP a p 0) w
    refine Eq.trans (sumN_congr (fun x _ => ?_)) (Eq.trans e (sumN_congr (fun i _ => ?_)))
    · by_cases c : aP a p 0 ≤ (x : Int) ∧ (x : Int) < aP a p 0 + w
      · rw [if_pos c]
      · rw [if_neg c]
        exact nb_cov (fun z => c (by have := (cov_iff.mp z).1; omega))
    · by_cases c : 0 ≤ aP a p 0 + (i : Int) ∧ aP a p 0 + (i : Int) < aC a
      · rw [if_pos c]
      · rw [if_neg c]
        exact (nb_out (by omega)).symm
  obtain ⟨G, hG⟩ : ∃ G : Int → Nat, G = fun y => sumN (fun i : Nat => nb a (p : Int) (aP a p 0 + i) y) w := ⟨_, rfl⟩
  have e1 : cnt a (p : Int) = sumN (fun y : Nat => if aP a p 1 ≤ (y : Int) ∧ (y : Int) < aP a p 1 + v then G y else 0) (aR a) := by
    refine sumN_congr (fun y hy => ?_)
    refine Eq.trans (sumN_congr (h := fun x : Nat => nb a (p : Int) x y) (fun x hx => (nb_in hx hy).symm)) ?_
    rw [row]
    by_cases c : aP a p 1 ≤ (y : Int) ∧ (y : Int) < aP a p 1 + v
    · rw [if_pos c, hG]
    · rw [if_neg c]
      exact sumN_none (fun i _ => nb_cov (fun z => c (by have := (cov_iff.mp z).2; omega)))
  rw [e1, sumN_shift]
  refine sumN_congr (fun j _ => ?_)
  by_cases c : 0 ≤ aP a p 1 + (j : Int) ∧ aP a p 1 + (j : Int) < aR a
  · rw [if_pos c, hG]
  · rw [if_neg c]
    exact sumN_none (fun i _ => nb_out (by omega))
theorem sn_of_nb {a : AL} {q x y : Int} (h : nb a q x y = 1) : sn a q x y = true := by
  unfold nb at h
  by_cases c : sn a q x y = true
  · exact c
  · rw [if_neg c] at h; omega
theorem nb_of_sn {a : AL} {q x y : Int} (h : sn a q x y = true) : nb a q x y = 1 := if_pos h
/-- a piece of which all is seen -/
theorem sn_full {a : AL} (ha : AOK a) {p : Nat} (hp : p < aN a) (h : (cnt a (p : Int) : Int) = aP a p 2 * aP a p 3) : ∀ j : Nat, j < (aP a p 3).toNat → ∀ i : Nat, i < (aP a p 2).toNat → sn a (p : Int) (aP a p 0 + i) (aP a p 1 + j) = true := by
  have hv := ha.p hp
  obtain ⟨w, hw⟩ : ∃ w : Nat, w = (aP a p 2).toNat := ⟨_, rfl⟩
  obtain ⟨v, hv2⟩ : ∃ v : Nat, v = (aP a p 3).toNat := ⟨_, rfl⟩
  have e := cnt_box ha hp
  rw [← hw, ← hv2] at e ⊢
  have e2 : cnt a (p : Int) = v * w := by
    have : aP a p 2 * aP a p 3 = ((v * w : Nat) : Int) := by
      rw [Int.natCast_mul, hv2, hw, Int.toNat_of_nonneg (by omega), Int.toNat_of_nonneg (by omega), Int.mul_comm]
    omega
  rw [e2] at e
  have hrow : ∀ j : Nat, j < v → sumN (fun i : Nat => nb a (p : Int) (aP a p 0 + i) (aP a p 1 + j)) w = w := (sumN_all (fun j _ => by
    have := sumN_le (g := fun i : Nat => nb a (p : Int) (aP a p 0 + i) (aP a p 1 + j)) (n := w) (m := 1) (fun i _ => nb_le _ _ _ _)
    omega)).mp e
  intro j hj i hi
  have h1 := (sumN_all (g := fun i : Nat => nb a (p : Int) (aP a p 0 + i) (aP a p 1 + j)) (n := w) (m := 1) (fun i _ => nb_le _ _ _ _)).mp (by rw [hrow j hj, Nat.mul_one]) i hi
  exact sn_of_nb h1
theorem sn_none {a : AL} (ha : AOK a) {p : Nat} (hp : p < aN a) (h : cnt a (p : Int) = 0) {i j : Nat} (hj : j < (aP a p 3).toNat) (hi : i < (aP a p 2).toNat) : ¬ sn a (p : Int) (aP a p 0 + i) (aP a p 1 + j) = true := by
  have e := cnt_box ha hp
  rw [h] at e
  have h1 := sumN_eq0 (sumN_eq0 e j hj) i hi
  intro z
  have := nb_of_sn z
  omega
theorem ctI_t {a : AL} {p k : Nat} (h : ctP a p k) : ctI a p k = 0 := by
  unfold ctI ctB
  exact if_pos (decide_eq_true h)
theorem ctI_f {a : AL} {p k : Nat} (h : ¬ ctP a p k) : ctI a p k = nI (2 ^ k) := by
  unfold ctI ctB
  exact if_neg (fun z => h (of_decide_eq_true z))
theorem cuts_frame0 {a : AL} (p : Nat) (h : aP a p 5 = 0) (h2 : 1 ≤ aP a p 2) (h3 : 1 ≤ aP a p 3) : cuts a p = 0 := by
  have hc : ∀ k, ctP a p k := by
    intro k j hj i hi hd
    unfold dpt at hd
    exfalso
    repeat' split at hd
    all_goals omega
  unfold cuts
  rw [ctI_t (hc 0), ctI_t (hc 1), ctI_t (hc 2), ctI_t (hc 3)]
  decide
theorem cuts_full {a : AL} (ha : AOK a) {p : Nat} (hp : p < aN a) (h : (cnt a (p : Int) : Int) = aP a p 2 * aP a p 3) : cuts a p = 0 := by
  have hc : ∀ k, ctP a p k := fun k j hj i hi _ => sn_full ha hp h j hj i hi
  unfold cuts
  rw [ctI_t (hc 0), ctI_t (hc 1), ctI_t (hc 2), ctI_t (hc 3)]
  decide
theorem cuts_none {a : AL} (ha : AOK a) {p : Nat} (hp : p < aN a) (h : cnt a (p : Int) = 0) (hf : 1 ≤ aP a p 5) : cuts a p = 15 := by
  have hv := ha.p hp
  have hc : ∀ k, k < 4 → ¬ ctP a p k := by
    intro k hk q
    rcases (show k = 0 ∨ k = 1 ∨ k = 2 ∨ k = 3 by omega) with rfl | rfl | rfl | rfl
    · exact sn_none ha hp h (j := 0) (i := 0) (by omega) (by omega) (q 0 (by omega) 0 (by omega) (by unfold dpt; rw [if_pos rfl]; omega))
    · exact sn_none ha hp h (j := 0) (i := 0) (by omega) (by omega) (q 0 (by omega) 0 (by omega) (by unfold dpt; rw [if_neg (by omega), if_pos rfl]; omega))
    · exact sn_none ha hp h (j := 0) (i := (aP a p 2).toNat - 1) (by omega) (by omega) (q 0 (by omega) ((aP a p 2).toNat - 1) (by omega) (by unfold dpt; rw [if_neg (by omega), if_neg (by omega), if_pos rfl]; omega))
    · exact sn_none ha hp h (j := (aP a p 3).toNat - 1) (i := 0) (by omega) (by omega) (q ((aP a p 3).toNat - 1) (by omega) 0 (by omega) (by unfold dpt; rw [if_neg (by omega), if_neg (by omega), if_neg (by omega)]; omega))
  unfold cuts
  rw [ctI_f (hc 0 (by omega)), ctI_f (hc 1 (by omega)), ctI_f (hc 2 (by omega)), ctI_f (hc 3 (by omega))]
  decide
/-! the parts -/
theorem cmp_self {R : Nat → Nat → Bool} {y x : Nat} : cmp R y x y x = true := @decide_eq_true _ (Classical.propDecidable _) (fun _ _ h => h)
theorem cmp_sub {R : Nat → Nat → Bool} {y x : Nat} (h : R y x = true) : sub (cmp R y x) R := by
  intro y' x' q
  have q := @of_decide_eq_true _ (Classical.propDecidable _) q
  exact q R (fun _ _ _ _ h _ => h) h
theorem c24_split {R C : Nat → Nat → Bool} (h : sub C R) : c24 (fun y x => R y x && !C y x) + c24 C = c24 R := by
  unfold c24
  rw [← sumN_add]
  refine sumN_congr (fun y _ => ?_)
  rw [← sumN_add]
  refine sumN_congr (fun x _ => ?_)
  show (if (R y x && !C y x) = true then 1 else 0) + (if C y x = true then 1 else 0) = if R y x = true then 1 else 0
  have h' := h y x
  revert h'
  cases R y x <;> cases C y x <;> intro h' <;> first | rfl | (exact absurd (h' rfl) (by decide))
def PI (N : Nat) (st : PST) : Prop := (∀ y x, st.1 y x = true → y < 24 ∧ x < 24) ∧ c24 st.1 ≤ N ∧ st.2.1 + c24 st.1 ≤ N ∧ st.2.2 + c24 st.1 ≤ N ∧ N ≤ st.2.1 * st.2.2 + c24 st.1 ∧ (st.2.1 = 0 → c24 st.1 = N) ∧ (st.2.2 = 0 → st.2.1 = 0)
theorem PI_pst {N : Nat} {st : PST} (h : PI N st) (y x : Nat) : PI N (pst st y x) := by
  unfold pst
  by_cases c : st.1 y x = true
  · rw [if_pos c]
    obtain ⟨h1, h2, h3, h4, h5, h6, h7⟩ := h
    have hs := cmp_sub c
    have e := c24_split hs
    have hp : 1 ≤ c24 (cmp st.1 y x) := c24_pos (h1 y x c).1 (h1 y x c).2 cmp_self
    obtain ⟨C, hC⟩ : ∃ C, C = c24 (cmp st.1 y x) := ⟨_, rfl⟩
    obtain ⟨r, hr⟩ : ∃ r, r = c24 (fun y' x' => st.1 y' x' && !cmp st.1 y x y' x') := ⟨_, rfl⟩
    obtain ⟨n, hn⟩ : ∃ n, n = st.2.1 := ⟨_, rfl⟩
    obtain ⟨m, hm⟩ : ∃ m, m = st.2.2 := ⟨_, rfl⟩
    rw [← hC, ← hr] at e
    rw [← hC] at hp
    rw [← hn] at h3 h5 h6 h7
    rw [← hm] at h4 h5 h7
    refine ⟨fun y' x' q => h1 y' x' ?_, ?_, ?_, ?_, ?_, ?_, ?_⟩
    · have q : (st.1 y' x' && !cmp st.1 y x y' x') = true := q
      rw [Bool.and_eq_true] at q
      exact q.1
    · show c24 (fun y' x' => st.1 y' x' && !cmp st.1 y x y' x') ≤ N
      omega
    · show st.2.1 + 1 + c24 (fun y' x' => st.1 y' x' && !cmp st.1 y x y' x') ≤ N
      rw [← hn, ← hr]
      omega
    · show max st.2.2 (c24 (cmp st.1 y x)) + c24 (fun y' x' => st.1 y' x' && !cmp st.1 y x y' x') ≤ N
      rw [← hm, ← hr, ← hC]
      omega
    · show N ≤ (st.2.1 + 1) * max st.2.2 (c24 (cmp st.1 y x)) + c24 (fun y' x' => st.1 y' x' && !cmp st.1 y x y' x')
      rw [← hn, ← hm, ← hr, ← hC, Nat.succ_mul]
      have g1 : n * m ≤ n * max m C := Nat.mul_le_mul_left n (Nat.le_max_left m C)
      have g2 : C ≤ max m C := Nat.le_max_right m C
      omega
    · intro q
      have q : st.2.1 + 1 = 0 := q
      omega
    · intro q
      have q : max st.2.2 (c24 (cmp st.1 y x)) = 0 := q
      rw [← hm, ← hC] at q
      omega
  · rw [if_neg c]
    exact h
theorem PI_pcol {N : Nat} {st : PST} (h : PI N st) (y : Nat) : ∀ n, PI N (pcol st y n) := by
  intro n
  induction n with
  | zero => exact h
  | succ n ih => exact PI_pst ih y n
theorem PI_prow {N : Nat} {S : Nat → Nat → Bool} (h : PI N (S, 0, 0)) : ∀ n, PI N (prow S n) := by
  intro n
  induction n with
  | zero => exact h
  | succ n ih => exact PI_pcol ih n 24
theorem pst_sub (st : PST) (y x : Nat) : sub (pst st y x).1 st.1 := by
  intro y' x' q
  unfold pst at q
  by_cases c : st.1 y x = true
  · rw [if_pos c] at q
    have q : (st.1 y' x' && !cmp st.1 y x y' x') = true := q
    rw [Bool.and_eq_true] at q
    exact q.1
  · rw [if_neg c] at q
    exact q
theorem pst_here (st : PST) (y x : Nat) : ¬ (pst st y x).1 y x = true := by
  intro q
  unfold pst at q
  by_cases c : st.1 y x = true
  · rw [if_pos c] at q
    have q : (st.1 y x && !cmp st.1 y x y x) = true := q
    rw [cmp_self, Bool.not_true, Bool.and_false] at q
    cases q
  · rw [if_neg c] at q
    exact c q
theorem pcol_sub (st : PST) (y : Nat) : ∀ n, sub (pcol st y n).1 st.1 := by
  intro n
  induction n with
  | zero => exact fun _ _ h => h
  | succ n ih => exact fun y' x' q => ih y' x' (pst_sub _ _ _ y' x' q)
theorem pcol_here (st : PST) (y : Nat) : ∀ n, ∀ x, x < n → ¬ (pcol st y n).1 y x = true := by
  intro n
  induction n with
  | zero => intro x hx; omega
  | succ n ih =>
    intro x hx q
    by_cases c : x = n
    · subst c
      exact pst_here _ y x q
    · exact ih x (by omega) (pst_sub _ _ _ y x q)
theorem prow_here (S : Nat → Nat → Bool) : ∀ n, ∀ y, y < n → ∀ x, x < 24 → ¬ (prow S n).1 y x = true := by
  intro n
  induction n with
  | zero => intro y hy; omega
  | succ n ih =>
    intro y hy x hx q
    by_cases c : y = n
    · subst c
      exact pcol_here _ y 24 x hx q
    · exact ih y (by omega) x hx (pcol_sub _ n 24 y x q)
theorem parts_ok {S : Nat → Nat → Bool} (h : ∀ y x, S y x = true → y < 24 ∧ x < 24) : (prow S 24).2.1 ≤ c24 S ∧ (prow S 24).2.2 ≤ c24 S ∧ c24 S ≤ (prow S 24).2.1 * (prow S 24).2.2 ∧ ((prow S 24).2.1 = 0 ↔ c24 S = 0) ∧ ((prow S 24).2.2 = 0 ↔ (prow S 24).2.1 = 0) := by
  have h0 : PI (c24 S) (S, 0, 0) := ⟨h, Nat.le_refl _, by show 0 + c24 S ≤ c24 S; omega, by show 0 + c24 S ≤ c24 S; omega, by show c24 S ≤ 0 * 0 + c24 S; omega, fun _ => rfl, fun _ => rfl⟩
  obtain ⟨h1, h2, h3, h4, h5, h6, h7⟩ := PI_prow h0 24
  have e : c24 (prow S 24).1 = 0 := sumN_none (fun y hy => sumN_none (fun x hx => if_neg (prow_here S 24 y hy x hx)))
  rw [e] at h3 h4 h5 h6
  refine ⟨by omega, by omega, by omega, ⟨fun q => (h6 q).symm, fun q => by omega⟩, ⟨h7, fun q => ?_⟩⟩
  have := h6 q
  omega
theorem sS_b {a : AL} (ha : AOK a) (p : Nat) : ∀ y x, sS a p y x = true → y < 24 ∧ x < 24 := by
  intro y x q
  have hb := ha.b
  have := (sn_iff.mp (show sn a p x y = true from q)).1
  omega
theorem sS_cnt {a : AL} (ha : AOK a) (p : Nat) : c24 (sS a p) = cnt a (p : Int) := by
  have hb := ha.b
  show sumN (fun y : Nat => sumN (fun x : Nat => if rowB a p y x = true then 1 else 0) 24) 24 = _
  rw [sumN_cut _ (show aR a ≤ 24 by omega) (fun y h1 _ => sumN_none (fun x _ => if_neg (by rw [rowB_out (by omega)]; simp)))]
  exact sumN_congr (fun y hy => rowB_sum ha p hy)
