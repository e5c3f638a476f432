/-! worst on both sides -/
theorem top_rem {a : AL} (ha : AOK a) {l0 : Nat} (h0 : l0 < aN a) (x y : Int) : tW a (aO a l0) x y (aN a) = (if top (aRem a l0) x y < (aO a l0 : Int) then top (aRem a l0) x y else top (aRem a l0) x y + 1) := by
  rw [tW_rem ha h0 x y (aN a) (Nat.le_refl _), if_neg (show ¬ aN a ≤ l0 by omega)]
  rfl
theorem cnt_rem {a : AL} (ha : AOK a) {l0 : Nat} (h0 : l0 < aN a) {q : Nat} (hq : q ≠ aO a l0) : cntW a (aO a l0) q = cnt (aRem a l0) (dec (aO a l0) q) := by
  unfold cntW cnt
  refine sumN_congr (fun y _ => sumN_congr (fun x _ => ?_))
  rw [top_rem ha h0]
  have : ((if top (aRem a l0) x y < (aO a l0 : Int) then top (aRem a l0) x y else top (aRem a l0) x y + 1) = (q : Int)) ↔ top (aRem a l0) x y = (dec (aO a l0) q : Int) := by
    unfold dec
    by_cases c : aO a l0 < q
    · rw [if_pos c]
      split <;> omega
    · rw [if_neg c]
      split <;> omega
  simp only [this]
theorem sumN_skip (g : Nat → Nat) {p n : Nat} (hp : p < n) : sumN (fun q => if q = p then 0 else g q) n = sumN (fun j => g (if j < p then j else j + 1)) (n - 1) := by
  induction n with
  | zero => omega
  | succ n ih =>
    rw [sumN, Nat.add_sub_cancel]
    by_cases c : p = n
    · subst c
      rw [if_pos rfl, Nat.add_zero]
      exact sumN_congr (fun i hi => by rw [if_neg (by omega), if_pos hi])
    · rw [ih (by omega), if_neg (by omega)]
      obtain ⟨k, rfl⟩ : ∃ k, n = k + 1 := ⟨n - 1, by omega⟩
      rw [Nat.add_sub_cancel, sumN, if_neg (by omega)]
theorem cons_rem {a : AL} (ha : AOK a) {l0 : Nat} (h0 : l0 < aN a) : sumN (fun q => if (q : Int) ≠ (aO a l0 : Int) ∧ conK a (fun q => cntW a (aO a l0) q) q = true then 1 else 0) (aN a) = cons (aRem a l0) := by
  have hp := ha.o h0
  have e1 : ∀ q, q < aN a → (if (q : Int) ≠ (aO a l0 : Int) ∧ conK a (fun q => cntW a (aO a l0) q) q = true then 1 else 0) = (if q = aO a l0 then 0 else if conK a (fun q => cntW a (aO a l0) q) q = true then 1 else 0) := by
    intro q _
    by_cases c : q = aO a l0
    · rw [if_pos c, if_neg (fun z => z.1 (by omega))]
    · rw [if_neg c]
      by_cases c2 : conK a (fun q => cntW a (aO a l0) q) q = true
      · rw [if_pos c2, if_pos ⟨by omega, c2⟩]
      · rw [if_neg c2, if_neg (fun z => c2 z.2)]
  rw [sumN_congr e1, sumN_skip _ hp]
  unfold cons
  refine sumN_congr (fun j hj => ?_)
  have e2 : conK a (fun q => cntW a (aO a l0) q) (if j < aO a l0 then j else j + 1) = con (aRem a l0) j := by
    have ne : (if j < aO a l0 then j else j + 1) ≠ aO a l0 := by split <;> omega
    have ed : dec (aO a l0) (if j < aO a l0 then j else j + 1) = j := by
      unfold dec
      repeat' split
      all_goals omega
    unfold conK con
    dsimp only
    have ec := cnt_rem ha h0 ne
    rw [ed] at ec
    have eP : ∀ u, aP (aRem a l0) j u = aP a (if j < aO a l0 then j else j + 1) u := by
      intro u
      show (if j < aO a l0 then aP a j u else aP a (j + 1) u) = _
      split <;> rfl
    rw [decide_eq_decide, ec, eP, eP, eP]
  rw [e2]
def wF (a : AL) : Nat → Int × Int
  | 0 => (-109, -1)
  | i + 1 => if (cons (aRem a (lyr a i)) : Int) ≤ (wF a i).2 then wF a i else ((i : Int), (cons (aRem a (lyr a i)) : Int))
theorem wF_b {a : AL} (ha : AOK a) : ∀ i, i ≤ aN a → -1 ≤ (wF a i).2 ∧ (wF a i).2 ≤ 12 := by
  have hb := ha.b
  intro i
  induction i with
  | zero => intro _; show (-1 : Int) ≤ -1 ∧ (-1 : Int) ≤ 12; omega
  | succ i ih =>
    intro hi
    rw [wF]
    split
    · exact ih (by omega)
    · have := cons_le (aRem a (lyr a i))
      have h2 : aN (aRem a (lyr a i)) = aN a - 1 := rfl
      show (-1 : Int) ≤ (cons (aRem a (lyr a i)) : Int) ∧ (cons (aRem a (lyr a i)) : Int) ≤ 12
      omega
theorem q_worst {s : LyS} {m : Nat → Int32} (h : LM s m) (tr : LyS) (ps : SiS) (sh so : Nat → Int32) : ∃ v tr' ps' sh' so', f_X7_worst s tr ps = some (v, tr', ps') ∧ f_X8_worst m sh so = some (v, sh', so') := by
  obtain ⟨a, ha, hl, hm, -⟩ := h
  have hb := ha.b
  have kc := x_for (B := b_X3_worstPiece_7 s) (fun i (u : LyS × SiS) => (iI (wF a i).1, iI (wF a i).2, iI (i : Int), u.1, u.2)) (fun _ _ => True) (aN a) (fun b => ∃ z1 z2 t1 t2, b = (iI (wF a (aN a)).1, z1, z2, t1, t2))
    (by
      rintro i ⟨tr, ps⟩ hi -
      left
      obtain ⟨s1, f1, hq⟩ := L_take tr s
      have hl1 : LOK s1 a := hq.ok (by omega) hl
      obtain ⟨s2, f2, k2, -⟩ := L_remove hl1 ha (lyr_lt ha hi)
      rw [lyr_o ha hi] at f2
      have hA := aRem_AOK ha (lyr_lt ha hi)
      obtain ⟨ps', f3, k3⟩ := L_look k2 hA ps
      have hw := wF_b ha i (by omega)
      have hc := cons_le (aRem a (lyr a i))
      have hN : aN (aRem a (lyr a i)) = aN a - 1 := rfl
      refine ⟨(s2, ps'), ?_, trivial⟩
      rw [b_X3_worstPiece_7]
      unfold f_X1_pieces
      rw [ob_some, hl.n, f1, ob_some, f2, ob_some, f3, ob_some, S_contentPieces k2 hA k3, ob_some]
      simp (disch := omega) only [iI_le]
      rw [if_neg (by omega), iI_suc]
      by_cases c : (cons (aRem a (lyr a i)) : Int) ≤ (wF a i).2
      · have e : wF a (i + 1) = wF a i := by rw [wF, if_pos c]
        rw [if_pos c, e]
      · have e : wF a (i + 1) = ((i : Int), (cons (aRem a (lyr a i)) : Int)) := by rw [wF, if_neg c]
        rw [if_neg c, e])
    (by
      rintro ⟨tr, ps⟩ -
      rw [b_X3_worstPiece_7]
      unfold f_X1_pieces
      rw [ob_some, hl.n]
      simp (disch := omega) only [iI_le]
      rw [if_pos (by omega)]
      exact ⟨_, rfl, _, _, _, _, rfl⟩) (tr, ps) trivial (by omega)
  have km := x_for (B := b_X8_worst_7 m) (fun i (u : (Nat → Int32) × (Nat → Int32)) => (iI (wF a i).1, iI (wF a i).2, iI (i : Int), u.1, u.2)) (fun _ _ => True) (aN a) (fun b => ∃ z1 z2 t1 t2, b = (iI (wF a (aN a)).1, z1, z2, t1, t2))
    (by
      rintro i ⟨sh, so⟩ hi -
      left
      obtain ⟨sh', so', f1, k1, k2⟩ := M_paintWithout hm ha (w := (i : Int)) (by omega) sh so
      have f2 := M_contents hm ha (so := so') (K := fun q => cntW a (i : Int) q) (fun q hq => ⟨cntW_le ha _ _, k2 q (by omega)⟩) (w := (i : Int)) (by omega)
      have e3 := cons_rem ha (lyr_lt ha hi)
      rw [lyr_o ha hi] at e3
      rw [e3] at f2
      have hw := wF_b ha i (by omega)
      have hc := cons_le (aRem a (lyr a i))
      have hN : aN (aRem a (lyr a i)) = aN a - 1 := rfl
      refine ⟨(sh', so'), ?_, trivial⟩
      rw [b_X8_worst_7, show x_ld 88 m (2 : Int32) = _ from M_ld2 hm, ob_some, f1, ob_some]
      dsimp only
      rw [f2, ob_some]
      simp (disch := omega) only [iI_le]
      rw [if_neg (by omega), iI_suc]
      by_cases c : (cons (aRem a (lyr a i)) : Int) ≤ (wF a i).2
      · have e : wF a (i + 1) = wF a i := by rw [wF, if_pos c]
        rw [if_pos c, ob_some, if_pos c, e]
      · have e : wF a (i + 1) = ((i : Int), (cons (aRem a (lyr a i)) : Int)) := by rw [wF, if_neg c]
        rw [if_neg c, ob_some, if_neg c, e])
    (by
      rintro ⟨sh, so⟩ -
      rw [b_X8_worst_7, show x_ld 88 m (2 : Int32) = _ from M_ld2 hm, ob_some]
      simp (disch := omega) only [iI_le]
      rw [if_pos (by omega)]
      exact ⟨_, rfl, _, _, _, _, rfl⟩) (sh, so) trivial (by omega)
  obtain ⟨b1, e1, z1, z2, t1, t2, rfl⟩ := kc
  obtain ⟨b2, e2, y1, y2, u1, u2, rfl⟩ := km
  unfold f_X7_worst f_X3_worstPiece f_X8_worst
  rw [show x_loop (b_X3_worstPiece_7 s) x_fuel ((-109 : Int32), (-1 : Int32), (0 : Int32), tr, ps) = _ from e1, show x_loop (b_X8_worst_7 m) x_fuel ((-109 : Int32), (-1 : Int32), (0 : Int32), sh, so) = _ from e2, ob_some, ob_some]
  exact ⟨_, _, _, _, _, rfl, rfl⟩
