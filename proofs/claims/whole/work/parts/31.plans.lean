/-! the least shift in the reference; the call -/
theorem x_loop_l {α β : Type} {B : α → Option (α ⊕ β)} {n : Nat} {v v' : α} (h : B v = some (.inl v')) : x_loop B (n + 1) v = x_loop B n v' := by
  show (B v).bind _ = _
  rw [h]
  rfl
theorem x_loop_r {α β : Type} {B : α → Option (α ⊕ β)} {n : Nat} {v : α} {b : β} (h : B v = some (.inr b)) : x_loop B (n + 1) v = some b := by
  show (B v).bind _ = _
  rw [h]
  rfl
theorem con_all {b : AL} {p : Nat} (hp : p < aN b) (h : cons b = aN b) : con b p = true := by
  unfold cons at h
  have := (sumN_all (g := fun p => if con b p = true then 1 else 0) (n := aN b) (m := 1) (fun p _ => by split <;> omega)).mp (by omega) p hp
  split at this
  · assumption
  · omega
theorem M_isReached {m so : Nat → Int32} {b : AL} (hm : MOK m b) (hb : AOK b) (hs : SoOK so b) {p : Nat} (hp : p < aN b) {aim : Int} (haim : 0 ≤ aim ∧ aim ≤ 2) {K nd : Nat} (hK : K ≤ 12) (hnd : nd = if aim = 1 then K else if aim = 2 then aN b else 0) : f_X8_isReached m so (iI (p : Int)) (iI aim) (iI (K : Int)) = some (bI ((con b p && decide (nd ≤ cons b)) = true)) := by
  have hbb := hb.b
  have hcl := cons_le b
  unfold f_X8_isReached
  rw [show f_X8_contents m so (-109 : Int32) = _ from M_contents' hm hb hs, M_isContent' hm hb hs hp, show x_ld 88 m (2 : Int32) = _ from M_ld2 hm, ob_some, ob_some, ob_some, ob_some, if_b]
  simp (disch := omega) only [iL_2, iL_0, iI_eq, iI_lt]
  have eb : ((con b p && decide (nd ≤ cons b)) = true) ↔ con b p = true ∧ nd ≤ cons b := by simp
  by_cases c2 : aim = 2
  · rw [if_pos c2]
    rw [if_neg (by omega), if_pos c2] at hnd
    by_cases c : cons b = aN b
    · rw [if_pos (by omega), bI_t (eb.mpr ⟨con_all hp c, by omega⟩)]
    · rw [if_neg (by omega), bI_f (fun q => c (by have := (eb.mp q).2; omega))]
      rfl
  · rw [if_neg c2]
    by_cases c : con b p = true
    · rw [if_pos c]
      by_cases c0 : aim = 0
      · rw [if_neg (by omega), if_neg c2] at hnd
        rw [if_pos c0, bI_t (eb.mpr ⟨c, by omega⟩)]
      · rw [if_pos (by omega)] at hnd
        rw [if_neg c0]
        by_cases c1 : K ≤ cons b
        · rw [if_neg (by omega), bI_t (eb.mpr ⟨c, by omega⟩)]
        · rw [if_pos (by omega), bI_f (fun q => c1 (by have := (eb.mp q).2; omega))]
          rfl
    · rw [if_neg c, bI_f (fun q => c (eb.mp q).1)]
      rfl
section MF
variable {m : Nat → Int32} {a : AL}
theorem M_does (hm : MOK m a) (ha : AOK a) {p : Nat} (hp : p < aN a) {aim : Int} (haim : 0 ≤ aim ∧ aim ≤ 2) {dx dy : Int} (hx : -1000 ≤ dx ∧ dx ≤ 1000) (hy : -1000 ≤ dy ∧ dy ≤ 1000) (sh so : Nat → Int32) : ∃ sh' so', f_X8_does m sh so (iI (p : Int)) (iI dx) (iI dy) (iI aim) (iI (cons a : Int)) = some (bI (rchN a p (need a aim) dx dy = true), m, sh', so') := by
  have hb := ha.b
  have hcl := cons_le a
  unfold f_X8_does
  rw [M_isPossible hm ha hp (by omega) (by omega), ob_some, if_b]
  by_cases hc : (-20 ≤ aP a p 0 + dx ∧ aP a p 0 + dx ≤ 40) ∧ -20 ≤ aP a p 1 + dy ∧ aP a p 1 + dy ≤ 40
  · have hA := aSh_AOK ha hc
    have hms := M_shifts_ok hm (by omega) hp dx dy
    have hbk := M_shifts_back hm (by omega) hp dx dy
    have e4 := M_shifts hm (by omega) hp dx dy
    obtain ⟨m1, hm1⟩ : ∃ m1, m1 = (upd (upd m (4 + 6 * p + 0) (iI (aP a p 0 + dx))) (4 + 6 * p + 1) (iI (aP a p 1 + dy))) := ⟨_, rfl⟩
    rw [← hm1] at hms hbk e4
    obtain ⟨sh', so', e5, k1, k2⟩ := M_paint hms hA sh so
    have er : rchN a p (need a aim) dx dy = (con (aSh a p dx dy) p && decide (need a aim ≤ cons (aSh a p dx dy))) := by
      unfold rchN
      rw [decide_eq_true hc, Bool.true_and]
    have e6 := M_isReached hms hA k2 hp haim (K := cons a) (nd := need a aim) (by omega) rfl
    rw [if_pos hc, e4, ob_some, e5, ob_some]
    dsimp only
    rw [e6, ob_some, iI_neg, iI_neg, hbk, ob_some, bI_zr, ob_some, er]
    exact ⟨_, _, rfl⟩
  · have e : ¬ rchN a p (need a aim) dx dy = true := by
      unfold rchN
      rw [decide_eq_false hc, Bool.false_and]
      simp
    rw [if_neg hc, bI_f e]
    exact ⟨_, _, rfl⟩
theorem M_fl48 (hm : MOK m a) (ha : AOK a) {p : Nat} (hp : p < aN a) {aim : Int} (haim : 0 ≤ aim ∧ aim ≤ 2) {c : Nat} (hc : c ≤ 8) {X : Int} (hX : ab X ≤ c) (sh so : Nat → Int32) (lx ly : Int32) :
    ∃ b, x_loop (b_X8_findLeast_48 (iI (p : Int)) (iI aim) (iI ((c : Int) - ab X)) (iI (cons a : Int)) (iI (c : Int)) (iI X)) x_fuel (iI (-((c : Int) - ab X)), m, sh, so, lx, ly) = some b ∧
      ((∃ x y sh' so', b = .inl (iI (c : Int), m, sh', so', iI x, iI y) ∧ sF (rchN a p (need a aim)) c X = some (x, y)) ∨ (∃ z sh' so', b = .inr (z, m, sh', so', lx, ly) ∧ sF (rchN a p (need a aim)) c X = none)) := by
  have hab := ab_b X
  obtain ⟨R, hR⟩ : ∃ R, R = rchN a p (need a aim) := ⟨_, rfl⟩
  obtain ⟨d, hd⟩ : ∃ d : Int, d = (c : Int) - ab X := ⟨_, rfl⟩
  rw [← hR, ← hd]
  have sf : sF R c X = if R X (-d) = true then some (X, -d) else if R X d = true then some (X, d) else none := by unfold sF; rw [← hd]
  have step : ∀ (Y : Int) (sh so : Nat → Int32), -100 ≤ Y → Y ≤ d → ∃ sh' so', b_X8_findLeast_48 (iI (p : Int)) (iI aim) (iI d) (iI (cons a : Int)) (iI (c : Int)) (iI X) (iI Y, m, sh, so, lx, ly) = if R X Y = true then some (.inr (.inl (iI (c : Int), m, sh', so', iI X, iI Y))) else if d = 0 then some (.inl (iI (Y + 1), m, sh', so', lx, ly)) else some (.inl (iI (Y + 2 * d), m, sh', so', lx, ly)) := by
    intro Y sh so h1 h2
    obtain ⟨sh', so', e⟩ := M_does hm ha hp haim (dx := X) (dy := Y) (by omega) (by omega) sh so
    rw [← hR] at e
    refine ⟨sh', so', ?_⟩
    rw [b_X8_findLeast_48, e, ob_some]
    dsimp only
    rw [if_b]
    simp (disch := omega) only [iI_lt]
    rw [if_neg (by omega)]
    by_cases c1 : R X Y = true
    · rw [if_pos c1, if_pos c1]
    · rw [if_neg c1, if_neg c1]
      by_cases c2 : d = 0
      · rw [if_pos c2, if_pos (show iI d = 0 by rw [c2]; rfl), x_nm_eq, iL_1, iI_add]
      · have c2' : ¬ iI d = 0 := fun q => c2 ((iI_eq (by omega) (by omega) (by omega) (by omega)).mp (show iI d = iI 0 from q))
        rw [if_neg c2, if_neg c2', x_nm_eq, iL_2, iI_mul, iI_add]
  have stop : ∀ (Y : Int) (sh so : Nat → Int32), d < Y → Y ≤ 100 → b_X8_findLeast_48 (iI (p : Int)) (iI aim) (iI d) (iI (cons a : Int)) (iI (c : Int)) (iI X) (iI Y, m, sh, so, lx, ly) = some (.inr (.inr (iI Y, m, sh, so, lx, ly))) := by
    intro Y sh so h1 h2
    rw [b_X8_findLeast_48]
    simp (disch := omega) only [iI_lt]
    rw [if_pos h1]
  rw [show x_fuel = 4997 + 1 + 1 + 1 from rfl]
  obtain ⟨sh1, so1, e1⟩ := step (-d) sh so (by omega) (by omega)
  by_cases c1 : R X (-d) = true
  · rw [if_pos c1] at e1
    rw [x_loop_r e1]
    exact ⟨_, rfl, Or.inl ⟨_, _, _, _, rfl, by rw [sf, if_pos c1]⟩⟩
  · rw [if_neg c1] at e1
    by_cases c2 : d = 0
    · rw [if_pos c2] at e1
      rw [x_loop_l e1, x_loop_r (stop (-d + 1) _ _ (by omega) (by omega))]
      have : ¬ R X d = true := by rw [c2] at c1 ⊢; exact c1
      exact ⟨_, rfl, Or.inr ⟨_, _, _, rfl, by rw [sf, if_neg c1, if_neg this]⟩⟩
    · rw [if_neg c2, show -d + 2 * d = d by omega] at e1
      obtain ⟨sh2, so2, e2⟩ := step d sh1 so1 (by omega) (by omega)
      rw [x_loop_l e1]
      by_cases c3 : R X d = true
      · rw [if_pos c3] at e2
        rw [x_loop_r e2]
        exact ⟨_, rfl, Or.inl ⟨_, _, _, _, rfl, by rw [sf, if_neg c1, if_pos c3]⟩⟩
      · rw [if_neg c3, if_neg c2] at e2
        rw [x_loop_l e2, x_loop_r (stop (d + 2 * d) _ _ (by omega) (by omega))]
        exact ⟨_, rfl, Or.inr ⟨_, _, _, rfl, by rw [sf, if_neg c1, if_neg c3]⟩⟩
theorem sF_cost {R : Int → Int → Bool} {c : Int} {X x y : Int} (hX : ab X ≤ c) (h : sF R c X = some (x, y)) : ab x + ab y = c := by
  have h1 := ab_b X
  unfold sF at h
  split at h
  · simp only [Option.some.injEq, Prod.mk.injEq] at h
    rw [← h.1, ← h.2]
    unfold ab at *
    repeat' split
    all_goals omega
  · split at h
    · simp only [Option.some.injEq, Prod.mk.injEq] at h
      rw [← h.1, ← h.2]
      unfold ab at *
      repeat' split
      all_goals omega
    · cases h
theorem M_fl26 (hm : MOK m a) (ha : AOK a) {p : Nat} (hp : p < aN a) {aim : Int} (haim : 0 ≤ aim ∧ aim ≤ 2) {c : Nat} (hc : c ≤ 8) (sh so : Nat → Int32) (lx ly : Int32) :
    ∃ b, x_loop (b_X8_findLeast_26 (iI (p : Int)) (iI aim) (iI (c : Int)) (iI (cons a : Int))) x_fuel (iI (-(c : Int)), m, sh, so, lx, ly) = some b ∧
      ((∃ x y sh' so', b = .inl (iI (c : Int), m, sh', so', iI x, iI y) ∧ sX (rchN a p (need a aim)) c (2 * c + 1) = some (x, y) ∧ ab x + ab y = c) ∨ (∃ z sh' so', b = .inr (z, m, sh', so', lx, ly) ∧ sX (rchN a p (need a aim)) c (2 * c + 1) = none)) := by
  obtain ⟨R, hR⟩ : ∃ R, R = rchN a p (need a aim) := ⟨_, rfl⟩
  rw [← hR]
  have key := x_for (B := b_X8_findLeast_26 (iI (p : Int)) (iI aim) (iI (c : Int)) (iI (cons a : Int))) (fun k (u : (Nat → Int32) × (Nat → Int32)) => (iI (-c + k : Int), m, u.1, u.2, lx, ly)) (fun k _ => sX R c k = none) (2 * c + 1)
    (fun b => (∃ x y sh' so', b = .inl (iI (c : Int), m, sh', so', iI x, iI y) ∧ sX R c (2 * c + 1) = some (x, y) ∧ ab x + ab y = c) ∨ (∃ z sh' so', b = .inr (z, m, sh', so', lx, ly) ∧ sX R c (2 * c + 1) = none))
    (by
      rintro k ⟨sh, so⟩ hk hI
      obtain ⟨X, hX⟩ : ∃ X : Int, X = -c + k := ⟨_, rfl⟩
      have hab := ab_b X
      obtain ⟨b, g1, g2⟩ := M_fl48 hm ha hp haim hc (X := X) (by omega) sh so lx ly
      rw [← hR] at g2
      have hsx : sX R c (k + 1) = sF R c X := by rw [sX, hI, ← hX]
      have hB : b_X8_findLeast_26 (iI (p : Int)) (iI aim) (iI (c : Int)) (iI (cons a : Int)) (iI X, m, sh, so, lx, ly) = (some b).bind fun z_ => Sum.elim (fun r_ => some (.inr (.inl r_))) (fun (x34, s35, s36, s37, s38, s39) => some (.inl ((iI X + (1 : Int32)), s35, s36, s37, s38, s39))) z_ := by
        rw [b_X8_findLeast_26, M_size (by omega), ob_some, x_nm_eq, iI_sub, iI_neg, g1]
        simp (disch := omega) only [iI_lt]
        rw [if_neg (by omega)]
      dsimp only
      rw [← hX, hB, ob_some]
      rcases g2 with ⟨x, y, sh', so', rfl, q1⟩ | ⟨z, sh', so', rfl, q1⟩
      · right
        exact ⟨_, rfl, Or.inl ⟨x, y, sh', so', rfl, sX_stop (hsx.trans q1) (by omega), sF_cost (by omega) q1⟩⟩
      · left
        refine ⟨(sh', so'), ?_, hsx.trans q1⟩
        show some (Sum.inl (iI X + (1 : Int32), m, sh', so', lx, ly)) = _
        rw [iL_1, iI_add, show X + 1 = -(c : Int) + ((k + 1 : Nat) : Int) by omega])
    (by
      rintro ⟨sh, so⟩ hI
      rw [b_X8_findLeast_26]
      simp (disch := omega) only [iI_lt]
      rw [if_pos (by omega)]
      exact ⟨_, rfl, Or.inr ⟨_, sh, so, rfl, hI⟩⟩)
    (sh, so) rfl (by omega)
  obtain ⟨b, g1, g2⟩ := key
  refine ⟨b, ?_, g2⟩
  rw [← g1]
  congr 2
  congr 1
  omega
theorem M_findLeast (hm : MOK m a) (ha : AOK a) {p : Nat} (hp : p < aN a) {aim : Int} (haim : 0 ≤ aim ∧ aim ≤ 2) (sh so : Nat → Int32) (lx ly : Int32) :
    ∃ v sh' so' lx' ly', f_X8_findLeast m sh so lx ly (iI (p : Int)) (iI aim) = some (v, m, sh', so', lx', ly') ∧ ((v = iI (-109) ∧ sC (rchN a p (need a aim)) 9 = none) ∨ ∃ x y, v = iI (ab x + ab y) ∧ lx' = iI x ∧ ly' = iI y ∧ sC (rchN a p (need a aim)) 9 = some (x, y) ∧ ab x + ab y ≤ 8) := by
  obtain ⟨R, hR⟩ : ∃ R, R = rchN a p (need a aim) := ⟨_, rfl⟩
  rw [← hR]
  obtain ⟨sh1, so1, e1, k1, k2⟩ := M_paint hm ha sh so
  have key := x_for (B := b_X8_findLeast_14 (iI (p : Int)) (iI aim) (iI (cons a : Int))) (fun c (u : (Nat → Int32) × (Nat → Int32)) => (iI (c : Int), m, u.1, u.2, lx, ly)) (fun c _ => sC R c = none) 9
    (fun b => (∃ x y sh' so', b = .inl (iI (ab x + ab y), m, sh', so', iI x, iI y) ∧ sC R 9 = some (x, y) ∧ ab x + ab y ≤ 8) ∨ (∃ z sh' so', b = .inr (z, m, sh', so', lx, ly) ∧ sC R 9 = none))
    (by
      rintro c ⟨sh, so⟩ hc hI
      obtain ⟨b, g1, g2⟩ := M_fl26 hm ha hp haim (c := c) (by omega) sh so lx ly
      rw [← hR] at g2
      have hsc : sC R (c + 1) = sX R c (2 * c + 1) := by rw [sC, hI]
      have hB : b_X8_findLeast_14 (iI (p : Int)) (iI aim) (iI (cons a : Int)) (iI (c : Int), m, sh, so, lx, ly) = (some b).bind fun z_ => Sum.elim (fun r_ => some (.inr (.inl r_))) (fun (x40, s41, s42, s43, s44, s45) => some (.inl ((iI (c : Int) + (1 : Int32)), s41, s42, s43, s44, s45))) z_ := by
        rw [b_X8_findLeast_14, iI_neg, g1]
        simp (disch := omega) only [iL_8, iI_lt]
        rw [if_neg (by omega)]
      dsimp only
      rw [hB, ob_some]
      rcases g2 with ⟨x, y, sh', so', rfl, q1, q2⟩ | ⟨z, sh', so', rfl, q1⟩
      · right
        exact ⟨_, rfl, Or.inl ⟨x, y, sh', so', by rw [q2], sC_stop (hsc.trans q1) (by omega), by omega⟩⟩
      · left
        refine ⟨(sh', so'), ?_, hsc.trans q1⟩
        show some (Sum.inl (iI (c : Int) + (1 : Int32), m, sh', so', lx, ly)) = _
        rw [iI_suc])
    (by
      rintro ⟨sh, so⟩ hI
      rw [b_X8_findLeast_14]
      simp (disch := omega) only [iL_8, iI_lt]
      rw [if_pos (by omega)]
      exact ⟨_, rfl, Or.inr ⟨_, sh, so, rfl, hI⟩⟩)
    (sh1, so1) rfl (by omega)
  obtain ⟨b, g1, g2⟩ := key
  unfold f_X8_findLeast
  rw [e1, ob_some]
  dsimp only
  rw [show f_X8_contents m so1 (-109 : Int32) = _ from M_contents' hm ha k2, ob_some, show x_loop (b_X8_findLeast_14 (iI (p : Int)) (iI aim) (iI (cons a : Int))) x_fuel ((0 : Int32), m, sh1, so1, lx, ly) = some b from g1, ob_some]
  rcases g2 with ⟨x, y, sh', so', rfl, q1, q2⟩ | ⟨z, sh', so', rfl, q1⟩
  · exact ⟨_, _, _, _, _, rfl, Or.inr ⟨x, y, rfl, rfl, rfl, q1, q2⟩⟩
  · exact ⟨_, _, _, _, _, rfl, Or.inl ⟨rfl, q1⟩⟩
end MF
