section MR
variable {m : Nat → Int32} {a : AL} {sh so : Nat → Int32}
theorem x_sumP {a : AL} (ha : AOK a) {B : Int32 × Int32 → Option ((Int32 × Int32) ⊕ (Int32 × Int32))} (g : Nat → Nat → Nat)
    (hs : ∀ (x y c : Nat), x < aC a → y < aR a → ((aC a * y + x : Nat) : Int) < 576 → ((aC a * y + x : Nat) : Int) < ((aC a * aR a : Nat) : Int) → B (iI (c : Int), iI ((aC a * y + x : Nat) : Int)) = some (.inl (iI ((c + g x y : Nat) : Int), iI ((aC a * y + x + 1 : Nat) : Int))))
    (hx : ∀ c : Nat, B (iI (c : Int), iI ((aC a * aR a : Nat) : Int)) = some (.inr (iI (c : Int), iI ((aC a * aR a : Nat) : Int)))) :
    ∃ z, x_loop B x_fuel (iI 0, iI 0) = some (iI (sumN (fun y => sumN (fun x => g x y) (aC a)) (aR a) : Int), z) := by
  have hb := ha.b
  have hcr : aC a * aR a ≤ 24 * 24 := Nat.mul_le_mul (by omega) (by omega)
  have e1 := x_sum (B := B) (fun k => g (k % aC a) (k / aC a)) (aC a * aR a) (by omega) 0
    (by
      intro i c hi
      obtain ⟨x, y, hx, hy, rfl⟩ := cell_of hi
      have h1 : (aC a * y + x) % aC a = x := by rw [Nat.mul_add_mod_self_left, Nat.mod_eq_of_lt hx]
      have h3 : (aC a * y + x) / aC a = y := by rw [Nat.mul_add_div (by omega), Nat.div_eq_of_lt hx, Nat.add_zero]
      show B _ = some (.inl (iI ((c + g ((aC a * y + x) % aC a) ((aC a * y + x) / aC a) : Nat) : Int), _))
      rw [h1, h3]
      exact hs x y c hx hy (by omega) (by omega)) hx
  refine ⟨iI ((aC a * aR a : Nat) : Int), e1.trans ?_⟩
  rw [Nat.zero_add, sumN_prod]
  congr 4
  refine sumN_congr (fun y hy => sumN_congr (fun x hx => ?_))
  have h1 : (aC a * y + x) % aC a = x := by rw [Nat.mul_add_mod_self_left, Nat.mod_eq_of_lt hx]
  have h3 : (aC a * y + x) / aC a = y := by rw [Nat.mul_add_div (by omega), Nat.div_eq_of_lt hx, Nat.add_zero]
  show g ((aC a * y + x) % aC a) ((aC a * y + x) / aC a) = g x y
  rw [h1, h3]
theorem cr_cast (a : AL) : (aC a : Int) * aR a = ((aC a * aR a : Nat) : Int) := by push_cast; rfl
theorem M_hides (h : MOK m a) (ha : AOK a) (hs : ShOK sh a (-109)) {p q : Nat} (hp : p < aN a) (hq : q < aN a) : ∃ z, x_loop (b_X8_hides_33 m (iI (p : Int)) (iI (q : Int)) sh) x_fuel (iI 0, iI 0) = some (iI (hid a p q : Int), z) := by
  have hb := ha.b
  have hcr : aC a * aR a ≤ 24 * 24 := Nat.mul_le_mul (by omega) (by omega)
  refine x_sumP ha (fun x y => if top a x y = p ∧ cov a q x y = true then 1 else 0) (fun x y c hx hy h1 h2 => ?_) (fun c => ?_)
  · have ht := top_b ha x y
    have hdm := cell_dm (c := aC a) (y := y) hx
    rw [b_X8_hides_33]
    simp only [iL_0, iL_1]
    rw [M_ld0 h, M_ld1 h]
    simp (disch := omega) only [ob_some, iI_mul, cr_cast, iI_le, x_nm_eq]
    rw [if_neg (by omega), M_ldS ha hs hx hy rfl, ob_some, x_remI (by omega) (by omega) (by omega) (by omega), x_divI (by omega) (by omega) (by omega) (by omega), ob_some, ob_some, hdm.1, hdm.2, M_covers h ha hq (by omega) (by omega), ob_some]
    simp (disch := omega) only [iI_eq, iI_add, bI_0, bI_0']
    by_cases g1 : top a x y = p
    · rw [if_pos g1]
      by_cases g2 : cov a q x y = true
      · rw [if_neg (fun z => z g2), if_pos ⟨g1, g2⟩]; rfl
      · rw [if_pos g2, if_neg (fun z => g2 z.2)]; rfl
    · rw [if_neg g1, if_neg (fun z => g1 z.1)]; rfl
  · rw [b_X8_hides_33]
    simp only [iL_0, iL_1]
    rw [M_ld0 h, M_ld1 h]
    simp (disch := omega) only [ob_some, iI_mul, cr_cast, iI_le]
    rw [if_pos (by omega)]
theorem M_sideTo (h : MOK m a) (ha : AOK a) (hs : ShOK sh a (-109)) {q x y : Int} (hq : -1 ≤ q ∧ q ≤ 1000) (hx : -1000 ≤ x ∧ x ≤ 1000) (hy : -1000 ≤ y ∧ y ≤ 1000) : f_X8_sideTo m sh (iI x) (iI y) (iI q) = some (iI (nb a q x y : Int)) := by
  have hb := ha.b
  unfold f_X8_sideTo
  rw [M_isCell h ha (by omega) (by omega), ob_some, show (-2 : Int32) = iI (-2) from rfl]
  simp only [iL_0, iL_1]
  rw [M_ld0 h]
  simp (disch := omega) only [ob_some, iI_mul, iI_add, bI_0, iI_eq]
  unfold nb
  by_cases hin : (0 ≤ x ∧ x < aC a) ∧ 0 ≤ y ∧ y < aR a
  · obtain ⟨x', rfl⟩ : ∃ x' : Nat, (x' : Int) = x := ⟨x.toNat, by omega⟩
    obtain ⟨y', rfl⟩ : ∃ y' : Nat, (y' : Int) = y := ⟨y.toNat, by omega⟩
    have ht := top_b ha x' y'
    rw [if_neg (fun z => z hin), if_neg (by omega), M_ldS ha hs (x := x') (y := y') (by omega) (by omega) (by push_cast; rfl), ob_some]
    simp (disch := omega) only [iI_eq]
    by_cases e : top a x' y' = q
    · rw [if_pos e, if_pos (sn_iff.mpr ⟨hin, e⟩)]; rfl
    · rw [if_neg e, if_neg (fun g => e (sn_iff.mp g).2)]; rfl
  · rw [if_pos hin, if_neg (by omega), if_neg (fun g => hin (sn_iff.mp g).1)]; rfl
theorem M_sideB (h : MOK m a) (ha : AOK a) {x y : Int} (hx : -1000 ≤ x ∧ x ≤ 1000) (hy : -1000 ≤ y ∧ y ≤ 1000) : f_X8_sideTo m sh (iI x) (iI y) (iI (-2)) = some (iI (b1 (¬ ((0 ≤ x ∧ x < aC a) ∧ 0 ≤ y ∧ y < aR a)) : Int)) := by
  unfold f_X8_sideTo
  rw [M_isCell h ha (by omega) (by omega), ob_some, show (-2 : Int32) = iI (-2) from rfl, if_pos rfl, if_pos rfl]
  simp only [bI_0, bI_0']
  unfold b1
  by_cases g : (0 ≤ x ∧ x < aC a) ∧ 0 ≤ y ∧ y < aR a
  · rw [if_neg (fun z => z g), if_neg (fun z => z g)]; rfl
  · rw [if_pos g, if_pos g]; rfl
theorem M_edge (h : MOK m a) (ha : AOK a) (hs : ShOK sh a (-109)) {p : Nat} {q : Int} (hp : p < aN a) (hq : -1 ≤ q ∧ q ≤ 1000) : ∃ z, x_loop (b_X8_edge_42 m (iI (p : Int)) (iI q) sh) x_fuel (iI 0, iI 0) = some (iI (edg a p q : Int), z) := by
  have hb := ha.b
  have hcr : aC a * aR a ≤ 24 * 24 := Nat.mul_le_mul (by omega) (by omega)
  refine x_sumP ha (fun x y => if top a x y = p then nb a q (x - 1) y + nb a q (x + 1) y + nb a q x (y - 1) + nb a q x (y + 1) else 0) (fun x y c hx hy h1 h2 => ?_) (fun c => ?_)
  · have ht := top_b ha x y
    have hdm := cell_dm (c := aC a) (y := y) hx
    rw [b_X8_edge_42]
    simp only [iL_0, iL_1]
    rw [M_ld0 h, M_ld1 h]
    simp (disch := omega) only [ob_some, iI_mul, cr_cast, iI_le, x_nm_eq]
    rw [if_neg (by omega), x_remI (by omega) (by omega) (by omega) (by omega), ob_some, x_divI (by omega) (by omega) (by omega) (by omega), ob_some, hdm.1, hdm.2, M_ldS ha hs hx hy rfl, ob_some]
    simp (disch := omega) only [iI_eq, iI_add, iI_sub]
    rw [M_sideTo h ha hs hq (by omega) (by omega), M_sideTo h ha hs hq (by omega) (by omega), M_sideTo h ha hs hq (by omega) (by omega), M_sideTo h ha hs hq (by omega) (by omega)]
    simp only [ob_some, iI_add]
    by_cases g1 : top a x y = p
    · rw [if_pos g1, if_pos g1]; rfl
    · rw [if_neg g1, if_neg g1]; rfl
  · rw [b_X8_edge_42]
    simp only [iL_0, iL_1]
    rw [M_ld0 h, M_ld1 h]
    simp (disch := omega) only [ob_some, iI_mul, cr_cast, iI_le]
    rw [if_pos (by omega)]
theorem M_edgeB (h : MOK m a) (ha : AOK a) (hs : ShOK sh a (-109)) {p : Nat} (hp : p < aN a) : ∃ z, x_loop (b_X8_edge_42 m (iI (p : Int)) (iI (-2)) sh) x_fuel (iI 0, iI 0) = some (iI (bor a p : Int), z) := by
  have hb := ha.b
  have hcr : aC a * aR a ≤ 24 * 24 := Nat.mul_le_mul (by omega) (by omega)
  refine x_sumP ha (fun x y => if top a x y = p then b1 (x = 0) + b1 (x + 1 = aC a) + b1 (y = 0) + b1 (y + 1 = aR a) else 0) (fun x y c hx hy h1 h2 => ?_) (fun c => ?_)
  · have ht := top_b ha x y
    have hdm := cell_dm (c := aC a) (y := y) hx
    rw [b_X8_edge_42]
    simp only [iL_0, iL_1]
    rw [M_ld0 h, M_ld1 h]
    simp (disch := omega) only [ob_some, iI_mul, cr_cast, iI_le, x_nm_eq]
    rw [if_neg (by omega), x_remI (by omega) (by omega) (by omega) (by omega), ob_some, x_divI (by omega) (by omega) (by omega) (by omega), ob_some, hdm.1, hdm.2, M_ldS ha hs hx hy rfl, ob_some]
    simp (disch := omega) only [iI_eq, iI_add, iI_sub]
    rw [M_sideB h ha (by omega) (by omega), M_sideB h ha (by omega) (by omega), M_sideB h ha (by omega) (by omega), M_sideB h ha (by omega) (by omega)]
    simp only [ob_some, iI_add]
    have k : ∀ (P Q : Prop) [Decidable P] [Decidable Q], (P ↔ Q) → b1 P = b1 Q := fun P Q _ _ e => by
      unfold b1
      by_cases z : P
      · rw [if_pos z, if_pos (e.mp z)]
      · rw [if_neg z, if_neg (fun w => z (e.mpr w))]
    rw [k (¬ ((0 ≤ (x : Int) - 1 ∧ (x : Int) - 1 < aC a) ∧ 0 ≤ (y : Int) ∧ (y : Int) < aR a)) (x = 0) (by omega), k (¬ ((0 ≤ (x : Int) + 1 ∧ (x : Int) + 1 < aC a) ∧ 0 ≤ (y : Int) ∧ (y : Int) < aR a)) (x + 1 = aC a) (by omega), k (¬ ((0 ≤ (x : Int) ∧ (x : Int) < aC a) ∧ 0 ≤ (y : Int) - 1 ∧ (y : Int) - 1 < aR a)) (y = 0) (by omega), k (¬ ((0 ≤ (x : Int) ∧ (x : Int) < aC a) ∧ 0 ≤ (y : Int) + 1 ∧ (y : Int) + 1 < aR a)) (y + 1 = aR a) (by omega)]
    by_cases g1 : top a x y = p
    · rw [if_pos g1, if_pos g1]; rfl
    · rw [if_neg g1, if_neg g1]; rfl
  · rw [b_X8_edge_42]
    simp only [iL_0, iL_1]
    rw [M_ld0 h, M_ld1 h]
    simp (disch := omega) only [ob_some, iI_mul, cr_cast, iI_le]
    rw [if_pos (by omega)]
theorem M_percent (h : MOK m a) (ha : AOK a) (hs : SoOK so a) {p : Nat} (hp : p < aN a) : f_X8_percent m so (iI (p : Int)) = some (iI (shr a p)) := by
  have hb := ha.b
  have hv := prodP ha hp
  have hc := cnt_le ha p
  unfold f_X8_percent
  rw [x_ldI rfl (by omega) (by omega), hs p (by omega), ob_some, M_area h (by omega) hp, ob_some, iL_100, iI_mul, x_divI (by omega) (by omega) (by omega) (by omega)]
  rfl
theorem M_layerOf' (h : MOK m a) (ha : AOK a) {p : Nat} (hp : p < aN a) : f_X8_layerOf m (iI (p : Int)) = some (iI (lyr a p : Int)) := by
  have := M_layerOf h ha (lyr_lt ha hp)
  rw [lyr_o ha hp] at this
  exact this
theorem M_isAhead (h : MOK m a) (ha : AOK a) (hs : SoOK so a) {o p : Nat} (ho : o < aN a) (hp : p < aN a) : f_X8_isAhead m so (iI (o : Int)) (iI (p : Int)) = some (bI (shr a o < shr a p ∨ (shr a o = shr a p ∧ lyr a o < lyr a p))) := by
  have hb := ha.b
  have h1 := shr_b ha ho
  have h2 := shr_b ha hp
  have h3 := lyr_lt ha ho
  have h4 := lyr_lt ha hp
  unfold f_X8_isAhead
  rw [M_percent h ha hs ho, M_percent h ha hs hp, M_layerOf' h ha ho, M_layerOf' h ha hp]
  simp (disch := omega) only [ob_some, iI_eq, iI_le]
  unfold bI
  repeat' split
  all_goals first | rfl | (exfalso; omega)
theorem M_rank (h : MOK m a) (ha : AOK a) (hs : SoOK so a) {p : Nat} (hp : p < aN a) : x_loop (b_X8_byShare_28 m (iI (p : Int)) so) x_fuel (iI 0, iI 0) = some (iI (rnk a p : Int), iI (aN a : Int)) := by
  have hb := ha.b
  have e1 := x_sum (B := b_X8_byShare_28 m (iI (p : Int)) so) (fun o => if shr a o < shr a p ∨ (shr a o = shr a p ∧ lyr a o < lyr a p) then 1 else 0) (aN a) (by omega) 0
    (by
      intro i c hi
      rw [b_X8_byShare_28, M_isAhead h ha hs hi hp]
      simp only [iL_0, iL_1, iL_2]
      rw [M_ld2 h]
      simp (disch := omega) only [iI_add, iI_le, ob_some, x_nm_eq, bI_0]
      rw [if_neg (by omega)]
      by_cases g : shr a i < shr a p ∨ (shr a i = shr a p ∧ lyr a i < lyr a p)
      · rw [if_neg (fun z => z g), if_pos g]; rfl
      · rw [if_pos g, if_neg g]; rfl)
    (by
      intro c
      rw [b_X8_byShare_28]
      simp only [iL_2]
      rw [M_ld2 h]
      simp (disch := omega) only [iI_le, ob_some]
      rw [if_pos (by omega)])
  rw [Nat.zero_add] at e1
  exact e1
/-- outside the page -/
theorem M_outside (h : MOK m a) (ha : AOK a) {p : Nat} (hp : p < aN a) : f_X8_outside m (iI (p : Int)) = some (iI (aP a p 2 * aP a p 3 - ins a p)) := by
  have hb := ha.b
  have hv := ha.p hp
  obtain ⟨w, hw⟩ : ∃ w : Nat, (w : Int) = aP a p 2 := ⟨(aP a p 2).toNat, by omega⟩
  obtain ⟨v, hv2⟩ : ∃ v : Nat, (v : Int) = aP a p 3 := ⟨(aP a p 3).toNat, by omega⟩
  have hwv : w * v ≤ 12 * 12 := Nat.mul_le_mul (by omega) (by omega)
  have ec : (w : Int) * v = ((w * v : Nat) : Int) := by push_cast; rfl
  have e1 := x_sum (B := b_X8_outside_4 m (iI (p : Int))) (fun k => (fun i j : Nat => if inP a (aP a p 0 + i) (aP a p 1 + j) = true then 0 else 1) (k % w) (k / w)) (w * v) (by omega) 0
    (by
      intro k c hk
      obtain ⟨i, j, hi, hj, rfl⟩ := cell_of hk
      have h1 : (w * j + i) % w = i := by rw [Nat.mul_add_mod_self_left, Nat.mod_eq_of_lt hi]
      have h3 : (w * j + i) / w = j := by rw [Nat.mul_add_div (by omega), Nat.div_eq_of_lt hi, Nat.add_zero]
      have hdm := cell_dm (c := w) (y := j) hi
      dsimp only
      rw [h1, h3, b_X8_outside_4, M_area h (by omega) hp]
      simp only [iL_0, iL_1, iL_2]
      rw [M_ld0 h, M_ld1 h, M_of0 h (by omega) hp, M_of1 h (by omega) hp, M_of2 h (by omega) hp, ← hw, ← hv2, ec]
      simp (disch := omega) only [ob_some, iI_le, iI_sub, x_nm_eq]
      rw [if_neg (by omega), x_remI (by omega) (by omega) (by omega) (by omega), x_divI (by omega) (by omega) (by omega) (by omega), ob_some, ob_some, hdm.1, hdm.2, iI_add (aP a p 0), iI_add (aP a p 1), M_in (by omega) (by omega) (by omega), M_in (by omega) (by omega) (by omega)]
      simp (disch := omega) only [ob_some, bI_0, iI_add]
      by_cases g : inP a (aP a p 0 + i) (aP a p 1 + j) = true
      · have g2 := inP_iff.mp g
        rw [if_neg (by omega), if_neg (by omega), if_pos g]; rfl
      · have g2 : ¬ _ := fun z => g (inP_iff.mpr z)
        rw [if_neg g]
        by_cases g3 : 0 ≤ aP a p 0 + i ∧ aP a p 0 + i ≤ (aC a : Int) - 1
        · rw [if_neg (fun z => z g3), if_pos (by omega)]; rfl
        · rw [if_pos g3]; rfl)
    (by
      intro c
      rw [b_X8_outside_4, M_area h (by omega) hp, ← hw, ← hv2, ec, ob_some]
      simp (disch := omega) only [iI_le]
      rw [if_pos (by omega)])
  unfold f_X8_outside
  have e1' : x_loop (b_X8_outside_4 m (iI (p : Int))) x_fuel ((0 : Int32), (0 : Int32)) = _ := e1
  rw [e1', ob_some, Nat.zero_add, sumN_prod]
  -- the cells of the piece that lie on the page, by its own rows
  have e2 : ins a p = sumN (fun j : Nat => sumN (fun i : Nat => if inP a (aP a p 0 + i) (aP a p 1 + j) = true then 1 else 0) w) v := by
    unfold ins
    have r1 : ∀ y : Nat, y < aR a → sumN (fun x : Nat => if cov a p x y = true then 1 else 0) (aC a) = if aP a p 1 ≤ (y : Int) ∧ (y : Int) < aP a p 1 + v then (fun z : Int => sumN (fun i : Nat => if inP a (aP a p 0 + i) z = true then 1 else 0) w) (y : Int) else 0 := by
      intro y hy
      by_cases g : aP a p 1 ≤ (y : Int) ∧ (y : Int) < aP a p 1 + v
      · rw [if_pos g]
        have r2 := sumN_shift (fun _ => 1) (aC a) (aP a p 0) w
        have r3 : sumN (fun x : Nat => if cov a p x y = true then 1 else 0) (aC a) = sumN (fun x : Nat => if aP a p 0 ≤ (x : Int) ∧ (x : Int) < aP a p 0 + w then (fun _ => 1) (x : Int) else 0) (aC a) := by
          refine sumN_congr (fun x _ => ?_)
          by_cases g2 : aP a p 0 ≤ (x : Int) ∧ (x : Int) < aP a p 0 + w
          · rw [if_pos g2, if_pos (cov_iff.mpr (by omega))]
          · rw [if_neg g2, if_neg (fun z => g2 (by have := cov_iff.mp z; omega))]
        rw [r3, r2]
        refine sumN_congr (fun i _ => ?_)
        by_cases g2 : 0 ≤ aP a p 0 + i ∧ aP a p 0 + i < aC a
        · rw [if_pos g2, if_pos (inP_iff.mpr (by omega))]
        · rw [if_neg g2, if_neg (fun z => g2 (inP_iff.mp z).1)]
      · rw [if_neg g]
        exact sumN_none (fun x _ => if_neg (fun z => g (by have := cov_iff.mp z; omega)))
    refine (sumN_congr r1).trans ((sumN_shift (fun z : Int => sumN (fun i : Nat => if inP a (aP a p 0 + i) z = true then 1 else 0) w) (aR a) (aP a p 1) v).trans ?_)
    refine sumN_congr (fun j _ => ?_)
    by_cases g2 : 0 ≤ aP a p 1 + j ∧ aP a p 1 + j < aR a
    · rw [if_pos g2]
    · rw [if_neg g2]
      exact (sumN_none (fun i _ => if_neg (fun z => g2 (inP_iff.mp z).2))).symm
  have e3 : sumN (fun y => sumN (fun x => (fun k => (fun i j : Nat => if inP a (aP a p 0 + i) (aP a p 1 + j) = true then 0 else 1) (k % w) (k / w)) (w * y + x)) w) v + ins a p = v * w := by
    rw [e2, ← sumN_add]
    refine (sumN_all (m := w) (fun j hj => ?_)).mpr (fun j hj => ?_)
    all_goals
      have r : (sumN (fun x => (fun k => (fun i j : Nat => if inP a (aP a p 0 + i) (aP a p 1 + j) = true then 0 else 1) (k % w) (k / w)) (w * j + x)) w + sumN (fun i : Nat => if inP a (aP a p 0 + i) (aP a p 1 + j) = true then 1 else 0) w) = w * 1 := by
        rw [← sumN_add]
        refine (sumN_all (m := 1) (fun i hi => ?_)).mpr (fun i hi => ?_)
        all_goals
          have h1 : (w * j + i) % w = i := by rw [Nat.mul_add_mod_self_left, Nat.mod_eq_of_lt hi]
          have h3 : (w * j + i) / w = j := by rw [Nat.mul_add_div (by omega), Nat.div_eq_of_lt hi, Nat.add_zero]
          dsimp only
          rw [h1, h3]
          split <;> omega
      omega
  dsimp only
  congr 2
  have h5 : (v * w : Nat) = w * v := Nat.mul_comm _ _
  dsimp only at e3
  rw [← hw, ← hv2, ec]
  omega
end MR
