/-! the calls that look, on both sides -/
theorem if_b {α : Type} {P : Prop} [Decidable P] (A B : α) : (if bI P = 0 then A else B) = if P then B else A := by
  by_cases h : P
  · rw [bI_t h, if_pos h, if_neg (by decide)]
  · rw [bI_f h, if_neg h, if_pos rfl]
section QA
variable {s : LyS} {m : Nat → Int32}
theorem q_seen (h : LM s m) (p0 p1 : Int32) (sh so : Nat → Int32) : ∃ v sh' so', f_X7_seen s p0 p1 = some v ∧ f_X8_seen m sh so p0 p1 = some (v, sh', so') := by
  obtain ⟨a, ha, hl, hm, -⟩ := h
  have hb := ha.b
  obtain ⟨x, hx1, hx2, rfl⟩ := iI_of p0
  obtain ⟨y, hy1, hy2, rfl⟩ := iI_of p1
  unfold f_X7_seen f_X8_seen
  rw [L_hasCell hl ha ⟨hx1, hx2⟩ ⟨hy1, hy2⟩, ob_some, M_isCell hm ha ⟨hx1, hx2⟩ ⟨hy1, hy2⟩, ob_some, if_b, if_b]
  by_cases hin : (0 ≤ x ∧ x < aC a) ∧ 0 ≤ y ∧ y < aR a
  · obtain ⟨x', rfl⟩ : ∃ x' : Nat, (x' : Int) = x := ⟨x.toNat, by omega⟩
    obtain ⟨y', rfl⟩ : ∃ y' : Nat, (y' : Int) = y := ⟨y.toNat, by omega⟩
    obtain ⟨sh', so', e, h1, h2⟩ := M_paint hm ha sh so
    have ht := top_b ha x' y'
    rw [if_pos hin, if_pos hin, iL_0, L_coveringPiece hl ha (by omega) (by omega) (by omega), ob_some, cvI_top, e, ob_some]
    dsimp only
    rw [M_ld0 hm, ob_some, iI_mul, iI_add, M_ldS ha h1 (x := x') (y := y') (by omega) (by omega) (by push_cast; rfl), ob_some]
    refine ⟨iI (top a x' y'), sh', so', ?_, rfl⟩
    show (if iI (if top a x' y' = -1 then -109 else top a x' y') = (-109 : Int32) then some (-1 : Int32) else some (iI (if top a x' y' = -1 then -109 else top a x' y'))) = some (iI (top a x' y'))
    rw [show (-109 : Int32) = iI (-109) from rfl]
    by_cases c : top a x' y' = -1
    · rw [c, if_pos rfl, if_pos rfl]
      rfl
    · rw [if_neg c, if_neg]
      rw [iI_eq (by omega) (by omega) (by omega) (by omega)]
      omega
  · rw [if_neg hin, if_neg hin]
    exact ⟨_, _, _, rfl, rfl⟩
theorem q_inLayer (h : LM s m) (p0 : Int32) : ∃ v, f_X7_inLayer s p0 = some v ∧ f_X8_inLayer m p0 = some v := by
  obtain ⟨a, ha, hl, hm, -⟩ := h
  have hb := ha.b
  obtain ⟨x, hx1, hx2, rfl⟩ := iI_of p0
  unfold f_X7_inLayer f_X8_inLayer
  rw [L_has hl (by omega) ⟨hx1, hx2⟩, ob_some, M_isPiece hm (by omega) ⟨hx1, hx2⟩, ob_some, if_b, if_b]
  by_cases hin : 0 ≤ x ∧ x < aN a
  · obtain ⟨x', rfl⟩ : ∃ x' : Nat, (x' : Int) = x := ⟨x.toNat, by omega⟩
    rw [if_pos hin, if_pos hin, L_pieceIn hl (by omega) (by omega), ob_some, iL_76, iI_add, M_ldO hm (by omega) (show x' < aN a by omega) rfl, ob_some]
    exact ⟨_, rfl, rfl⟩
  · rw [if_neg hin, if_neg hin]
    exact ⟨_, rfl, rfl⟩
theorem M_covLoop {a : AL} (hm : MOK m a) (ha : AOK a) {x y : Nat} (hx : x < aC a) (hy : y < aR a) {k : Int} (hk : 0 ≤ k ∧ k < 2147483648) : ((x_loop (b_X8_covering_29 m (iI (x : Int)) (iI (y : Int))) x_fuel (iI k, iI (aN a : Int) - 1)).bind fun z_ => Sum.elim (fun r_ => some r_) (fun (_ : Int32 × Int32) => some (-109 : Int32)) z_) = some (iI (cvI a x y (aN a) k)) := by
  have hb := ha.b
  have key := x_for (B := b_X8_covering_29 m (iI (x : Int)) (iI (y : Int))) (fun i (j : Int) => (iI j, iI ((aN a : Int) - 1 - i))) (fun i j => 0 ≤ j ∧ j < 2147483648 ∧ cvI a x y (aN a - i) j = cvI a x y (aN a) k) (aN a) (fun b => ∃ z, (b = Sum.inl (iI (cvI a x y (aN a) k)) ∨ (b = Sum.inr z ∧ cvI a x y (aN a) k = -109)))
    (by
      intro i j hi hI
      obtain ⟨h1, h2, h3⟩ := hI
      have hl : aN a - 1 - i < aN a := by omega
      have ho := ha.o hl
      obtain ⟨l, hl2⟩ : ∃ l, l = aN a - 1 - i := ⟨_, rfl⟩
      rw [← hl2] at hl ho
      have e1 : ((aN a : Int) - 1 - i) = (l : Int) := by omega
      have e2 : aN a - i = l + 1 := by omega
      rw [e2, cvI] at h3
      rw [b_X8_covering_29, e1, iL_76, iI_add, M_ldO hm (by omega) hl rfl, ob_some, M_covers hm ha ho (by omega) (by omega), ob_some, if_b, iL_0]
      simp (disch := omega) only [iI_lt, ob_some]
      rw [if_neg (by omega)]
      have e3 : iI (l : Int) + (-1 : Int32) = iI ((aN a : Int) - 1 - (i + 1 : Nat)) := by
        rw [show (-1 : Int32) = iI (-1) from rfl, iI_add]
        congr 1
        omega
      by_cases hcv : cov a (aO a l) x y = true
      · rw [if_pos hcv] at h3
        rw [if_pos hcv]
        by_cases hj : j = 0
        · right
          rw [if_pos hj] at h3
          subst hj
          exact ⟨_, if_pos rfl, (iI 0, iI 0), Or.inl (by rw [← h3])⟩
        · left
          rw [if_neg hj] at h3
          refine ⟨j - 1, ?_, by omega, by omega, ?_⟩
          · have hj' : ¬ iI j = iI 0 := fun q => hj ((iI_eq (by omega) (by omega) (by omega) (by omega)).mp q)
            rw [if_neg hj', e3, show (-1 : Int32) = iI (-1) from rfl, iI_add]
            rfl
          · rw [← h3]; congr 1; omega
      · rw [if_neg hcv] at h3
        left
        refine ⟨j, ?_, h1, h2, ?_⟩
        · rw [if_neg hcv, e3]
        · rw [← h3]; congr 1; omega)
    (by
      intro j hI
      obtain ⟨h1, h2, h3⟩ := hI
      rw [Nat.sub_self, cvI] at h3
      rw [b_X8_covering_29]
      simp (disch := omega) only [iL_0, iI_lt]
      rw [if_pos (by omega)]
      exact ⟨_, rfl, _, Or.inr ⟨rfl, h3.symm⟩⟩)
    k ⟨hk.1, hk.2, rfl⟩ (by omega)
  obtain ⟨b, h1, z, h2⟩ := key
  have e0 : iI ((aN a : Int) - 1 - (0 : Nat)) = iI (aN a : Int) - (1 : Int32) := by
    rw [iL_1, iI_sub]; congr 1; omega
  rw [← e0, h1, ob_some]
  rcases h2 with rfl | ⟨rfl, h2⟩
  · rfl
  · rw [h2]; rfl
theorem q_covering (h : LM s m) (p0 p1 p2 : Int32) : ∃ v, f_X7_covering s p0 p1 p2 = some v ∧ f_X8_covering m p0 p1 p2 = some v := by
  obtain ⟨a, ha, hl, hm, -⟩ := h
  have hb := ha.b
  obtain ⟨x, hx1, hx2, rfl⟩ := iI_of p0
  obtain ⟨y, hy1, hy2, rfl⟩ := iI_of p1
  obtain ⟨k, hk1, hk2, rfl⟩ := iI_of p2
  unfold f_X7_covering f_X8_covering
  rw [L_hasCell hl ha ⟨hx1, hx2⟩ ⟨hy1, hy2⟩, ob_some, M_isCell hm ha ⟨hx1, hx2⟩ ⟨hy1, hy2⟩, ob_some, if_b, if_b]
  by_cases hin : (0 ≤ x ∧ x < aC a) ∧ 0 ≤ y ∧ y < aR a
  · obtain ⟨x', rfl⟩ : ∃ x' : Nat, (x' : Int) = x := ⟨x.toNat, by omega⟩
    obtain ⟨y', rfl⟩ : ∃ y' : Nat, (y' : Int) = y := ⟨y.toNat, by omega⟩
    rw [if_pos hin, if_pos hin, iL_0]
    by_cases hk : 0 ≤ k
    · have hk' : iI 0 ≤ iI k := (iI_le (by omega) (by omega) (by omega) (by omega)).mpr hk
      rw [if_pos hk', if_pos hk', L_coveringPiece hl ha (by omega) (by omega) ⟨hk, hk2⟩, ob_some, iL_2, M_ld2 hm, ob_some, x_nm_eq]
      exact ⟨_, rfl, M_covLoop hm ha (by omega) (by omega) ⟨hk, hk2⟩⟩
    · have hk' : ¬ iI 0 ≤ iI k := fun q => hk ((iI_le (by omega) (by omega) (by omega) (by omega)).mp q)
      rw [if_neg hk', if_neg hk']
      exact ⟨_, rfl, rfl⟩
  · rw [if_neg hin, if_neg hin]
    exact ⟨_, rfl, rfl⟩
theorem q_hides (h : LM s m) (p0 p1 : Int32) (ss : SiS) (sh so : Nat → Int32) : ∃ v ss' sh' so', f_X7_hides s ss p0 p1 = some (v, ss') ∧ f_X8_hides m sh so p0 p1 = some (v, sh', so') := by
  obtain ⟨a, ha, hl, hm, -⟩ := h
  have hb := ha.b
  obtain ⟨x, hx1, hx2, rfl⟩ := iI_of p0
  obtain ⟨y, hy1, hy2, rfl⟩ := iI_of p1
  unfold f_X7_hides f_X8_hides
  rw [L_has hl (by omega) ⟨hx1, hx2⟩, ob_some, M_isPiece hm (by omega) ⟨hx1, hx2⟩, ob_some, if_b, if_b]
  by_cases hx : 0 ≤ x ∧ x < aN a
  · rw [if_pos hx, if_pos hx, L_has hl (by omega) ⟨hy1, hy2⟩, ob_some, M_isPiece hm (by omega) ⟨hy1, hy2⟩, ob_some, if_b, if_b]
    by_cases hy : 0 ≤ y ∧ y < aN a
    · rw [if_pos hy, if_pos hy]
      by_cases c : iI x = iI y
      · rw [if_pos c, if_pos c]
        exact ⟨_, _, _, _, rfl, rfl⟩
      · obtain ⟨x', rfl⟩ : ∃ x' : Nat, (x' : Int) = x := ⟨x.toNat, by omega⟩
        obtain ⟨y', rfl⟩ : ∃ y' : Nat, (y' : Int) = y := ⟨y.toNat, by omega⟩
        obtain ⟨sh', so', e, h1, h2⟩ := M_paint hm ha sh so
        obtain ⟨ss', e2, h3⟩ := L_look hl ha ss
        obtain ⟨z, e3⟩ := M_hides hm ha h1 (p := x') (q := y') (by omega) (by omega)
        rw [if_neg c, if_neg c, e2, ob_some, S_hidden hl ha h3 (by omega) (by omega), ob_some, e, ob_some]
        dsimp only
        rw [iL_0, e3, ob_some]
        exact ⟨_, _, _, _, rfl, rfl⟩
    · rw [if_neg hy, if_neg hy]
      exact ⟨_, _, _, _, rfl, rfl⟩
  · rw [if_neg hx, if_neg hx]
    exact ⟨_, _, _, _, rfl, rfl⟩
theorem q_byShare (h : LM s m) (p0 : Int32) (ss : SiS) (sh so : Nat → Int32) : ∃ v ss' sh' so', f_X7_byShare s ss p0 = some (v, ss') ∧ f_X8_byShare m sh so p0 = some (v, sh', so') := by
  obtain ⟨a, ha, hl, hm, -⟩ := h
  have hb := ha.b
  unfold f_X7_byShare f_X8_byShare
  by_cases c : 0 ≤ p0
  · obtain ⟨sh', so', e, h1, h2⟩ := M_paint hm ha sh so
    obtain ⟨ss', e2, h3⟩ := L_look hl ha ss
    rw [if_pos c, if_pos c, e2, ob_some, e, ob_some]
    dsimp only
    -- both loops stop at the first piece of this rank
    have kc := x_for (B := b_X7_byShare_16 s p0 ss') (fun i (_ : Unit) => iI (i : Int)) (fun i _ => ∀ j, j < i → ¬ iI (rnk a j : Int) = p0) (aN a) (fun b => (∃ j, j < aN a ∧ iI (rnk a j : Int) = p0 ∧ (∀ j', j' < j → ¬ iI (rnk a j' : Int) = p0) ∧ b = Sum.inl (iI (j : Int), ss')) ∨ ((∀ j, j < aN a → ¬ iI (rnk a j : Int) = p0) ∧ b = Sum.inr (iI (aN a : Int))))
      (by
        intro i _ hi hI
        rw [b_X7_byShare_16]
        unfold f_X1_pieces
        rw [ob_some, hl.n, S_rank hl ha h3 hi, ob_some]
        simp (disch := omega) only [iI_le]
        rw [if_neg (by omega)]
        by_cases g : iI (rnk a i : Int) = p0
        · right
          rw [if_pos g]
          exact ⟨_, rfl, Or.inl ⟨i, hi, g, hI, rfl⟩⟩
        · left
          rw [if_neg g, iI_suc]
          refine ⟨(), rfl, fun j hj => ?_⟩
          by_cases e : j = i
          · subst e; exact g
          · exact hI j (by omega))
      (by
        intro _ hI
        rw [b_X7_byShare_16]
        unfold f_X1_pieces
        rw [ob_some, hl.n]
        simp (disch := omega) only [iI_le]
        rw [if_pos (by omega)]
        exact ⟨_, rfl, Or.inr ⟨hI, rfl⟩⟩) () (fun j hj => by omega) (by omega)
    have km := x_for (B := b_X8_byShare_13 m p0 sh' so') (fun i (_ : Unit) => iI (i : Int)) (fun i _ => ∀ j, j < i → ¬ iI (rnk a j : Int) = p0) (aN a) (fun b => (∃ j, j < aN a ∧ iI (rnk a j : Int) = p0 ∧ (∀ j', j' < j → ¬ iI (rnk a j' : Int) = p0) ∧ b = Sum.inl (iI (j : Int), sh', so')) ∨ ((∀ j, j < aN a → ¬ iI (rnk a j : Int) = p0) ∧ b = Sum.inr (iI (aN a : Int))))
      (by
        intro i _ hi hI
        have hrk := M_rank hm ha h2 hi
        rw [b_X8_byShare_13]
        rw [show x_loop (b_X8_byShare_28 m (iI (i : Int)) so') x_fuel ((0 : Int32), (0 : Int32)) = _ from hrk, iL_2, M_ld2 hm, ob_some, ob_some]
        simp (disch := omega) only [iI_le]
        rw [if_neg (by omega)]
        by_cases g : iI (rnk a i : Int) = p0
        · right
          rw [if_pos g]
          exact ⟨_, rfl, Or.inl ⟨i, hi, g, hI, rfl⟩⟩
        · left
          rw [if_neg g, iI_suc]
          refine ⟨(), rfl, fun j hj => ?_⟩
          by_cases e : j = i
          · subst e; exact g
          · exact hI j (by omega))
      (by
        intro _ hI
        rw [b_X8_byShare_13, iL_2, M_ld2 hm, ob_some]
        simp (disch := omega) only [iI_le]
        rw [if_pos (by omega)]
        exact ⟨_, rfl, Or.inr ⟨hI, rfl⟩⟩) () (fun j hj => by omega) (by omega)
    obtain ⟨b, e3, hc⟩ := kc
    obtain ⟨b', e4, hm'⟩ := km
    rw [show (0 : Int32) = iI ((0 : Nat) : Int) from rfl, e3, e4, ob_some, ob_some]
    rcases hc with ⟨j, g1, g2, g3, rfl⟩ | ⟨g1, rfl⟩
    · rcases hm' with ⟨j', k1, k2, k3, rfl⟩ | ⟨k1, rfl⟩
      · have : j = j' := by
          rcases Nat.lt_trichotomy j j' with q | q | q
          · exact absurd g2 (k3 j q)
          · exact q
          · exact absurd k2 (g3 j' q)
        subst this
        exact ⟨_, _, _, _, rfl, rfl⟩
      · exact absurd g2 (k1 j g1)
    · rcases hm' with ⟨j', k1, k2, k3, rfl⟩ | ⟨k1, rfl⟩
      · exact absurd k2 (g1 j' k1)
      · exact ⟨_, _, _, _, rfl, rfl⟩
  · rw [if_neg c, if_neg c]
    exact ⟨_, _, _, _, rfl, rfl⟩
end QA
