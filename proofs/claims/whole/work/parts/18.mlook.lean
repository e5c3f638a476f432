/-! the reference's looks -/
theorem iI_suc (i : Nat) : iI (i : Int) + 1 = iI ((i + 1 : Nat) : Int) := iI_add i 1
section MQ
variable {m : Nat → Int32} {a : AL} {sh so : Nat → Int32}
theorem M_ldS (ha : AOK a) (hs : ShOK sh a (-109)) {x y : Nat} (hx : x < aC a) (hy : y < aR a) {k : Int} (hk : k = ((aC a * y + x : Nat) : Int)) : x_ld 576 sh (iI k) = some (iI (top a x y)) := by
  have hb := ha.b
  have hc := cell_lt (c := aC a) (r := aR a) (by omega) (by omega) hx hy
  rw [x_ldI hk hc.1 (by omega), hs x y hx hy]
  rfl
theorem top_b {a : AL} (ha : AOK a) (x y : Int) : -1 ≤ top a x y ∧ top a x y < 12 := by
  have hb := ha.b
  refine ⟨top_ge a x y, ?_⟩
  by_cases h : top a x y = -1
  · omega
  · have h1 := top_ge a x y
    have := top_lt ha (x := x) (y := y) (p := (top a x y).toNat) (by omega)
    omega
theorem M_isCell (h : MOK m a) (ha : AOK a) {x y : Int} (hx : -2147483648 ≤ x ∧ x < 2147483648) (hy : -2147483648 ≤ y ∧ y < 2147483648) : f_X8_isCell m (iI x) (iI y) = some (bI ((0 ≤ x ∧ x < aC a) ∧ 0 ≤ y ∧ y < aR a)) := by
  have hb := ha.b
  unfold f_X8_isCell
  simp only [iL_0, iL_1, iL_2, iL_3, iL_4, iL_5, iL_6, iL_7, iL_8, iL_9, iL_10, iL_11, iL_12, iL_15, iL_16, iL_20, iL_22, iL_24, iL_31, iL_32, iL_40, iL_45, iL_48, iL_57, iL_59, iL_60, iL_63, iL_72, iL_76, iL_88, iL_97, iL_100, iL_101, iL_102, iL_103, iL_109, iL_110, iL_112, iL_114, iL_120, iL_122, iL_144, iL_255, iL_352, iL_440, iL_576, iL_1000, nI_iI, iI_add, iI_sub, iI_mul, iI_neg]
  rw [M_ld0 h, M_ld1 h]
  simp only [ob_some, iI_sub]
  rw [M_in hx (by omega) (by omega), M_in hy (by omega) (by omega)]
  simp only [ob_some, bI_0]
  unfold bI
  repeat' split
  all_goals first | rfl | (exfalso; omega)
theorem M_isSeen (h : MOK m a) (ha : AOK a) (hs : ShOK sh a (-109)) {q x y : Int} (hq : -1000 ≤ q ∧ q ≤ 1000) (hx : -1000 ≤ x ∧ x ≤ 1000) (hy : -1000 ≤ y ∧ y ≤ 1000) : f_X8_isSeen m sh (iI q) (iI x) (iI y) = some (bI (sn a q x y = true)) := by
  have hb := ha.b
  unfold f_X8_isSeen
  simp only [iL_0, iL_1]
  rw [M_ld0 h, M_ld1 h]
  simp only [ob_some, iI_sub, iI_mul, iI_add]
  rw [M_in (by omega) (by omega) (by omega), M_in (by omega) (by omega) (by omega)]
  simp only [ob_some, bI_0]
  by_cases hin : (0 ≤ x ∧ x < aC a) ∧ 0 ≤ y ∧ y < aR a
  · obtain ⟨x', rfl⟩ : ∃ x' : Nat, (x' : Int) = x := ⟨x.toNat, by omega⟩
    obtain ⟨y', rfl⟩ : ∃ y' : Nat, (y' : Int) = y := ⟨y.toNat, by omega⟩
    have ht := top_b ha x' y'
    rw [if_neg (by omega), if_neg (by omega), M_ldS ha hs (x := x') (y := y') (by omega) (by omega) (by push_cast; rfl), ob_some]
    simp (disch := omega) only [iI_eq]
    by_cases e : top a x' y' = q
    · rw [if_pos e, bI_t (sn_iff.mpr ⟨hin, e⟩)]; rfl
    · rw [if_neg e, bI_f (fun g => e (sn_iff.mp g).2)]; rfl
  · rw [bI_f (fun g => hin (sn_iff.mp g).1)]
    repeat' split
    all_goals first | rfl | (exfalso; omega)
theorem M_isCut (h : MOK m a) (ha : AOK a) (hs : ShOK sh a (-109)) {p k : Nat} (hp : p < aN a) (hk : k < 4) : f_X8_isCut m sh (iI (p : Int)) (iI (k : Int)) = some (bI (¬ ctB a p k = true)) := by
  have hb := ha.b
  have hv := ha.p hp
  obtain ⟨G, hG⟩ : ∃ G : Nat → Nat → Bool, G = fun (j i : Nat) => decide (aP a p 5 ≤ dpt a p k i j) || sn a p (aP a p 0 + i) (aP a p 1 + j) := ⟨_, rfl⟩
  have inner : ∀ (j : Nat), j < (aP a p 3).toNat → ∀ b : Bool, ∃ z, x_loop (b_X8_isCut_27 m sh (iI (p : Int)) (iI (k : Int)) (iI (aP a p 5)) (iI (j : Int))) x_fuel ((if b = true then (1 : Int32) else 0), iI 0) = some ((if b = true ∨ ¬ ∀ i, i < (aP a p 2).toNat → G j i = true then (1 : Int32) else 0), z) := by
    intro j hj b
    have key := x_for (B := b_X8_isCut_27 m sh (iI (p : Int)) (iI (k : Int)) (iI (aP a p 5)) (iI (j : Int))) (fun i (c : Bool) => ((if c = true then (1 : Int32) else 0), iI (i : Int))) (fun i c => c = true ↔ (b = true ∨ ¬ ∀ i', i' < i → G j i' = true)) (aP a p 2).toNat (fun r => r.1 = if b = true ∨ ¬ ∀ i, i < (aP a p 2).toNat → G j i = true then (1 : Int32) else 0)
      (by
        intro i c hi hI
        left
        have hstep : ((c || !G j i) = true ↔ (b = true ∨ ¬ ∀ i', i' < i + 1 → G j i' = true)) := by
          have e1 : (∀ i', i' < i + 1 → G j i' = true) ↔ ((∀ i', i' < i → G j i' = true) ∧ G j i = true) := by
            constructor
            · intro q; exact ⟨fun i' hi' => q i' (by omega), q i (by omega)⟩
            · rintro ⟨q1, q2⟩ i' hi'
              by_cases e : i' = i
              · subst e; exact q2
              · exact q1 i' (by omega)
          rw [e1]
          simp only [Bool.or_eq_true, Bool.not_eq_true', hI]
          cases G j i with
          | true => simp
          | false => simp
        have hd : (if iI (k : Int) = 0 then some (iI (i : Int)) else if iI (k : Int) = iI 1 then some (iI (j : Int)) else if iI (k : Int) = iI 2 then (f_X8_of m (iI (p : Int)) (iI 2)).bind fun r12 => some ((r12 - iI 1) - iI (i : Int)) else (f_X8_of m (iI (p : Int)) (iI 3)).bind fun r14 => some ((r14 - iI 1) - iI (j : Int))) = some (iI (dpt a p k i j)) := by
          rw [M_of2 h (by omega) hp, M_of3 h (by omega) hp]
          simp (disch := omega) only [iL_0, iI_eq, ob_some, iI_sub]
          unfold dpt
          rcases (show k = 0 ∨ k = 1 ∨ k = 2 ∨ k = 3 by omega) with rfl | rfl | rfl | rfl <;> rfl
        have hdb : -100 ≤ dpt a p k i j ∧ dpt a p k i j ≤ 100 := by
          unfold dpt
          repeat' split
          all_goals omega
        refine ⟨c || !G j i, ?_, hstep⟩
        have g0 : f_X8_of m (iI (p : Int)) (0 : Int32) = some (iI (aP a p 0)) := M_of0 h (by omega) hp
        rw [b_X8_isCut_27, iL_1, iL_2, iL_3, hd, M_of2 h (by omega) hp, ob_some, g0, M_of1 h (by omega) hp]
        simp (disch := omega) only [ob_some, iI_le, iI_add]
        rw [M_isSeen h ha hs (by omega) (by omega) (by omega), if_neg (by omega), ob_some, hG]
        simp only [bI_0, bI_0']
        cases c with
        | true => rfl
        | false =>
          by_cases q1 : aP a p 5 ≤ dpt a p k i j
          · simp [q1]
          · by_cases q2 : sn a p (aP a p 0 + i) (aP a p 1 + j) = true
            · simp [q1, q2]
            · simp [q1, q2])
      (by
        intro c hI
        rw [b_X8_isCut_27]
        simp only [iL_2]
        rw [M_of2 h (by omega) hp]
        simp (disch := omega) only [ob_some, iI_le]
        rw [if_pos (by omega)]
        refine ⟨_, rfl, ?_⟩
        dsimp only
        by_cases e : c = true
        · rw [if_pos e, if_pos (hI.mp e)]
        · rw [if_neg e, if_neg (fun q => e (hI.mpr q))])
      b (by simp) (by omega)
    obtain ⟨r, e1, e2⟩ := key
    exact ⟨r.2, by rw [← e2]; exact e1⟩
  have key := x_for (B := b_X8_isCut_13 m sh (iI (p : Int)) (iI (k : Int)) (iI (aP a p 5))) (fun j (c : Bool) => ((if c = true then (1 : Int32) else 0), iI (j : Int))) (fun j c => c = true ↔ ¬ ∀ j', j' < j → ∀ i, i < (aP a p 2).toNat → G j' i = true) (aP a p 3).toNat (fun r => r.1 = bI (¬ ctB a p k = true))
    (by
      intro j c hj hI
      left
      obtain ⟨z, e1⟩ := inner j hj c
      refine ⟨decide (c = true ∨ ¬ ∀ i, i < (aP a p 2).toNat → G j i = true), ?_, ?_⟩
      · rw [b_X8_isCut_13]
        simp only [iL_1, iL_3]
        rw [M_of3 h (by omega) hp]
        simp (disch := omega) only [ob_some, iI_le]
        rw [if_neg (by omega)]
        have e1' : x_loop (b_X8_isCut_27 m sh (iI (p : Int)) (iI (k : Int)) (iI (aP a p 5)) (iI (j : Int))) x_fuel ((if c = true then iI 1 else 0), (0 : Int32)) = _ := e1
        rw [e1', ob_some]
        simp only [iI_add, decide_eq_true_eq]
        rfl
      · rw [decide_eq_true_eq, hI]
        constructor
        · rintro (q | q) g
          · exact q (fun j' hj' => g j' (by omega))
          · exact q (g j (by omega))
        · intro q
          by_cases g : ∀ i, i < (aP a p 2).toNat → G j i = true
          · refine Or.inl (fun q2 => q (fun j' hj' => ?_))
            by_cases e : j' = j
            · subst e; exact g
            · exact q2 j' (by omega)
          · exact Or.inr g)
    (by
      intro c hI
      rw [b_X8_isCut_13]
      simp only [iL_3]
      rw [M_of3 h (by omega) hp]
      simp (disch := omega) only [ob_some, iI_le]
      rw [if_pos (by omega)]
      refine ⟨_, rfl, ?_⟩
      dsimp only
      have e0 : ctB a p k = true ↔ ctP a p k := decide_eq_true_iff
      have e : (c = true ↔ ¬ ctB a p k = true) := by
        have e1 : (∀ j', j' < (aP a p 3).toNat → ∀ i, i < (aP a p 2).toNat → G j' i = true) ↔ ctP a p k := by
          rw [hG]
          simp only [Bool.or_eq_true, decide_eq_true_eq]
          constructor
          · intro q j hj i hi hd
            rcases q j hj i hi with q | q
            · omega
            · exact q
          · intro q j hj i hi
            by_cases hd : dpt a p k i j < aP a p 5
            · exact Or.inr (q j hj i hi hd)
            · exact Or.inl (by omega)
        rw [hI, e0, e1]
      by_cases g : c = true
      · rw [if_pos g, bI_t (e.mp g)]
      · rw [if_neg g, bI_f (fun q => g (e.mpr q))])
    false (by simp) (by omega)
  obtain ⟨r, e1, e2⟩ := key
  unfold f_X8_isCut
  rw [iL_5, M_of5 h (by omega) hp, ob_some]
  have e1' : x_loop (b_X8_isCut_13 m sh (iI (p : Int)) (iI (k : Int)) (iI (aP a p 5))) x_fuel ((0 : Int32), (0 : Int32)) = some r := e1
  rw [e1', ob_some]
  obtain ⟨r1, r2⟩ := r
  dsimp only at e2 ⊢
  rw [e2, bI_zr, ob_some]
theorem M_cuts (h : MOK m a) (ha : AOK a) (hs : ShOK sh a (-109)) {p : Nat} (hp : p < aN a) : f_X8_cuts m sh (iI (p : Int)) = some (cuts a p) := by
  have hb := ha.b
  obtain ⟨C, hC⟩ : ∃ C : Nat → Int32, C = fun n => Nat.rec (0 : Int32) (fun i c => c ||| ctI a p i) n := ⟨_, rfl⟩
  have key := x_for (B := b_X8_cuts_4 m sh (iI (p : Int))) (fun i (c : Int32) => (c, iI (i : Int))) (fun i c => c = C i) 4 (fun b => b.1 = C 4)
    (by
      intro i c hi hI
      left
      refine ⟨c ||| ctI a p i, ?_, by rw [hI, hC]⟩
      rw [b_X8_cuts_4, M_isCut h ha hs hp hi, ob_some]
      simp (disch := omega) only [iL_4, iI_le, x_nm_eq, bI_0, bI_0']
      rw [if_neg (by omega)]
      unfold ctI
      by_cases g : ctB a p i = true
      · rw [if_pos (fun q => q g), if_pos g, iI_suc]
      · rw [if_neg (fun q => q g), if_neg g, iI_suc, ← nI_iI i]
        have : ∀ k, k < 4 → (1 : Int32) <<< (nI k &&& 31) = nI (2 ^ k) := by decide +kernel
        rw [this i hi])
    (by
      intro c hI
      rw [b_X8_cuts_4]
      simp (disch := omega) only [iL_4, iI_le]
      rw [if_pos (by omega)]
      exact ⟨_, rfl, hI⟩) 0 (by rw [hC]; rfl) (by omega)
  obtain ⟨b, e1, e2⟩ := key
  unfold f_X8_cuts
  have e1' : x_loop (b_X8_cuts_4 m sh (iI (p : Int))) x_fuel ((0 : Int32), (0 : Int32)) = some b := e1
  rw [e1', ob_some]
  obtain ⟨b1, b2⟩ := b
  dsimp only at e2 ⊢
  rw [e2, hC]
  show some ((((0 ||| ctI a p 0) ||| ctI a p 1) ||| ctI a p 2) ||| ctI a p 3) = some (cuts a p)
  unfold cuts
  rw [Int32.zero_or]
theorem M_whole (h : MOK m a) (ha : AOK a) (hs : ShOK sh a (-109)) : f_X8_whole m sh = some (iI (whl a : Int)) := by
  have hb := ha.b
  have e1 := x_sum (B := b_X8_whole_4 m sh) (fun p => if 0 < aP a p 5 ∧ cuts a p = iI 0 then 1 else 0) (aN a) (by omega) 0
    (by
      intro i c hi
      have hv := ha.p hi
      rw [b_X8_whole_4, M_cuts h ha hs hi]
      simp only [iL_0, iL_1, iL_2, iL_5]
      rw [M_ld2 h, M_of5 h (by omega) hi]
      simp (disch := omega) only [iI_add, iI_le, ob_some, x_nm_eq]
      rw [if_neg (by omega)]
      by_cases g1 : 0 < aP a i 5
      · rw [if_neg (by omega)]
        by_cases g2 : cuts a i = iI 0
        · rw [if_pos g2, if_pos ⟨g1, g2⟩]; rfl
        · rw [if_neg g2, if_neg (fun q => g2 q.2)]; rfl
      · rw [if_pos (by omega), if_neg (fun q => g1 q.1)]; rfl)
    (by
      intro c
      rw [b_X8_whole_4]
      simp only [iL_2]
      rw [M_ld2 h]
      simp (disch := omega) only [iI_le, ob_some]
      rw [if_pos (by omega)])
  unfold f_X8_whole
  have e1' : x_loop (b_X8_whole_4 m sh) x_fuel ((0 : Int32), (0 : Int32)) = _ := e1
  rw [e1', ob_some, Nat.zero_add]
  rfl
theorem M_unseen (h : MOK m a) (ha : AOK a) (hs : SoOK so a) : f_X8_unseen m so = some (iI (unsn a : Int)) := by
  have hb := ha.b
  have e1 := x_sum (B := b_X8_unseen_4 m so) (fun p => if cnt a (p : Int) = 0 then 1 else 0) (aN a) (by omega) 0
    (by
      intro i c hi
      have hc := cnt_le ha i
      rw [b_X8_unseen_4, x_ldI rfl (by omega) (by omega), hs i (by omega)]
      simp only [iL_0, iL_1, iL_2]
      rw [M_ld2 h]
      simp (disch := omega) only [iI_add, iI_le, iI_eq, ob_some, x_nm_eq]
      rw [if_neg (by omega)]
      by_cases g : cnt a (i : Int) = 0
      · rw [if_pos (by omega), if_pos g]; rfl
      · rw [if_neg (by omega), if_neg g]; rfl)
    (by
      intro c
      rw [b_X8_unseen_4]
      simp only [iL_2]
      rw [M_ld2 h]
      simp (disch := omega) only [iI_le, ob_some]
      rw [if_pos (by omega)])
  unfold f_X8_unseen
  have e1' : x_loop (b_X8_unseen_4 m so) x_fuel ((0 : Int32), (0 : Int32)) = _ := e1
  rw [e1', ob_some, Nat.zero_add]
  rfl
/-- each cell shows one piece or the page -/
theorem top_sum {a : AL} (ha : AOK a) (x y : Int) : sumN (fun p => if top a x y = (p : Int) then 1 else 0) (aN a) + (if top a x y = -1 then 1 else 0) = 1 := by
  have h1 := top_ge a x y
  by_cases h : top a x y = -1
  · rw [if_pos h, sumN_none (fun p _ => if_neg (by omega))]
  · have h2 := top_lt ha (x := x) (y := y) (p := (top a x y).toNat) (by omega)
    rw [if_neg h, Nat.add_zero]
    refine (sumN_congr (fun p _ => ?_)).trans (sumN_one 1 h2)
    by_cases e : top a x y = (p : Int)
    · rw [if_pos e, if_pos (by omega)]
    · rw [if_neg e, if_neg (by omega)]
theorem cnt_all {a : AL} (ha : AOK a) : sumN (fun p => cnt a (p : Int)) (aN a) + cnt a (-1) = aC a * aR a := by
  unfold cnt
  rw [sumN_swap]
  rw [sumN_congr (fun y _ => sumN_swap (fun (p : Nat) (x : Nat) => if top a x y = (p : Int) then 1 else 0) (aN a) (aC a)), ← sumN_add]
  rw [sumN_congr (fun y _ => (sumN_add _ _ _).symm)]
  rw [sumN_congr (fun y _ => sumN_congr (fun x _ => top_sum ha x y))]
  have : ∀ n, sumN (fun _ => 1) n = n := fun n => by
    induction n with
    | zero => rfl
    | succ n ih => rw [sumN, ih]
  rw [sumN_congr (fun y _ => this (aC a))]
  have h2 : ∀ n k, sumN (fun _ => k) n = n * k := fun n k => by
    induction n with
    | zero => simp [sumN]
    | succ n ih => rw [sumN, ih, Nat.succ_mul]
  rw [h2, Nat.mul_comm]
theorem M_pageSeen (h : MOK m a) (ha : AOK a) (hs : SoOK so a) : f_X8_pageSeen m so = some (iI (cnt a (-1) : Int)) := by
  have hb := ha.b
  have key := x_for (B := b_X8_pageSeen_16 m so) (fun i (c : Int) => (iI c, iI (i : Int))) (fun i c => c = (aC a : Int) * aR a - sumN (fun p => cnt a (p : Int)) i) (aN a) (fun b => b.1 = iI (cnt a (-1) : Int))
    (by
      intro i c hi hI
      left
      refine ⟨c - cnt a i, ?_, by rw [sumN, hI]; omega⟩
      rw [b_X8_pageSeen_16, x_ldI rfl (by omega) (by omega), hs i (by omega)]
      simp only [iL_1, iL_2]
      rw [M_ld2 h]
      simp (disch := omega) only [iI_add, iI_sub, iI_le, ob_some, x_nm_eq]
      rw [if_neg (by omega)]
      rfl)
    (by
      intro c hI
      rw [b_X8_pageSeen_16]
      simp only [iL_2]
      rw [M_ld2 h]
      simp (disch := omega) only [iI_le, ob_some]
      rw [if_pos (by omega)]
      refine ⟨_, rfl, ?_⟩
      have := cnt_all ha
      have e : (aC a : Int) * aR a = ((aC a * aR a : Nat) : Int) := by push_cast; rfl
      dsimp only
      rw [hI, e, ← this]
      congr 1
      omega) ((aC a : Int) * aR a) (by rw [sumN]; omega) (by omega)
  obtain ⟨b, e1, e2⟩ := key
  unfold f_X8_pageSeen
  simp only [iL_0, iL_1]
  rw [M_ld0 h, M_ld1 h]
  simp only [ob_some, x_nm_eq, iI_mul]
  have e1' : x_loop (b_X8_pageSeen_16 m so) x_fuel (iI ((aC a : Int) * aR a), iI 0) = some b := e1
  rw [e1', ob_some]
  exact congrArg some e2
end MQ
