/-! Sight.look() -/
def SOK (ss : SiS) (a : AL) : Prop :=
  (∀ p line : Nat, p < aN a → (line : Int) < aP a p 3 → S_seen ss (12 * p + line) = msk (rowB a p (aP a p 1 + line))) ∧
  (∀ y : Nat, y < 24 → S_cov ss y = msk (fun i => inP a i y && decide (top a i y ≠ -1))) ∧
  ∀ p, p < aN a → S_cells ss p = iI (cnt a p : Int)
/-- covered by one of the k uppermost pieces -/
def cA (a : AL) (x y : Int) : Nat → Bool
  | 0 => false
  | k + 1 => cA a x y k || cov a (aO a (aN a - 1 - k)) x y
theorem cA_iff {a : AL} {x y : Int} {k : Nat} (hk : k ≤ aN a) : cA a x y k = true ↔ ∃ l, aN a - k ≤ l ∧ l < aN a ∧ cov a (aO a l) x y = true := by
  induction k with
  | zero =>
    constructor
    · intro h; cases h
    · rintro ⟨l, h1, h2, -⟩; omega
  | succ k ih =>
    rw [cA, Bool.or_eq_true, ih (by omega)]
    constructor
    · rintro (⟨l, h1, h2, h3⟩ | h)
      · exact ⟨l, by omega, h2, h3⟩
      · exact ⟨aN a - 1 - k, by omega, by omega, h⟩
    · rintro ⟨l, h1, h2, h3⟩
      by_cases e : l = aN a - 1 - k
      · subst e; exact Or.inr h3
      · exact Or.inl ⟨l, by omega, h2, h3⟩
theorem cA_top {a : AL} (ha : AOK a) {x y : Int} {k : Nat} (hk : k < aN a) : (cov a (aO a (aN a - 1 - k)) x y && !cA a x y k) = decide (top a x y = (aO a (aN a - 1 - k) : Int)) := by
  rw [Bool.eq_iff_iff]
  simp only [Bool.and_eq_true, Bool.not_eq_true', decide_eq_true_eq]
  constructor
  · rintro ⟨h1, h2⟩
    refine tW_top (l := aN a - 1 - k) (by omega) ⟨h1, by omega⟩ (fun l' h3 h4 h5 => ?_)
    have : cA a x y k = true := (cA_iff (by omega)).mpr ⟨l', by omega, h4, h5.1⟩
    rw [this] at h2; cases h2
  · intro h
    unfold top at h
    rcases tW_range a (-109) x y (aN a) with e | ⟨l, h1, h2, h3, h4, h5⟩
    · omega
    · have e : l = aN a - 1 - k := ha.inj h1 (by omega) (by omega)
      subst e
      refine ⟨h3, ?_⟩
      cases hc : cA a x y k with
      | false => rfl
      | true =>
        obtain ⟨l', g1, g2, g3⟩ := (cA_iff (by omega)).mp hc
        exact absurd ⟨g3, by omega⟩ (h5 l' (by omega) g2)
theorem cA_all {a : AL} {x y : Int} : cA a x y (aN a) = decide (top a x y ≠ -1) := by
  rw [Bool.eq_iff_iff, cA_iff (Nat.le_refl _)]
  simp only [decide_eq_true_eq]
  unfold top
  rcases tW_range a (-109) x y (aN a) with e | ⟨l, h1, h2, h3, h4, h5⟩
  · constructor
    · rintro ⟨l, -, h2, h3⟩ _
      have : ∀ L, l < L → tW a (-109) x y L ≠ -1 := by
        intro L
        induction L with
        | zero => intro h; omega
        | succ L ih =>
          intro h
          rw [tW]
          split
          · omega
          · rename_i hn
            by_cases e2 : l = L
            · subst e2; exact absurd ⟨h3, by omega⟩ hn
            · exact ih (by omega)
      exact this _ h2 e
    · intro h; exact absurd e h
  · exact ⟨fun _ => by omega, fun _ => ⟨l, by omega, h1, h3⟩⟩
theorem L_fill (n : Nat) (hn : n < 5000) (f : Nat → Int32) (v : Int32) : ∃ g, f_J7_fill_53178 n f v = some g ∧ ∀ k, k < n → g k = v := by
  have key := x_for (B := b_J7_fill_53178_5 v n) (fun i (g : Nat → Int32) => (iI (i : Int), g)) (fun i g => ∀ k, k < i → g k = v) n (fun b => ∃ z g, b = (z, g) ∧ ∀ k, k < n → g k = v)
    (by
      intro i g hi hI
      left
      refine ⟨upd g i v, ?_, fun k hk => ?_⟩
      · rw [b_J7_fill_53178_5]
        simp (disch := omega) only [iL_0, iL_1, iL_2, iL_3, iL_4, iL_5, iL_6, iL_7, iL_8, iL_9, iL_10, iL_11, iL_12, iL_15, iL_16, iL_20, iL_22, iL_24, iL_31, iL_32, iL_40, iL_45, iL_48, iL_57, iL_59, iL_60, iL_63, iL_72, iL_76, iL_88, iL_97, iL_100, iL_101, iL_102, iL_103, iL_109, iL_110, iL_112, iL_114, iL_120, iL_122, iL_144, iL_255, iL_352, iL_440, iL_576, iL_1000, nI_iI, iI_add, iI_sub, iI_mul, iI_neg, iI_le]
        rw [if_neg (by omega), x_stI rfl hi (by omega), ob_some]
        rfl
      · by_cases e : k = i
        · subst e; rw [upd_same]
        · rw [upd_ne _ _ e]; exact hI k (by omega))
    (by
      intro g hI
      rw [b_J7_fill_53178_5]
      simp (disch := omega) only [iL_0, iL_1, iL_2, iL_3, iL_4, iL_5, iL_6, iL_7, iL_8, iL_9, iL_10, iL_11, iL_12, iL_15, iL_16, iL_20, iL_22, iL_24, iL_31, iL_32, iL_40, iL_45, iL_48, iL_57, iL_59, iL_60, iL_63, iL_72, iL_76, iL_88, iL_97, iL_100, iL_101, iL_102, iL_103, iL_109, iL_110, iL_112, iL_114, iL_120, iL_122, iL_144, iL_255, iL_352, iL_440, iL_576, iL_1000, nI_iI, iI_add, iI_sub, iI_mul, iI_neg, iI_le]
      rw [if_pos (by omega)]
      exact ⟨_, rfl, _, g, rfl, hI⟩) f (fun k hk => by omega) hn
  obtain ⟨b, e1, z, g, rfl, hg⟩ := key
  refine ⟨g, ?_, hg⟩
  unfold f_J7_fill_53178
  have e1' : x_loop (b_J7_fill_53178_5 v n) x_fuel ((0 : Int32), f) = some (z, g) := e1
  rw [e1', ob_some]
/-- looking at one piece: C is what lies above it -/
theorem L_lookAt {s : LyS} {a : AL} (h : LOK s a) (ha : AOK a) {p : Nat} (hp : p < aN a) (ss : SiS) (C : Nat → Int → Bool) (hC : ∀ y : Nat, y < 24 → S_cov ss y = msk (fun i => inP a i y && C i y)) :
    ∃ ss', f_X5_lookAt ss s (iI (p : Int)) = some ss' ∧
      (∀ k : Nat, S_seen ss' k = if 12 * p ≤ k ∧ (k : Int) < 12 * p + aP a p 3 then msk (fun i => inP a i (aP a p 1 + (k - 12 * p : Nat)) && (cov a p i (aP a p 1 + (k - 12 * p : Nat)) && !C i (aP a p 1 + (k - 12 * p : Nat)))) else S_seen ss k) ∧
      (∀ y : Nat, y < 24 → S_cov ss' y = msk (fun i => inP a i y && (C i y || cov a p i y))) ∧
      (∀ q : Nat, q ≠ p → S_cells ss' q = S_cells ss q) ∧
      S_cells ss' p = iI (sumN (fun j => sumN (fun i => if (inP a i (aP a p 1 + j) && (cov a p i (aP a p 1 + j) && !C i (aP a p 1 + j))) = true then 1 else 0) 24) (aP a p 3).toNat : Int) := by
  have hb := ha.b
  have hv := ha.p hp
  obtain ⟨Y, hY⟩ : ∃ Y, Y = aP a p 1 := ⟨_, rfl⟩
  obtain ⟨hh, hhh⟩ : ∃ hh : Nat, (hh : Int) = aP a p 3 := ⟨(aP a p 3).toNat, by omega⟩
  obtain ⟨fr, hfr⟩ : ∃ fr : Int → Nat → Bool, fr = fun (y : Int) (i : Nat) => inP a i y && (cov a p i y && !C i y) := ⟨_, rfl⟩
  obtain ⟨sp, hsp⟩ : ∃ sp : Int32, sp = msk (fun i => decide (aP a p 0 ≤ (i : Int) ∧ (i : Int) < aP a p 0 + aP a p 2 ∧ i < aC a)) := ⟨_, rfl⟩
  have key := x_for (B := b_X5_lookAt_53 s (iI (p : Int)) sp (iI (aP a p 3)) (iI Y)) (fun i (t : Nat × (Nat → Int32) × (Nat → Int32)) => (iI (t.1 : Int), iI (i : Int), S_set_cov (S_set_seen ss t.2.1) t.2.2))
    (fun i t => t.1 = sumN (fun j => sumN (fun x => if fr (Y + j) x = true then 1 else 0) 24) i ∧ (∀ k : Nat, t.2.1 k = if 12 * p ≤ k ∧ k < 12 * p + i then msk (fr (Y + (k - 12 * p : Nat))) else S_seen ss k) ∧ ∀ y : Nat, y < 24 → t.2.2 y = msk (fun x => inP a x y && (C x y || (cov a p x y && decide ((y : Int) < Y + i)))))
    hh (fun b => ∃ z g g', b = (iI (sumN (fun j => sumN (fun x => if fr (Y + j) x = true then 1 else 0) 24) hh : Int), z, S_set_cov (S_set_seen ss g) g') ∧ (∀ k : Nat, g k = if 12 * p ≤ k ∧ k < 12 * p + hh then msk (fr (Y + (k - 12 * p : Nat))) else S_seen ss k) ∧ ∀ y : Nat, y < 24 → g' y = msk (fun x => inP a x y && (C x y || cov a p x y)))
    (by
      rintro i ⟨sm, g, g'⟩ hi ⟨h1, h2, h3⟩
      dsimp only at h1 h2 h3
      left
      -- the fresh cells of this row
      have hsm : sm ≤ 24 * 24 := by
        rw [h1]
        have : ∀ n : Nat, n ≤ 12 → sumN (fun j => sumN (fun x => if fr (Y + j) x = true then 1 else 0) 24) n ≤ n * 24 := fun n _ => sumN_le (fun j _ => by
          have := sumN_le (g := fun x => if fr (Y + j) x = true then 1 else 0) (n := 24) (m := 1) (fun x _ => by split <;> omega)
          omega)
        have := this i (by omega)
        omega
      have hsum1 : sumN (fun x => if fr (Y + i) x = true then 1 else 0) 24 ≤ 24 := by
        have := sumN_le (g := fun x => if fr (Y + i) x = true then 1 else 0) (n := 24) (m := 1) (fun x _ => by split <;> omega)
        omega
      -- what is there before
      obtain ⟨bef, hbef, hbef2⟩ : ∃ bef, f_X7_at 24 g' (iI (Y + i)) = some bef ∧ ((0 ≤ Y + i ∧ Y + i < 24) → bef = msk (fun x => inP a x (Y + i) && C x (Y + i))) := by
        by_cases hin : 0 ≤ Y + i ∧ Y + i < 24
        · obtain ⟨y, hy⟩ : ∃ y : Nat, (y : Int) = Y + i := ⟨(Y + i).toNat, by omega⟩
          refine ⟨g' y, F_at (by omega) (by omega) (by omega), fun _ => ?_⟩
          rw [h3 y (by omega), ← hy]
          refine msk_congr (fun x _ => ?_)
          have : ¬ ((y : Int) < y) := by omega
          simp
        · exact ⟨0, F_at_out (by omega) (by omega) (by omega), fun q => absurd q hin⟩
      have hfresh : (if ¬ (0 ≤ Y + i ∧ Y + i < (aR a : Int)) then some (iI 0) else some (sp &&& (bef ^^^ (-1)))) = some (msk (fr (Y + i))) := by
        by_cases hin : 0 ≤ Y + i ∧ Y + i < (aR a : Int)
        · rw [if_neg (by simpa using hin), hbef2 (by omega), hsp, msk_diff, hfr]
          congr 1
          refine msk_congr (fun x hx => ?_)
          dsimp only
          rw [Bool.eq_iff_iff]
          simp only [Bool.and_eq_true, Bool.not_eq_true', decide_eq_true_eq, cov_iff, inP_iff, Bool.and_eq_false_iff]
          constructor
          · rintro ⟨q1, q2⟩
            have q3 : inP a x (Y + i) = true := inP_iff.mpr (by omega)
            refine ⟨by omega, by omega, ?_⟩
            rcases q2 with q2 | q2
            · rw [q3] at q2; cases q2
            · exact q2
          · rintro ⟨q1, q2, q3⟩
            exact ⟨by omega, Or.inr q3⟩
        · rw [if_pos (by simpa using hin), hfr, msk_none (fun x _ => ?_)]
          · rfl
          · have : inP a x (Y + i) = false := by
              rw [← Bool.not_eq_true, inP_iff]; omega
            simp [this]
      obtain ⟨g2, hg2, hg2'⟩ : ∃ g2, f_X7_put 24 g' (iI (Y + i)) (bef ||| msk (fr (Y + i))) = some g2 ∧ ∀ y : Nat, y < 24 → g2 y = msk (fun x => inP a x y && (C x y || (cov a p x y && decide ((y : Int) < Y + (i + 1 : Nat))))) := by
        by_cases hin : 0 ≤ Y + i ∧ Y + i < 24
        · obtain ⟨y, hy⟩ : ∃ y : Nat, (y : Int) = Y + i := ⟨(Y + i).toNat, by omega⟩
          refine ⟨upd g' y (bef ||| msk (fr (Y + i))), F_put _ (by omega) (by omega) (by omega), fun y' hy' => ?_⟩
          by_cases e : y' = y
          · subst e
            rw [upd_same, hbef2 hin, msk_or, ← hy, hfr]
            refine msk_congr (fun x _ => ?_)
            have : ((y' : Int) < Y + (i + 1 : Nat)) := by omega
            simp only [this, decide_true, Bool.and_true]
            cases inP a x y' <;> cases C x y' <;> cases cov a p x y' <;> rfl
          · rw [upd_ne _ _ e, h3 y' hy']
            refine msk_congr (fun x _ => ?_)
            have : ((y' : Int) < Y + i) ↔ ((y' : Int) < Y + (i + 1 : Nat)) := by omega
            simp only [this]
        · refine ⟨g', F_put_out _ (by omega) (by omega) (by omega), fun y' hy' => ?_⟩
          rw [h3 y' hy']
          refine msk_congr (fun x _ => ?_)
          have : ((y' : Int) < Y + i) ↔ ((y' : Int) < Y + (i + 1 : Nat)) := by omega
          simp only [this]
      refine ⟨(sm + sumN (fun x => if fr (Y + i) x = true then 1 else 0) 24, upd g (12 * p + i) (msk (fr (Y + i))), g2), ?_, ?_, fun k => ?_, hg2'⟩
      · rw [b_X5_lookAt_53]
        dsimp only
        rw [gs_S_cov_cov, gs_S_seen_cov, gs_S_seen_seen]
        simp (disch := omega) only [iI_add, iI_le, x_nm_eq]
        rw [if_neg (by omega), hbef, ob_some, L_hasRow h (by omega) (by omega), ob_some]
        simp only [bI_0']
        rw [show (some (0 : Int32)) = some (iI 0) from rfl, hfresh, ob_some, iL_12, iI_mul, iI_add, F_put (j := 12 * p + i) _ (by omega) (by omega) (by omega), ob_some, hg2, ob_some, F_bitCount, ob_some, nI_iI, iI_add, iL_1, iI_add]
        rfl
      · show sm + _ = _
        rw [h1]
        rfl
      · show upd g (12 * p + i) (msk (fr (Y + i))) k = _
        by_cases e : k = 12 * p + i
        · subst e; rw [upd_same, if_pos (by omega), show 12 * p + i - 12 * p = i by omega]
        · rw [upd_ne _ _ e, h2 k]
          by_cases e2 : 12 * p ≤ k ∧ k < 12 * p + i
          · rw [if_pos e2, if_pos (by omega)]
          · rw [if_neg e2, if_neg (by omega)])
    (by
      rintro ⟨sm, g, g'⟩ ⟨h1, h2, h3⟩
      dsimp only at h1 h2 h3
      rw [b_X5_lookAt_53]
      simp (disch := omega) only [iI_le]
      rw [if_pos (by omega)]
      refine ⟨_, rfl, _, g, g', by rw [h1], h2, fun y hy => ?_⟩
      rw [h3 y hy]
      refine msk_congr (fun x _ => ?_)
      by_cases hcv : cov a p x y = true
      · have : (y : Int) < Y + hh := by have := (cov_iff.mp hcv).2; omega
        simp [this]
      · simp [hcv])
    (0, S_seen ss, S_cov ss) ⟨rfl, fun k => by rw [if_neg (by omega)], fun y hy => by
      show S_cov ss y = _
      rw [hC y hy]
      refine msk_congr (fun x _ => ?_)
      by_cases hcv : cov a p x y = true
      · have : ¬ ((y : Int) < Y) := by have := (cov_iff.mp hcv).2; omega
        simp [this]
      · simp [hcv]⟩ (by omega)
  obtain ⟨b, e1, z, g, g', rfl, hg, hg'⟩ := key
  refine ⟨S_set_cells (S_set_cov (S_set_seen ss g) g') (upd (S_cells ss) p (iI (sumN (fun j => sumN (fun x => if fr (Y + j) x = true then 1 else 0) 24) hh : Int))), ?_, fun k => ?_, hg', fun q hq => upd_ne _ _ hq, ?_⟩
  · unfold f_X5_lookAt
    rw [iL_1, iL_2, iL_3, iL_0, L_get0 h (by omega) hp, L_get1 h (by omega) hp, L_get2 h (by omega) hp, L_get3 h (by omega) hp]
    simp only [ob_some]
    rw [L_span h (by omega) (by omega) (by omega), ob_some, ← hsp, ← hY]
    have e1' : x_loop (b_X5_lookAt_53 s (iI (p : Int)) sp (iI (aP a p 3)) (iI Y)) x_fuel (iI 0, iI 0, ss) = _ := e1
    rw [e1', ob_some]
    dsimp only
    rw [gs_S_cells_cov, gs_S_cells_seen, F_put _ rfl (by omega) (by omega), ob_some]
  · show g k = _
    rw [hg k, ← hY, hfr]
    by_cases e : 12 * p ≤ k ∧ k < 12 * p + hh
    · rw [if_pos e, if_pos (by omega)]
    · rw [if_neg e, if_neg (by omega)]
  · show upd _ p _ p = _
    rw [upd_same, ← hY, hfr, ← hhh]
    rfl
/-- the seen cells of a piece, by its own rows -/
theorem cnt_rows {a : AL} (ha : AOK a) {p : Nat} (hp : p < aN a) : sumN (fun j : Nat => sumN (fun i => if rowB a p (aP a p 1 + j) i = true then 1 else 0) 24) (aP a p 3).toNat = cnt a p := by
  have hv := ha.p hp
  obtain ⟨hh, hhh⟩ : ∃ hh : Nat, (hh : Int) = aP a p 3 := ⟨(aP a p 3).toNat, by omega⟩
  have e0 : (aP a p 3).toNat = hh := by omega
  obtain ⟨G, hG⟩ : ∃ G : Int → Nat, G = fun y => sumN (fun x : Nat => if top a x y = p then 1 else 0) (aC a) := ⟨_, rfl⟩
  have e1 : cnt a p = sumN (fun y : Nat => if aP a p 1 ≤ (y : Int) ∧ (y : Int) < aP a p 1 + hh then G y else 0) (aR a) := by
    unfold cnt
    refine sumN_congr (fun y _ => ?_)
    by_cases h : aP a p 1 ≤ (y : Int) ∧ (y : Int) < aP a p 1 + hh
    · rw [if_pos h, hG]
    · rw [if_neg h]
      refine sumN_none (fun x _ => if_neg (fun q => ?_))
      have := (cov_iff.mp (top_cov q)).2
      omega
  rw [e1, sumN_shift, e0]
  refine sumN_congr (fun j hj => ?_)
  by_cases h : 0 ≤ aP a p 1 + j ∧ aP a p 1 + j < aR a
  · rw [if_pos h]
    obtain ⟨y, hy⟩ : ∃ y : Nat, (y : Int) = aP a p 1 + j := ⟨(aP a p 1 + j).toNat, by omega⟩
    rw [← hy, hG]
    exact rowB_sum ha p (by omega)
  · rw [if_neg h]
    exact sumN_none (fun i _ => if_neg (by rw [rowB_out (by omega)]; simp))
theorem L_look {s : LyS} {a : AL} (h : LOK s a) (ha : AOK a) (ss : SiS) : ∃ ss', f_X5_look ss s = some ss' ∧ SOK ss' a := by
  have hb := ha.b
  obtain ⟨g0, hg0, hg0'⟩ := L_fill 24 (by omega) (S_cov ss) 0
  have key := x_for (B := b_X5_look_18 s) (fun i (t : SiS) => (iI ((aN a : Int) - 1 - i), t))
    (fun k t => (∀ l, aN a - k ≤ l → l < aN a → ∀ line : Nat, (line : Int) < aP a (aO a l) 3 → S_seen t (12 * aO a l + line) = msk (rowB a (aO a l) (aP a (aO a l) 1 + line))) ∧ (∀ y : Nat, y < 24 → S_cov t y = msk (fun i => inP a i y && cA a i y k)) ∧ ∀ l, aN a - k ≤ l → l < aN a → S_cells t (aO a l) = iI (cnt a (aO a l) : Int))
    (aN a) (fun b => ∃ z t, b = (z, t) ∧ SOK t a)
    (by
      intro k t hk ⟨h1, h2, h3⟩
      left
      have hl : aN a - 1 - k < aN a := by omega
      have ho := ha.o hl
      have hvo := ha.p ho
      obtain ⟨t', e1, g1, g2, g3, g4⟩ := L_lookAt h ha ho t (fun i y => cA a i y k) h2
      have hrow : ∀ (y : Int), (fun i : Nat => inP a i y && (cov a (aO a (aN a - 1 - k)) i y && !cA a i y k)) = rowB a (aO a (aN a - 1 - k)) y := fun y => by
        funext i
        unfold rowB
        rw [cA_top ha hk]
      refine ⟨t', ?_, fun l hl1 hl2 line hline => ?_, fun y hy => ?_, fun l hl1 hl2 => ?_⟩
      · rw [b_X5_look_18]
        simp (disch := omega) only [iL_0, iL_1, iL_2, iL_3, iL_4, iL_5, iL_6, iL_7, iL_8, iL_9, iL_10, iL_11, iL_12, iL_15, iL_16, iL_20, iL_22, iL_24, iL_31, iL_32, iL_40, iL_45, iL_48, iL_57, iL_59, iL_60, iL_63, iL_72, iL_76, iL_88, iL_97, iL_100, iL_101, iL_102, iL_103, iL_109, iL_110, iL_112, iL_114, iL_120, iL_122, iL_144, iL_255, iL_352, iL_440, iL_576, iL_1000, nI_iI, iI_add, iI_sub, iI_mul, iI_neg, iI_lt]
        rw [if_neg (by omega), show (aN a : Int) - 1 - k = ((aN a - 1 - k : Nat) : Int) by omega, L_pieceIn h (by omega) hl, ob_some, e1, ob_some]
        congr 3 <;> (congr 1; omega)
      · have hvl := ha.p (ha.o hl2)
        rw [g1]
        by_cases e : l = aN a - 1 - k
        · subst e
          rw [if_pos (by omega), show 12 * aO a (aN a - 1 - k) + line - 12 * aO a (aN a - 1 - k) = line by omega, hrow]
        · have hne : aO a l ≠ aO a (aN a - 1 - k) := fun q => e (ha.inj hl2 hl q)
          rw [if_neg (by omega)]
          exact h1 l (by omega) hl2 line hline
      · rw [g2 y hy]
        rfl
      · by_cases e : l = aN a - 1 - k
        · subst e
          rw [g4, ← cnt_rows ha ho]
          congr 2
          refine sumN_congr (fun j _ => sumN_congr (fun i _ => ?_))
          rw [show (inP a i (aP a (aO a (aN a - 1 - k)) 1 + j) && (cov a (aO a (aN a - 1 - k)) i (aP a (aO a (aN a - 1 - k)) 1 + j) && !cA a i (aP a (aO a (aN a - 1 - k)) 1 + j) k)) = rowB a (aO a (aN a - 1 - k)) (aP a (aO a (aN a - 1 - k)) 1 + j) i from congrFun (hrow _) i]
        · have hne : aO a l ≠ aO a (aN a - 1 - k) := fun q => e (ha.inj hl2 hl q)
          rw [g3 _ hne]
          exact h3 l (by omega) hl2)
    (by
      intro t ⟨h1, h2, h3⟩
      rw [b_X5_look_18]
      simp (disch := omega) only [iL_0, iL_1, iL_2, iL_3, iL_4, iL_5, iL_6, iL_7, iL_8, iL_9, iL_10, iL_11, iL_12, iL_15, iL_16, iL_20, iL_22, iL_24, iL_31, iL_32, iL_40, iL_45, iL_48, iL_57, iL_59, iL_60, iL_63, iL_72, iL_76, iL_88, iL_97, iL_100, iL_101, iL_102, iL_103, iL_109, iL_110, iL_112, iL_114, iL_120, iL_122, iL_144, iL_255, iL_352, iL_440, iL_576, iL_1000, nI_iI, iI_add, iI_sub, iI_mul, iI_neg, iI_lt]
      rw [if_pos (by omega)]
      refine ⟨_, rfl, _, t, rfl, fun p line hp hline => ?_, fun y hy => ?_, fun p hp => ?_⟩
      · obtain ⟨l, hl, rfl⟩ := ha.sur hp
        exact h1 l (by omega) hl line hline
      · rw [h2 y hy]
        refine msk_congr (fun i _ => ?_)
        rw [cA_all]
      · obtain ⟨l, hl, rfl⟩ := ha.sur hp
        exact h3 l (by omega) hl)
    (S_set_cov ss g0) ⟨fun l h1 h2 => by omega, fun y hy => by
      show g0 y = _
      rw [hg0' y hy]
      exact (msk_none (fun i _ => by simp [cA])).symm, fun l h1 h2 => by omega⟩ (by omega)
  obtain ⟨b, e1, z, t, rfl, ht⟩ := key
  refine ⟨t, ?_, ht⟩
  unfold f_X5_look f_X1_pieces
  rw [hg0, ob_some, ob_some, x_nm_eq, h.n]
  have e0 : iI ((aN a : Int) - 1 - (0 : Nat)) = iI (aN a : Int) - (1 : Int32) := by
    rw [iL_1, iI_sub]; congr 1; omega
  rw [← e0, e1, ob_some]
