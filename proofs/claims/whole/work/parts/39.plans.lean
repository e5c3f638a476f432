/-! arrange on both sides -/
def ist (a : AL) : Prop := (bst a (aN a)).1 = -109
def itr (a : AL) : Nat → AL
  | 0 => a
  | n + 1 => nx (itr a n)
def tc (c0 : Int32) (a : AL) : Nat → Int32
  | 0 => c0
  | n + 1 => tc c0 a n + iI ((bst (itr a n) (aN (itr a n))).2.1 : Int)
theorem S_arr {s : LyS} {a : AL} (hl : LOK s a) (ha : AOK a) (ss : SiS) (pl : PlS) (tr : LyS) (ps : SiS) : ∃ n s' ss' pl' tr' ps', x_loop b_X7_arrange_40 x_fuel ((0 : Int32), s, ss, pl, tr, ps) = some (iI ((n : Nat) : Int), s', ss', pl', tr', ps') ∧ n ≤ 12 ∧ (n = 12 ∨ ist (itr a n)) ∧ (∀ j, j < n → ¬ ist (itr a j)) ∧ AOK (itr a n) ∧ LOK s' (itr a n) ∧ L_cost s' = tc (L_cost s) a n := by
  have key := x_for (B := b_X7_arrange_40) (fun i (u : LyS × SiS × PlS × LyS × SiS) => (iI (i : Int), u.1, u.2.1, u.2.2.1, u.2.2.2.1, u.2.2.2.2)) (fun i u => AOK (itr a i) ∧ LOK u.1 (itr a i) ∧ L_cost u.1 = tc (L_cost s) a i ∧ ∀ j, j < i → ¬ ist (itr a j)) 12
    (fun r => ∃ (n : Nat) (s' : LyS) (ss' : SiS) (pl' : PlS) (tr' : LyS) (ps' : SiS), r = (iI (n : Int), s', ss', pl', tr', ps') ∧ n ≤ 12 ∧ (n = 12 ∨ ist (itr a n)) ∧ (∀ j, j < n → ¬ ist (itr a j)) ∧ AOK (itr a n) ∧ LOK s' (itr a n) ∧ L_cost s' = tc (L_cost s) a n)
    (by
      rintro i ⟨s1, ss, pl, tr, ps⟩ hi ⟨h1, h2, h3, h4⟩
      dsimp only at h2 h3
      obtain ⟨v, s', ss', pl', tr', ps', f1, c⟩ := S_round h2 h1 ss pl tr ps
      rw [b_X7_arrange_40, f1, ob_some]
      simp (disch := omega) only [iL_12, iI_le]
      rw [if_neg (by omega)]
      rcases c with ⟨rfl, rfl, c⟩ | ⟨rfl, c, g1, g2, g3⟩
      · right
        rw [if_pos rfl]
        exact ⟨_, rfl, i, _, _, _, _, _, rfl, by omega, Or.inr c, h4, h1, h2, h3⟩
      · left
        rw [if_neg (show ¬ (1 : Int32) = 0 by decide), iI_suc]
        refine ⟨(s', ss', pl', tr', ps'), rfl, g1, g2, by rw [g3, h3]; rfl, fun j hj => ?_⟩
        by_cases e : j = i
        · subst e; exact c
        · exact h4 j (by omega))
    (by
      rintro ⟨s1, ss, pl, tr, ps⟩ ⟨h1, h2, h3, h4⟩
      rw [b_X7_arrange_40]
      simp (disch := omega) only [iL_12, iI_le]
      rw [if_pos (by omega)]
      exact ⟨_, rfl, 12, _, _, _, _, _, rfl, by omega, Or.inl rfl, h4, h1, h2, h3⟩)
    (s, ss, pl, tr, ps) ⟨ha, hl, rfl, fun j hj => by omega⟩ (by omega)
  obtain ⟨r, e1, n, s', ss', pl', tr', ps', rfl, h⟩ := key
  exact ⟨n, s', ss', pl', tr', ps', e1, h⟩
theorem M_arr {m : Nat → Int32} {a : AL} (hm : MOK m a) (ha : AOK a) (sh so : Nat → Int32) (lx ly : Int32) : ∃ (n : Nat) (z : Int32) (m' sh' so' : Nat → Int32) (lx' ly' : Int32), x_loop b_X8_arrange_34 x_fuel ((0 : Int32), (1 : Int32), m, sh, so, lx, ly) = some (iI (n : Int), z, m', sh', so', lx', ly') ∧ n ≤ 12 ∧ (n = 12 ∨ ist (itr a n)) ∧ (∀ j, j < n → ¬ ist (itr a j)) ∧ AOK (itr a n) ∧ MOK m' (itr a n) ∧ m' 3 = tc (m 3) a n := by
  have key := x_for (B := b_X8_arrange_34) (fun _ (u : Nat × Bool × (Nat → Int32) × (Nat → Int32) × (Nat → Int32) × Int32 × Int32) => (iI (u.1 : Int), bnI u.2.1, u.2.2.1, u.2.2.2.1, u.2.2.2.2.1, u.2.2.2.2.2.1, u.2.2.2.2.2.2))
    (fun i u => (u.2.1 = true → u.1 = i) ∧ u.1 ≤ 12 ∧ (u.2.1 = false → ist (itr a u.1)) ∧ (∀ j, j < u.1 → ¬ ist (itr a j)) ∧ AOK (itr a u.1) ∧ MOK u.2.2.1 (itr a u.1) ∧ u.2.2.1 3 = tc (m 3) a u.1) 13
    (fun r => ∃ (n : Nat) (z : Int32) (m' sh' so' : Nat → Int32) (lx' ly' : Int32), r = (iI (n : Int), z, m', sh', so', lx', ly') ∧ n ≤ 12 ∧ (n = 12 ∨ ist (itr a n)) ∧ (∀ j, j < n → ¬ ist (itr a j)) ∧ AOK (itr a n) ∧ MOK m' (itr a n) ∧ m' 3 = tc (m 3) a n)
    (by
      rintro i ⟨n, fl, m1, sh, so, lx, ly⟩ hi ⟨h0, h1, h2, h3, h4, h5, h6⟩
      dsimp only at h0 h1 h2 h3 h4 h5 h6
      cases fl with
      | false =>
        right
        refine ⟨(iI (n : Int), bnI false, m1, sh, so, lx, ly), ?_, n, _, _, _, _, _, _, rfl, h1, Or.inr (h2 rfl), h3, h4, h5, h6⟩
        rw [b_X8_arrange_34, if_pos (show bnI false = 0 from rfl)]
      | true =>
        have hn := h0 rfl
        have b1 : ¬ bnI true = 0 := by decide
        by_cases c12 : n = 12
        · right
          refine ⟨(iI (n : Int), bnI true, m1, sh, so, lx, ly), ?_, n, _, _, _, _, _, _, rfl, h1, Or.inl c12, h3, h4, h5, h6⟩
          rw [b_X8_arrange_34, if_neg b1]
          simp (disch := omega) only [iL_12, iI_le]
          rw [if_pos (by omega)]
        · left
          obtain ⟨v, m2, sh2, so2, lx2, ly2, f1, c⟩ := M_round h5 h4 sh so lx ly
          rcases c with ⟨rfl, rfl, c⟩ | ⟨rfl, c, g1, g2, g3⟩
          · obtain ⟨sh3, so3, f2, k1, k2⟩ := M_paint h5 h4 sh2 so2
            refine ⟨(n, false, m2, sh3, so3, lx2, ly2), ?_, fun q => (by cases q), h1, fun _ => c, h3, h4, h5, h6⟩
            rw [b_X8_arrange_34, if_neg b1, f1, ob_some]
            dsimp only
            rw [if_pos rfl, ob_some, x_nm_eq, f2, ob_some]
            dsimp only
            simp (disch := omega) only [iL_12, iI_le]
            rw [if_neg (by omega), if_pos trivial, iL_0, iI_add, show (n : Int) + 0 = (n : Int) by omega]
            rfl
          · obtain ⟨sh3, so3, f2, k1, k2⟩ := M_paint g2 g1 sh2 so2
            have f3 := M_contents' g2 g1 k2
            have hcl := cons_le (nx (itr a n))
            have hbb := g1.b
            have nst : ∀ j, j < n + 1 → ¬ ist (itr a j) := fun j hj => by
              by_cases e : j = n
              · subst e; exact c
              · exact h3 j (by omega)
            have cst : m2 3 = tc (m 3) a (n + 1) := by rw [g3, h6]; rfl
            have hB : b_X8_arrange_34 (iI (n : Int), bnI true, m1, sh, so, lx, ly) = if aN (nx (itr a n)) ≤ cons (nx (itr a n)) then some (.inl (iI ((n + 1 : Nat) : Int), (0 : Int32), m2, sh3, so3, lx2, ly2)) else some (.inl (iI ((n + 1 : Nat) : Int), (1 : Int32), m2, sh3, so3, lx2, ly2)) := by
              rw [b_X8_arrange_34, if_neg b1, f1, ob_some]
              dsimp only
              rw [if_neg (show ¬ (1 : Int32) = 0 by decide), ob_some, x_nm_eq, f2, ob_some]
              dsimp only
              rw [if_neg (show ¬ (1 : Int32) = 0 by decide), show f_X8_contents m2 so3 (-109 : Int32) = _ from f3, ob_some, show x_ld 88 m2 (2 : Int32) = _ from M_ld2 g2, ob_some, iI_suc]
              simp (disch := omega) only [iL_12, iI_le]
              rw [if_neg (by omega)]
              by_cases d : aN (nx (itr a n)) ≤ cons (nx (itr a n))
              · rw [if_pos d, if_pos (by omega)]
              · rw [if_neg d, if_neg (by omega)]
            dsimp only
            rw [hB]
            by_cases d : aN (nx (itr a n)) ≤ cons (nx (itr a n))
            · rw [if_pos d]
              exact ⟨(n + 1, false, m2, sh3, so3, lx2, ly2), rfl, fun q => (by cases q), by show n + 1 ≤ 12; omega, fun _ => bst_all (by show cons (nx (itr a n)) = aN (nx (itr a n)); omega), nst, g1, g2, cst⟩
            · rw [if_neg d]
              exact ⟨(n + 1, true, m2, sh3, so3, lx2, ly2), rfl, fun _ => by show n + 1 = i + 1; omega, by show n + 1 ≤ 12; omega, fun q => (by cases q), nst, g1, g2, cst⟩)
    (by
      rintro ⟨n, fl, m1, sh, so, lx, ly⟩ ⟨h0, h1, h2, h3, h4, h5, h6⟩
      dsimp only at h0 h1 h2 h3 h4 h5 h6
      cases fl with
      | false =>
        refine ⟨(iI (n : Int), bnI false, m1, sh, so, lx, ly), ?_, n, _, _, _, _, _, _, rfl, h1, Or.inr (h2 rfl), h3, h4, h5, h6⟩
        rw [b_X8_arrange_34, if_pos (show bnI false = 0 from rfl)]
      | true =>
        have := h0 rfl
        omega)
    (0, true, m, sh, so, lx, ly) ⟨fun _ => rfl, by show 0 ≤ 12; omega, fun q => (by cases q), fun j hj => (by have hj : j < 0 := hj; omega), ha, hm, rfl⟩ (by omega)
  obtain ⟨r, e1, n, z, m', sh', so', lx', ly', rfl, h⟩ := key
  exact ⟨n, z, m', sh', so', lx', ly', e1, h⟩
theorem q_arrange {s : LyS} {m : Nat → Int32} {t : HT} {st : Nat → Int32} {cnt : Int32} (h : LM s m) (hH : HR t st cnt) (ss : SiS) (pl : PlS) (tr : LyS) (ps : SiS) (sh so : Nat → Int32) (lx ly : Int32) : ∃ v s' ss' pl' tr' ps' t' m' st' cnt' sh' so' lx' ly', f_X7_arrange s ss pl tr ps t.1 t.2.1 t.2.2.1 t.2.2.2.1 t.2.2.2.2.1 t.2.2.2.2.2 = some (v, s', ss', pl', tr', ps', t') ∧ f_X8_arrange m st cnt sh so lx ly = some (v, m', st', cnt', sh', so', lx', ly') ∧ LM s' m' ∧ HR t' st' cnt' := by
  have h' := h
  obtain ⟨a, ha, hl, hm, hc⟩ := h
  have hb := ha.b
  have hcl := cons_le a
  obtain ⟨⟨t0, t1, t2, t3, t4, t5⟩, st', cnt', e1, e2, hR⟩ := HR_record hH h'
  obtain ⟨sh1, so1, f1, k1, k2⟩ := M_paint hm ha sh so
  obtain ⟨ss1, f2, k3⟩ := L_look hl ha ss
  unfold f_X7_arrange f_X8_arrange f_X1_pieces
  rw [f2, ob_some ss1, S_contentPieces hl ha k3, ob_some (iI (cons a : Int)), ob_some (L_n s), hl.n, f1, ob_some (sh1, so1)]
  dsimp only
  rw [show f_X8_contents m so1 (-109 : Int32) = _ from M_contents' hm ha k2, ob_some (iI (cons a : Int)), show x_ld 88 m (2 : Int32) = _ from M_ld2 hm, ob_some (iI (aN a : Int))]
  by_cases c : iI (cons a : Int) = iI (aN a : Int)
  · rw [if_pos c, if_pos c]
    exact ⟨_, _, _, _, _, _, t, _, _, _, _, _, _, _, rfl, rfl, h', hH⟩
  · obtain ⟨n, s', ss', pl', tr', ps', g1, g2, g3, g4, g5, g6, g7⟩ := S_arr hl ha ss1 pl tr ps
    obtain ⟨n', z, m', sh', so', lx', ly', r1, r2, r3, r4, r5, r6, r7⟩ := M_arr hm ha sh1 so1 lx ly
    have en : n = n' := by
      rcases Nat.lt_trichotomy n n' with q | q | q
      · rcases g3 with g3 | g3
        · omega
        · exact absurd g3 (r4 n q)
      · exact q
      · rcases r3 with r3 | r3
        · omega
        · exact absurd r3 (g4 n' q)
    subst en
    rw [if_neg c, if_neg c, e1, e2, ob_some (t0, t1, t2, t3, t4, t5), ob_some (st', cnt')]
    dsimp only
    rw [g1, r1, ob_some (iI (n : Int), s', ss', pl', tr', ps'), ob_some (iI (n : Int), z, m', sh', so', lx', ly')]
    exact ⟨_, _, _, _, _, _, (t0, t1, t2, t3, t4, t5), _, _, _, _, _, _, _, rfl, rfl, ⟨_, g5, g6, r6, g7.trans ((congrArg (fun c0 => tc c0 a n) hc).trans r7.symm)⟩, hR⟩
