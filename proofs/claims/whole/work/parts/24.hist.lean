/-! one state on both sides; the histories -/
def LM (s : LyS) (m : Nat → Int32) : Prop := ∃ a, AOK a ∧ LOK s a ∧ MOK m a ∧ L_cost s = m 3
theorem LM.eqM {s : LyS} {m m' : Nat → Int32} (h : LM s m) (e : ∀ k, k < 88 → m' k = m k) : LM s m' := by
  obtain ⟨a, h1, h2, h3, h4⟩ := h
  exact ⟨a, h1, h2, h3.eq (by have := h1.b; omega) e, h4.trans (e 3 (by omega)).symm⟩
theorem LM.eqL {s s' : LyS} {m : Nat → Int32} (h : LM s m) (e : LEq s' s) : LM s' m := by
  obtain ⟨a, h1, h2, h3, h4⟩ := h
  exact ⟨a, h1, e.ok (by have := h1.b; omega) h2, h3, e.2.2.2.1.trans h4⟩
abbrev HT : Type := HiS × LyS × LyS × LyS × LyS × LyS
def hat (t : HT) (k : Nat) : LyS := if k = 0 then t.2.1 else if k = 1 then t.2.2.1 else if k = 2 then t.2.2.2.1 else if k = 3 then t.2.2.2.2.1 else t.2.2.2.2.2
def HR (t : HT) (st : Nat → Int32) (cnt : Int32) : Prop := ∃ f k : Nat, f < 5 ∧ k ≤ 5 ∧ Hi_first t.1 = iI (f : Int) ∧ Hi_size t.1 = iI (k : Int) ∧ cnt = iI (k : Int) ∧ ∀ j, j < k → LM (hat t ((f + j) % 5)) (fun i => st (88 * j + i))
theorem M_record (m st : Nat → Int32) {k : Nat} (hk : k ≤ 5) : ∃ st' k', f_X8_record_m m st (iI (k : Int)) = some (st', iI ((k' + 1 : Nat) : Int)) ∧ k' = (if k = 5 then 4 else k) ∧ (∀ i, i < 88 → st' (88 * k' + i) = m i) ∧ ∀ i, i < 88 * k' → st' i = if k = 5 then st (i + 88) else st i := by
  have fin : ∀ (g0 : Nat → Int32) (k' : Nat), k' ≤ 4 → ∃ z st', x_loop (b_X8_record_m_50 m (iI (k' : Int))) x_fuel ((0 : Int32), g0) = some (z, st') ∧ (∀ i, i < 88 → st' (88 * k' + i) = m i) ∧ ∀ i, i < 88 * k' → st' i = g0 i := by
    intro g0 k' hk'
    have key := x_for (B := b_X8_record_m_50 m (iI (k' : Int))) (fun i (g : Nat → Int32) => (iI (i : Int), g)) (fun i g => (∀ j, j < i → g (88 * k' + j) = m j) ∧ ∀ j, j < 88 * k' → g j = g0 j) 88 (fun r => ∃ z g, r = (z, g) ∧ (∀ j, j < 88 → g (88 * k' + j) = m j) ∧ ∀ j, j < 88 * k' → g j = g0 j)
      (by
        rintro i g hi ⟨h1, h2⟩
        left
        refine ⟨upd g (88 * k' + i) (m i), ?_, fun j hj => ?_, fun j hj => by rw [upd_ne _ _ (by omega)]; exact h2 j hj⟩
        · rw [b_X8_record_m_50, x_ldI (j := i) rfl hi (by omega), ob_some, iL_88, iI_mul, iI_add, x_stI (j := 88 * k' + i) (by omega) (by omega) (by omega), ob_some]
          simp (disch := omega) only [iI_le]
          rw [if_neg (by omega), iI_suc]
        · by_cases c : j = i
          · subst c; rw [upd_same]
          · rw [upd_ne _ _ (by omega)]; exact h1 j (by omega))
      (by
        rintro g ⟨h1, h2⟩
        rw [b_X8_record_m_50]
        simp (disch := omega) only [iL_88, iI_le]
        rw [if_pos (by omega)]
        exact ⟨_, rfl, _, g, rfl, h1, h2⟩) g0 ⟨fun j hj => by omega, fun _ _ => rfl⟩ (by omega)
    obtain ⟨r, e, z, g, rfl, h1, h2⟩ := key
    exact ⟨z, g, e, h1, h2⟩
  by_cases c : k = 5
  · subst c
    have key := x_for (B := b_X8_record_m_10) (fun i (g : Nat → Int32) => (iI (i : Int), g)) (fun i g => ∀ j, g j = if j < i then st (j + 88) else st j) 352 (fun r => ∃ z g, r = (z, g) ∧ ∀ j, j < 352 → g j = st (j + 88))
      (by
        intro i g hi hI
        left
        have gi : g (i + 88) = st (i + 88) := by rw [hI, if_neg (by omega)]
        refine ⟨upd g i (st (i + 88)), ?_, fun j => ?_⟩
        · rw [b_X8_record_m_10, iL_88, iI_add, x_ldI (j := i + 88) (by omega) (by omega) (by omega), ob_some, gi, x_stI (j := i) rfl (by omega) (by omega), ob_some]
          simp (disch := omega) only [iL_352, iI_le]
          rw [if_neg (by omega), iI_suc]
        · by_cases c : j = i
          · subst c; rw [upd_same, if_pos (by omega)]
          · rw [upd_ne _ _ c, hI j]
            by_cases c2 : j < i
            · rw [if_pos c2, if_pos (by omega)]
            · rw [if_neg c2, if_neg (by omega)])
      (by
        intro g hI
        rw [b_X8_record_m_10]
        simp (disch := omega) only [iL_352, iI_le]
        rw [if_pos (by omega)]
        exact ⟨_, rfl, _, g, rfl, fun j hj => by rw [hI j, if_pos hj]⟩) st (fun j => by rw [if_neg (by omega)]) (by omega)
    obtain ⟨r, e1, z, g, rfl, hg⟩ := key
    obtain ⟨z2, st', e2, h1, h2⟩ := fin g 4 (by omega)
    refine ⟨st', 4, ?_, rfl, h1, fun i hi => ?_⟩
    · unfold f_X8_record_m
      rw [iL_5, if_pos (show iI ((5 : Nat) : Int) = iI 5 from rfl)]
      have e1' : x_loop b_X8_record_m_10 x_fuel ((0 : Int32), st) = some (z, g) := e1
      rw [e1', ob_some]
      dsimp only
      rw [x_nm_eq, ob_some]
      dsimp only
      rw [iL_1, iI_sub]
      have e2' : x_loop (b_X8_record_m_50 m (iI (((5 : Nat) : Int) - 1))) x_fuel ((0 : Int32), g) = some (z2, st') := e2
      rw [e2', ob_some]
      dsimp only
      rw [x_nm_eq, iI_add]
      rfl
    · rw [h2 i hi, if_pos rfl]
      exact hg i (by omega)
  · obtain ⟨z2, st', e2, h1, h2⟩ := fin st k (by omega)
    refine ⟨st', k, ?_, (if_neg c).symm, h1, fun i hi => by rw [if_neg c]; exact h2 i hi⟩
    unfold f_X8_record_m
    have c' : ¬ iI (k : Int) = (5 : Int32) := by
      rw [iL_5, iI_eq (by omega) (by omega) (by omega) (by omega)]
      omega
    rw [if_neg c', ob_some]
    dsimp only
    rw [e2, ob_some]
    dsimp only
    rw [x_nm_eq, iI_suc]
theorem HR_record {t : HT} {st : Nat → Int32} {cnt : Int32} (h : HR t st cnt) {s : LyS} {m : Nat → Int32} (hs : LM s m) :
    ∃ t' st' cnt', f_X0_record t.1 t.2.1 t.2.2.1 t.2.2.2.1 t.2.2.2.2.1 t.2.2.2.2.2 s = some t' ∧ f_X8_record_m m st cnt = some (st', cnt') ∧ HR t' st' cnt' := by
  obtain ⟨f, k, hf, hk, h1, h2, rfl, h3⟩ := h
  obtain ⟨t1, h0, ha, hb, hc, hd⟩ := t
  dsimp only at h1 h2 h3 ⊢
  obtain ⟨st', k', e1, hk', g1, g2⟩ := M_record m st hk
  obtain ⟨f', hf'⟩ : ∃ f', f' = if k = 5 then (f + 1) % 5 else f := ⟨_, rfl⟩
  have bk' : k' ≤ 4 := by rw [hk']; split <;> omega
  have bf' : f' < 5 := by rw [hf']; split <;> omega
  obtain ⟨t2, ht2, q1, q2⟩ : ∃ t2 : HiS, (if (Hi_size t1) = (5 : Int32) then (x_rem ((Hi_first t1) + (1 : Int32)) (5 : Int32)).bind fun v2 => x_nm ((Hi_size t1) - (1 : Int32)) fun x3 => some (Hi_set_size (Hi_set_first t1 v2) x3) else some t1) = some t2 ∧ Hi_first t2 = iI (f' : Int) ∧ Hi_size t2 = iI (k' : Int) := by
    by_cases c : k = 5
    · refine ⟨Hi_set_size (Hi_set_first t1 (iI (f' : Int))) (iI (k' : Int)), ?_, rfl, rfl⟩
      rw [h2, h1, iL_5, if_pos (by rw [c]; rfl), iL_1, iI_add, iI_sub, x_remI (by omega) (by omega) (by omega) (by omega), ob_some, x_nm_eq]
      rw [if_pos c] at hf' hk'
      have u1 : ((f : Int) + 1) % 5 = (f' : Int) := by omega
      have u2 : (k : Int) - 1 = (k' : Int) := by omega
      rw [u1, u2]
    · refine ⟨t1, ?_, ?_, ?_⟩
      · rw [h2, if_neg]
        rw [iL_5, iI_eq (by omega) (by omega) (by omega) (by omega)]
        omega
      · rw [h1, hf', if_neg c]
      · rw [h2, hk', if_neg c]
  obtain ⟨ix, hix⟩ : ∃ ix, ix = (f' + k') % 5 := ⟨_, rfl⟩
  have old : ∀ j, j < k' → LM (hat (t1, h0, ha, hb, hc, hd) ((f' + j) % 5)) (fun i => st' (88 * j + i)) := by
    intro j hj
    by_cases c : k = 5
    · rw [if_pos c] at hf' hk'
      have := h3 (j + 1) (by omega)
      rw [show (f + (j + 1)) % 5 = (f' + j) % 5 by omega] at this
      refine this.eqM (fun i hi => ?_)
      show st' (88 * j + i) = st (88 * (j + 1) + i)
      rw [g2 _ (by omega), if_pos c]
      congr 1
      omega
    · rw [if_neg c] at hf' hk'
      have := h3 j (by omega)
      rw [← hf'] at this
      refine this.eqM (fun i hi => ?_)
      show st' (88 * j + i) = st (88 * j + i)
      rw [g2 _ (by omega), if_neg c]
  have new : ∀ s', LEq s' s → ∀ t' : HT, (∀ i, i < 5 → i ≠ ix → hat t' i = hat (t1, h0, ha, hb, hc, hd) i) → hat t' ix = s' → t'.1 = Hi_set_size t2 (iI ((k' + 1 : Nat) : Int)) → HR t' st' (iI ((k' + 1 : Nat) : Int)) := by
    intro s' hs' t' u1 u2 u3
    refine ⟨f', k' + 1, bf', by omega, by rw [u3]; exact q1, by rw [u3]; rfl, rfl, fun j hj => ?_⟩
    by_cases c : j = k'
    · subst c
      rw [← hix, u2]
      exact (hs.eqL hs').eqM (fun i hi => g1 i hi)
    · rw [u1 _ (by omega) (by omega)]
      exact old j (by omega)
  have e0 : x_rem ((Hi_first t2) + (Hi_size t2)) 5 = some (nI ix) := by
    rw [q1, q2, iL_5, iI_add, x_remI (by omega) (by omega) (by omega) (by omega), nI_iI]
    congr 2
    omega
  have eN : Hi_size t2 + (1 : Int32) = iI ((k' + 1 : Nat) : Int) := by rw [q2, iI_suc]
  have hix5 : ix = 0 ∨ ix = 1 ∨ ix = 2 ∨ ix = 3 ∨ ix = 4 := by omega
  unfold f_X0_record
  rw [ht2, ob_some, e0, ob_some]
  simp only [x_nm_eq, eN]
  have d01 : ¬ nI 1 = nI 0 := by decide
  have d02 : ¬ nI 2 = nI 0 := by decide
  have d03 : ¬ nI 3 = nI 0 := by decide
  have d04 : ¬ nI 4 = nI 0 := by decide
  have d12 : ¬ nI 2 = nI 1 := by decide
  have d13 : ¬ nI 3 = nI 1 := by decide
  have d14 : ¬ nI 4 = nI 1 := by decide
  have d23 : ¬ nI 3 = nI 2 := by decide
  have d24 : ¬ nI 4 = nI 2 := by decide
  have d34 : ¬ nI 4 = nI 3 := by decide
  rcases hix5 with c | c | c | c | c <;> rw [c]
  · obtain ⟨s', e2, e3⟩ := L_take h0 s
    rw [if_pos rfl, e2, ob_some]
    refine ⟨_, st', _, rfl, e1, new s' e3 _ (fun i hi hne => ?_) (by rw [c]; rfl) rfl⟩
    rw [c] at hne
    rcases (show i = 1 ∨ i = 2 ∨ i = 3 ∨ i = 4 by omega) with rfl | rfl | rfl | rfl <;> rfl
  · obtain ⟨s', e2, e3⟩ := L_take ha s
    rw [if_neg d01, if_pos rfl, e2, ob_some]
    refine ⟨_, st', _, rfl, e1, new s' e3 _ (fun i hi hne => ?_) (by rw [c]; rfl) rfl⟩
    rw [c] at hne
    rcases (show i = 0 ∨ i = 2 ∨ i = 3 ∨ i = 4 by omega) with rfl | rfl | rfl | rfl <;> rfl
  · obtain ⟨s', e2, e3⟩ := L_take hb s
    rw [if_neg d02, if_neg d12, if_pos rfl, e2, ob_some]
    refine ⟨_, st', _, rfl, e1, new s' e3 _ (fun i hi hne => ?_) (by rw [c]; rfl) rfl⟩
    rw [c] at hne
    rcases (show i = 0 ∨ i = 1 ∨ i = 3 ∨ i = 4 by omega) with rfl | rfl | rfl | rfl <;> rfl
  · obtain ⟨s', e2, e3⟩ := L_take hc s
    rw [if_neg d03, if_neg d13, if_neg d23, if_pos rfl, e2, ob_some]
    refine ⟨_, st', _, rfl, e1, new s' e3 _ (fun i hi hne => ?_) (by rw [c]; rfl) rfl⟩
    rw [c] at hne
    rcases (show i = 0 ∨ i = 1 ∨ i = 2 ∨ i = 4 by omega) with rfl | rfl | rfl | rfl <;> rfl
  · obtain ⟨s', e2, e3⟩ := L_take hd s
    rw [if_neg d04, if_neg d14, if_neg d24, if_neg d34, if_pos rfl, e2, ob_some]
    refine ⟨_, st', _, rfl, e1, new s' e3 _ (fun i hi hne => ?_) (by rw [c]; rfl) rfl⟩
    rw [c] at hne
    rcases (show i = 0 ∨ i = 1 ∨ i = 2 ∨ i = 3 by omega) with rfl | rfl | rfl | rfl <;> rfl
theorem aside_eq (m st : Nat → Int32) (cnt : Int32) : f_X8_record_aside st cnt m = f_X8_record_m m st cnt := by
  have e1 : b_X8_record_aside_10 = b_X8_record_m_10 := by
    funext ⟨x, s⟩
    rfl
  have e2 : ∀ c, b_X8_record_aside_50 m c = b_X8_record_m_50 m c := by
    intro c
    funext ⟨x, s⟩
    rfl
  unfold f_X8_record_aside f_X8_record_m
  simp only [e1, e2]
/-- the latest state comes back -/
theorem HR_restore {t : HT} {st : Nat → Int32} {cnt : Int32} (h : HR t st cnt) (s : LyS) (m : Nat → Int32) :
    (cnt = 0 ∧ Hi_size t.1 = 0) ∨ (¬ cnt = 0 ∧ ¬ Hi_size t.1 = 0 ∧ ∃ t1 s' m', f_X0_restore t.1 t.2.1 t.2.2.1 t.2.2.2.1 t.2.2.2.2.1 t.2.2.2.2.2 s = some (t1, s') ∧ (∃ z, x_loop (b_X8_undo_22 st (cnt - 1)) x_fuel ((0 : Int32), m) = some (z, m')) ∧ LM s' m' ∧ Hi_size t1 = cnt - 1 ∧ HR (t1, t.2) st (cnt - 1)) := by
  obtain ⟨f, k, hf, hk, h1, h2, rfl, h3⟩ := h
  obtain ⟨t1, h0, ha, hb, hc, hd⟩ := t
  dsimp only at h1 h2 h3 ⊢
  rcases Nat.eq_zero_or_pos k with c | hpos
  · subst c
    exact Or.inl ⟨rfl, h2⟩
  · right
    have cn : ¬ iI (k : Int) = 0 := by
      rw [iL_0, iI_eq (by omega) (by omega) (by omega) (by omega)]
      omega
    have ek : iI (k : Int) - 1 = iI ((k - 1 : Nat) : Int) := by
      rw [iL_1, iI_sub]
      congr 1
      omega
    refine ⟨cn, by rw [h2]; exact cn, ?_⟩
    have key := x_for (B := b_X8_undo_22 st (iI ((k - 1 : Nat) : Int))) (fun i (g : Nat → Int32) => (iI (i : Int), g)) (fun i g => ∀ j, j < i → g j = st (88 * (k - 1) + j)) 88 (fun r => ∃ z g, r = (z, g) ∧ ∀ j, j < 88 → g j = st (88 * (k - 1) + j))
      (by
        intro i g hi hI
        left
        refine ⟨upd g i (st (88 * (k - 1) + i)), ?_, fun j hj => ?_⟩
        · rw [b_X8_undo_22, iL_88, iI_mul, iI_add, x_ldI (j := 88 * (k - 1) + i) (by omega) (by omega) (by omega), ob_some, x_stI (j := i) rfl (by omega) (by omega), ob_some]
          simp (disch := omega) only [iI_le]
          rw [if_neg (by omega), iI_suc]
        · by_cases c : j = i
          · subst c; rw [upd_same]
          · rw [upd_ne _ _ c]; exact hI j (by omega))
      (by
        intro g hI
        rw [b_X8_undo_22]
        simp (disch := omega) only [iL_88, iI_le]
        rw [if_pos (by omega)]
        exact ⟨_, rfl, _, g, rfl, hI⟩) m (fun j hj => by omega) (by omega)
    obtain ⟨r, e1, z, m', rfl, hm'⟩ := key
    have hl := h3 (k - 1) (by omega)
    obtain ⟨ix, hix⟩ : ∃ ix, ix = (f + (k - 1)) % 5 := ⟨_, rfl⟩
    rw [← hix] at hl
    have hR : HR (Hi_set_size t1 (iI ((k - 1 : Nat) : Int)), h0, ha, hb, hc, hd) st (iI ((k - 1 : Nat) : Int)) := ⟨f, k - 1, hf, by omega, h1, rfl, rfl, fun j hj => h3 j (by omega)⟩
    have e0 : x_rem ((Hi_first t1) + ((Hi_size t1) - (1 : Int32))) 5 = some (nI ix) := by
      rw [h1, h2, ek, iL_5, iI_add, x_remI (by omega) (by omega) (by omega) (by omega), nI_iI]
      congr 2
      omega
    have fin : ∀ o s', LEq s' o → o = hat (t1, h0, ha, hb, hc, hd) ix → LM s' m' := fun o s' g1 g2 => by
      rw [← g2] at hl
      exact (hl.eqL g1).eqM (fun i hi => hm' i hi)
    have hix5 : ix = 0 ∨ ix = 1 ∨ ix = 2 ∨ ix = 3 ∨ ix = 4 := by omega
    rw [ek]
    unfold f_X0_restore
    rw [e0, ob_some]
    simp only [x_nm_eq, h2, ek]
    have d01 : ¬ nI 1 = nI 0 := by decide
    have d02 : ¬ nI 2 = nI 0 := by decide
    have d03 : ¬ nI 3 = nI 0 := by decide
    have d04 : ¬ nI 4 = nI 0 := by decide
    have d12 : ¬ nI 2 = nI 1 := by decide
    have d13 : ¬ nI 3 = nI 1 := by decide
    have d14 : ¬ nI 4 = nI 1 := by decide
    have d23 : ¬ nI 3 = nI 2 := by decide
    have d24 : ¬ nI 4 = nI 2 := by decide
    have d34 : ¬ nI 4 = nI 3 := by decide
    rcases hix5 with c | c | c | c | c <;> rw [c]
    · obtain ⟨s', e2, e3⟩ := L_take s h0
      rw [if_pos rfl, e2, ob_some]
      exact ⟨_, s', m', rfl, ⟨z, e1⟩, fin _ s' e3 (by rw [c]; rfl), rfl, hR⟩
    · obtain ⟨s', e2, e3⟩ := L_take s ha
      rw [if_neg d01, if_pos rfl, e2, ob_some]
      exact ⟨_, s', m', rfl, ⟨z, e1⟩, fin _ s' e3 (by rw [c]; rfl), rfl, hR⟩
    · obtain ⟨s', e2, e3⟩ := L_take s hb
      rw [if_neg d02, if_neg d12, if_pos rfl, e2, ob_some]
      exact ⟨_, s', m', rfl, ⟨z, e1⟩, fin _ s' e3 (by rw [c]; rfl), rfl, hR⟩
    · obtain ⟨s', e2, e3⟩ := L_take s hc
      rw [if_neg d03, if_neg d13, if_neg d23, if_pos rfl, e2, ob_some]
      exact ⟨_, s', m', rfl, ⟨z, e1⟩, fin _ s' e3 (by rw [c]; rfl), rfl, hR⟩
    · obtain ⟨s', e2, e3⟩ := L_take s hd
      rw [if_neg d04, if_neg d14, if_neg d24, if_neg d34, if_pos rfl, e2, ob_some]
      exact ⟨_, s', m', rfl, ⟨z, e1⟩, fin _ s' e3 (by rw [c]; rfl), rfl, hR⟩
