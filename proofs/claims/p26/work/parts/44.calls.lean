/-! p26: the history: what was recorded last comes back -/
def HK (hi : HiS) (k : Nat) : Prop := ∃ f : Nat, f < 5 ∧ k ≤ 5 ∧ Hi_first hi = iI (f : Int) ∧ Hi_size hi = iI (k : Int)
theorem HK.s {hi : HiS} {k : Nat} (h : HK hi k) : Hi_size hi = iI (k : Int) := by
  obtain ⟨f, -, -, -, h⟩ := h
  exact h
theorem HK.b {hi : HiS} {k : Nat} (h : HK hi k) : k ≤ 5 := by
  obtain ⟨f, -, h, -, -⟩ := h
  exact h
def HU (hi : HiS) (h0 h1 h2 h3 h4 s : LyS) (k : Nat) : Prop := ∀ s1 : LyS, ∃ s2 hi', f_X7_undo s1 hi h0 h1 h2 h3 h4 = some (iI (k : Int), s2, hi') ∧ LEq s2 s ∧ HK hi' k
theorem HU.eq {hi : HiS} {h0 h1 h2 h3 h4 s s' : LyS} {k : Nat} (h : HU hi h0 h1 h2 h3 h4 s k) (e : LEq s s') : HU hi h0 h1 h2 h3 h4 s' k := by
  intro s1
  obtain ⟨s2, hi', e1, e2, e3⟩ := h s1
  exact ⟨s2, hi', e1, e2.trans e, e3⟩
theorem z_undo0 {hi : HiS} (h : HK hi 0) (s h0 h1 h2 h3 h4 : LyS) : f_X7_undo s hi h0 h1 h2 h3 h4 = some ((-102 : Int32), s, hi) := by
  unfold f_X7_undo f_X0_size
  rw [ob_some, h.s, if_pos (show iI ((0 : Nat) : Int) = 0 from rfl)]
theorem z_restore {hi : HiS} {h0 ha hb hc hd o : LyS} {f k : Nat} (hf : f < 5) (hk : k ≤ 4) (h1 : Hi_first hi = iI (f : Int)) (h2 : Hi_size hi = iI ((k + 1 : Nat) : Int)) (ho : hat (hi, h0, ha, hb, hc, hd) ((f + k) % 5) = o) : HU hi h0 ha hb hc hd o k := by
  intro s1
  have cn : ¬ iI ((k + 1 : Nat) : Int) = 0 := by
    rw [iL_0, iI_eq (by omega) (by omega) (by omega) (by omega)]
    omega
  have ek : iI ((k + 1 : Nat) : Int) - 1 = iI (k : Int) := by
    rw [iL_1, iI_sub]
    congr 1
    omega
  obtain ⟨ix, hix⟩ : ∃ ix, ix = (f + k) % 5 := ⟨_, rfl⟩
  rw [← hix] at ho
  have e0 : x_rem ((Hi_first hi) + ((Hi_size hi) - (1 : Int32))) 5 = some (nI ix) := by
    rw [h1, h2, ek, iL_5, iI_add, x_remI (by omega) (by omega) (by omega) (by omega), nI_iI]
    congr 2
    omega
  have hR : HK (Hi_set_size hi (iI (k : Int))) k := ⟨f, hf, by omega, h1, rfl⟩
  have hix5 : ix = 0 ∨ ix = 1 ∨ ix = 2 ∨ ix = 3 ∨ ix = 4 := by omega
  have d01 : ¬ nI 1 = nI 0 := by decide
  have d02 : ¬ nI 2 = nI 0 := by decide
  have d03 : ¬ nI 3 = nI 0 := by decide
  have d04 : ¬ nI 4 = nI 0 := by decide
  have d12 : ¬ nI 2 = nI 1 := by decide
  have d13 : ¬ nI 3 = nI 1 := by decide
  have d14 : ¬ nI 4 = nI 1 := by decide
  have d23 : ¬ nI 3 = nI 2 := by decide
  have d24 : ¬ nI 4 = nI 2 := by decide
  have d34 : ¬ nI 4 = nI 3 := by decide
  have fin : ∀ s', LEq s' (hat (hi, h0, ha, hb, hc, hd) ix) → f_X0_restore hi h0 ha hb hc hd s1 = some (Hi_set_size hi (iI (k : Int)), s') → ∃ s2 hi', f_X7_undo s1 hi h0 ha hb hc hd = some (iI (k : Int), s2, hi') ∧ LEq s2 o ∧ HK hi' k := by
    intro s' g1 g2
    rw [ho] at g1
    refine ⟨s', _, ?_, g1, hR⟩
    unfold f_X7_undo f_X0_size
    rw [ob_some, h2, if_neg cn, g2, ob_some]
    rfl
  rcases hix5 with c | c | c | c | c <;> rw [c] at e0 fin
  · obtain ⟨s', e2, e3⟩ := L_take s1 h0
    refine fin s' e3 ?_
    unfold f_X0_restore
    rw [e0, ob_some, if_pos rfl, e2, ob_some, x_nm_eq, h2, ek]
  · obtain ⟨s', e2, e3⟩ := L_take s1 ha
    refine fin s' e3 ?_
    unfold f_X0_restore
    rw [e0, ob_some, if_neg d01, if_pos rfl, e2, ob_some, x_nm_eq, h2, ek]
  · obtain ⟨s', e2, e3⟩ := L_take s1 hb
    refine fin s' e3 ?_
    unfold f_X0_restore
    rw [e0, ob_some, if_neg d02, if_neg d12, if_pos rfl, e2, ob_some, x_nm_eq, h2, ek]
  · obtain ⟨s', e2, e3⟩ := L_take s1 hc
    refine fin s' e3 ?_
    unfold f_X0_restore
    rw [e0, ob_some, if_neg d03, if_neg d13, if_neg d23, if_pos rfl, e2, ob_some, x_nm_eq, h2, ek]
  · obtain ⟨s', e2, e3⟩ := L_take s1 hd
    refine fin s' e3 ?_
    unfold f_X0_restore
    rw [e0, ob_some, if_neg d04, if_neg d14, if_neg d24, if_neg d34, if_pos rfl, e2, ob_some, x_nm_eq, h2, ek]
theorem z_record {hi : HiS} {k : Nat} (h : HK hi k) (h0 ha hb hc hd s : LyS) : ∃ hi' h0' ha' hb' hc' hd' k', f_X0_record hi h0 ha hb hc hd s = some (hi', h0', ha', hb', hc', hd') ∧ HK hi' (k' + 1) ∧ HU hi' h0' ha' hb' hc' hd' s k' := by
  obtain ⟨f, hf, hk, h1, h2⟩ := h
  obtain ⟨k', hk'⟩ : ∃ k', k' = if k = 5 then 4 else k := ⟨_, rfl⟩
  obtain ⟨f', hf'⟩ : ∃ f', f' = if k = 5 then (f + 1) % 5 else f := ⟨_, rfl⟩
  have bk' : k' ≤ 4 := by rw [hk']; split <;> omega
  have bf' : f' < 5 := by rw [hf']; split <;> omega
  obtain ⟨t2, ht2, q1, q2⟩ : ∃ t2 : HiS, (if (Hi_size hi) = (5 : Int32) then (x_rem ((Hi_first hi) + (1 : Int32)) (5 : Int32)).bind fun v2 => x_nm ((Hi_size hi) - (1 : Int32)) fun x3 => some (Hi_set_size (Hi_set_first hi v2) x3) else some hi) = some t2 ∧ Hi_first t2 = iI (f' : Int) ∧ Hi_size t2 = iI (k' : Int) := by
    by_cases c : k = 5
    · refine ⟨Hi_set_size (Hi_set_first hi (iI (f' : Int))) (iI (k' : Int)), ?_, rfl, rfl⟩
      rw [h2, h1, iL_5, if_pos (by rw [c]; rfl), iL_1, iI_add, iI_sub, x_remI (by omega) (by omega) (by omega) (by omega), ob_some, x_nm_eq]
      rw [if_pos c] at hf' hk'
      have u1 : ((f : Int) + 1) % 5 = (f' : Int) := by omega
      have u2 : (k : Int) - 1 = (k' : Int) := by omega
      rw [u1, u2]
    · refine ⟨hi, ?_, ?_, ?_⟩
      · rw [h2, if_neg]
        rw [iL_5, iI_eq (by omega) (by omega) (by omega) (by omega)]
        omega
      · rw [h1, hf', if_neg c]
      · rw [h2, hk', if_neg c]
  obtain ⟨ix, hix⟩ : ∃ ix, ix = (f' + k') % 5 := ⟨_, rfl⟩
  have e0 : x_rem ((Hi_first t2) + (Hi_size t2)) 5 = some (nI ix) := by
    rw [q1, q2, iL_5, iI_add, x_remI (by omega) (by omega) (by omega) (by omega), nI_iI]
    congr 2
    omega
  have eN : Hi_size t2 + (1 : Int32) = iI ((k' + 1 : Nat) : Int) := by rw [q2, iI_suc]
  have hix5 : ix = 0 ∨ ix = 1 ∨ ix = 2 ∨ ix = 3 ∨ ix = 4 := by omega
  have d01 : ¬ nI 1 = nI 0 := by decide
  have d02 : ¬ nI 2 = nI 0 := by decide
  have d03 : ¬ nI 3 = nI 0 := by decide
  have d04 : ¬ nI 4 = nI 0 := by decide
  have d12 : ¬ nI 2 = nI 1 := by decide
  have d13 : ¬ nI 3 = nI 1 := by decide
  have d14 : ¬ nI 4 = nI 1 := by decide
  have d23 : ¬ nI 3 = nI 2 := by decide
  have d24 : ¬ nI 4 = nI 2 := by decide
  have d34 : ¬ nI 4 = nI 3 := by decide
  have fin : ∀ (u0 ua ub uc ud : LyS), LEq (hat (hi, u0, ua, ub, uc, ud) ix) s → f_X0_record hi h0 ha hb hc hd s = some (Hi_set_size t2 (iI ((k' + 1 : Nat) : Int)), u0, ua, ub, uc, ud) → ∃ hi' h0' ha' hb' hc' hd' k', f_X0_record hi h0 ha hb hc hd s = some (hi', h0', ha', hb', hc', hd') ∧ HK hi' (k' + 1) ∧ HU hi' h0' ha' hb' hc' hd' s k' := by
    intro u0 ua ub uc ud g1 g2
    refine ⟨_, u0, ua, ub, uc, ud, k', g2, ⟨f', bf', by omega, q1, rfl⟩, ?_⟩
    refine HU.eq (z_restore (f := f') (k := k') bf' bk' q1 rfl rfl) ?_
    rw [← hix]
    exact g1
  rcases hix5 with c | c | c | c | c <;> rw [c] at e0 fin
  · obtain ⟨s', e2, e3⟩ := L_take h0 s
    refine fin s' ha hb hc hd e3 ?_
    unfold f_X0_record
    rw [ht2, ob_some, e0, ob_some, if_pos rfl, e2, ob_some, x_nm_eq, eN]
  · obtain ⟨s', e2, e3⟩ := L_take ha s
    refine fin h0 s' hb hc hd e3 ?_
    unfold f_X0_record
    rw [ht2, ob_some, e0, ob_some, if_neg d01, if_pos rfl, e2, ob_some, x_nm_eq, eN]
  · obtain ⟨s', e2, e3⟩ := L_take hb s
    refine fin h0 ha s' hc hd e3 ?_
    unfold f_X0_record
    rw [ht2, ob_some, e0, ob_some, if_neg d02, if_neg d12, if_pos rfl, e2, ob_some, x_nm_eq, eN]
  · obtain ⟨s', e2, e3⟩ := L_take hc s
    refine fin h0 ha hb s' hd e3 ?_
    unfold f_X0_record
    rw [ht2, ob_some, e0, ob_some, if_neg d03, if_neg d13, if_neg d23, if_pos rfl, e2, ob_some, x_nm_eq, eN]
  · obtain ⟨s', e2, e3⟩ := L_take hd s
    refine fin h0 ha hb hc s' e3 ?_
    unfold f_X0_record
    rw [ht2, ob_some, e0, ob_some, if_neg d04, if_neg d14, if_neg d24, if_neg d34, if_pos rfl, e2, ob_some, x_nm_eq, eN]
/-! what the calls answer that change something -/
section ZB
variable {s : LyS} {a : AL} {c : Int} {hi : HiS} {k : Nat}
theorem z_setPage (hs : CS s a c) (hH : HK hi k) (h0 h1 h2 h3 h4 : LyS) (ss : SiS) {x y : Nat} (hx : 4 ≤ x ∧ x ≤ 24) (hy : 4 ≤ y ∧ y ≤ 24) : ∃ s' ss' hi' h0' h1' h2' h3' h4' k', f_X7_setPage s ss hi h0 h1 h2 h3 h4 (iI (x : Int)) (iI (y : Int)) = some (iI (cons ((x, y, aN a), a.2) : Int), s', ss', hi', h0', h1', h2', h3', h4') ∧ CS s' ((x, y, aN a), a.2) c ∧ HK hi' (k' + 1) ∧ HU hi' h0' h1' h2' h3' h4' s k' := by
  obtain ⟨ha, hl, hc⟩ := hs
  have hb := ha.b
  obtain ⟨t0, t1, t2, t3, t4, t5, k', e1, g1, g2⟩ := z_record hH h0 h1 h2 h3 h4 s
  have i1 : f_X7_isWithin (iI (x : Int)) (4 : Int32) (24 : Int32) = some (bI (4 ≤ (x : Int) ∧ (x : Int) ≤ 24)) := F_isWithin (x := x) (lo := 4) (hi := 24) (by omega) (by omega) (by omega)
  have i2 : f_X7_isWithin (iI (y : Int)) (4 : Int32) (24 : Int32) = some (bI (4 ≤ (y : Int) ∧ (y : Int) ≤ 24)) := F_isWithin (x := y) (lo := 4) (hi := 24) (by omega) (by omega) (by omega)
  have hA : AOK ((x, y, aN a), a.2) := ⟨⟨by show 4 ≤ x; omega, by show x ≤ 24; omega, by show 4 ≤ y; omega, by show y ≤ 24; omega, hb.2.2.2.2⟩, ha.2.1, ha.2.2.1, ha.2.2.2.1, ha.2.2.2.2⟩
  obtain ⟨er, hlr⟩ := L_resize hl x y
  obtain ⟨ss', e4, k3⟩ := L_look hlr hA ss
  refine ⟨_, ss', t0, t1, t2, t3, t4, t5, k', ?_, ⟨hA, hlr, hc⟩, g1, g2⟩
  unfold f_X7_setPage
  rw [i1, ob_some, if_b, if_pos (by omega), i2, ob_some, if_b, if_pos (by omega), e1, ob_some]
  dsimp only
  rw [er, ob_some, e4, ob_some, S_contentPieces hlr hA k3, ob_some]
theorem z_prop (hs : CS s a c) (hH : HK hi k) (h0 h1 h2 h3 h4 : LyS) {p w : Nat} (hp : p < aN a) (hw : w < 6) {v : Int} (hv : loI w ≤ v ∧ v ≤ hiI w) (hv2 : -1000 ≤ v ∧ v ≤ 1000) : ∃ s' hi' h0' h1' h2' h3' h4' k', f_X7_setProperty s hi h0 h1 h2 h3 h4 (iI (p : Int)) (iI (w : Int)) (iI v) = some (iI (aP a p w), s', hi', h0', h1', h2', h3', h4') ∧ CS s' (aSet a p w v) c ∧ HK hi' (k' + 1) ∧ HU hi' h0' h1' h2' h3' h4' s k' := by
  obtain ⟨ha, hl, hc⟩ := hs
  have hb := ha.b
  obtain ⟨t0, t1, t2, t3, t4, t5, k', e1, g1, g2⟩ := z_record hH h0 h1 h2 h3 h4 s
  obtain ⟨s', e3, k1, k2⟩ := L_set hl (by omega) hp hw (v := v) rfl
  refine ⟨s', t0, t1, t2, t3, t4, t5, k', ?_, ⟨aSet_AOK ha hw hv, k1, k2.trans hc⟩, g1, g2⟩
  unfold f_X7_setProperty
  rw [L_has hl (by omega) (by omega), ob_some, if_b, if_pos (by omega), F_fits hw rfl (by omega), ob_some, if_b, if_pos hv, e1, ob_some]
  dsimp only
  rw [L_get hl (by omega) hp hw rfl, ob_some, e3, ob_some]
theorem z_setShare (hs : CS s a c) (hH : HK hi k) (h0 h1 h2 h3 h4 : LyS) {p : Nat} (hp : p < aN a) {v : Int} (hv : 0 ≤ v ∧ v ≤ 100) : ∃ s' hi' h0' h1' h2' h3' h4' k', f_X7_setShare s hi h0 h1 h2 h3 h4 (iI (p : Int)) (iI v) = some (iI (aP a p 4), s', hi', h0', h1', h2', h3', h4') ∧ CS s' (aSet a p 4 v) c ∧ HK hi' (k' + 1) ∧ HU hi' h0' h1' h2' h3' h4' s k' := by
  obtain ⟨s', t0, t1, t2, t3, t4, t5, k', e, g⟩ := z_prop hs hH h0 h1 h2 h3 h4 hp (w := 4) (by omega) (v := v) hv (by omega)
  refine ⟨s', t0, t1, t2, t3, t4, t5, k', ?_, g⟩
  unfold f_X7_setShare
  rw [show f_X7_setProperty s hi h0 h1 h2 h3 h4 (iI (p : Int)) (4 : Int32) (iI v) = _ from e, ob_some]
theorem z_setFrame (hs : CS s a c) (hH : HK hi k) (h0 h1 h2 h3 h4 : LyS) {p : Nat} (hp : p < aN a) {v : Int} (hv : 0 ≤ v ∧ v ≤ 3) : ∃ s' hi' h0' h1' h2' h3' h4' k', f_X7_setFrame s hi h0 h1 h2 h3 h4 (iI (p : Int)) (iI v) = some (iI (aP a p 5), s', hi', h0', h1', h2', h3', h4') ∧ CS s' (aSet a p 5 v) c ∧ HK hi' (k' + 1) ∧ HU hi' h0' h1' h2' h3' h4' s k' := by
  obtain ⟨s', t0, t1, t2, t3, t4, t5, k', e, g⟩ := z_prop hs hH h0 h1 h2 h3 h4 hp (w := 5) (by omega) (v := v) hv (by omega)
  refine ⟨s', t0, t1, t2, t3, t4, t5, k', ?_, g⟩
  unfold f_X7_setFrame
  rw [show f_X7_setProperty s hi h0 h1 h2 h3 h4 (iI (p : Int)) (5 : Int32) (iI v) = _ from e, ob_some]
theorem z_shift (hs : CS s a c) (hH : HK hi k) (h0 h1 h2 h3 h4 : LyS) {p : Nat} (hp : p < aN a) {dx dy : Int} (hx : -60 ≤ dx ∧ dx ≤ 60) (hy : -60 ≤ dy ∧ dy ≤ 60) (hm : (-20 ≤ aP a p 0 + dx ∧ aP a p 0 + dx ≤ 40) ∧ -20 ≤ aP a p 1 + dy ∧ aP a p 1 + dy ≤ 40) : ∃ s' hi' h0' h1' h2' h3' h4' k', f_X7_shift s hi h0 h1 h2 h3 h4 (iI (p : Int)) (iI dx) (iI dy) = some (iI (ab dx + ab dy), s', hi', h0', h1', h2', h3', h4') ∧ CS s' (aSh a p dx dy) (c + (ab dx + ab dy)) ∧ HK hi' (k' + 1) ∧ HU hi' h0' h1' h2' h3' h4' s k' := by
  obtain ⟨ha, hl, hc⟩ := hs
  have hb := ha.b
  have i1 : f_X7_isWithin (iI dx) (-60 : Int32) (60 : Int32) = some (bI (-60 ≤ dx ∧ dx ≤ 60)) := by
    rw [show (-60 : Int32) = iI (-60) from rfl, iL_60]
    exact F_isWithin (x := dx) (lo := -60) (hi := 60) (by omega) (by omega) (by omega)
  have i2 : f_X7_isWithin (iI dy) (-60 : Int32) (60 : Int32) = some (bI (-60 ≤ dy ∧ dy ≤ 60)) := by
    rw [show (-60 : Int32) = iI (-60) from rfl, iL_60]
    exact F_isWithin (x := dy) (lo := -60) (hi := 60) (by omega) (by omega) (by omega)
  obtain ⟨t0, t1, t2, t3, t4, t5, k', e1, g1, g2⟩ := z_record hH h0 h1 h2 h3 h4 s
  obtain ⟨s', e3, k1, k2⟩ := L_move hl ha hp (dx := dx) (dy := dy) (by omega) (by omega)
  refine ⟨s', t0, t1, t2, t3, t4, t5, k', ?_, ⟨aSh_AOK ha hm, k1, by rw [k2, hc, iI_add]⟩, g1, g2⟩
  unfold f_X7_shift
  rw [L_has hl (by omega) (by omega), ob_some, if_b, if_pos (by omega), i1, ob_some, if_b, if_pos hx, i2, ob_some, if_b, if_pos hy, L_canMove hl ha hp (by omega) (by omega), ob_some, if_b, if_pos hm, e1, ob_some]
  dsimp only
  rw [e3, ob_some]
theorem z_shift_no (hs : CS s a c) (h0 h1 h2 h3 h4 : LyS) {p : Nat} (hp : p < aN a) {dx dy : Int} (hx : -60 ≤ dx ∧ dx ≤ 60) (hy : -60 ≤ dy ∧ dy ≤ 60) (hm : ¬ ((-20 ≤ aP a p 0 + dx ∧ aP a p 0 + dx ≤ 40) ∧ -20 ≤ aP a p 1 + dy ∧ aP a p 1 + dy ≤ 40)) : f_X7_shift s hi h0 h1 h2 h3 h4 (iI (p : Int)) (iI dx) (iI dy) = some ((-102 : Int32), s, hi, h0, h1, h2, h3, h4) := by
  obtain ⟨ha, hl, hc⟩ := hs
  have hb := ha.b
  have i1 : f_X7_isWithin (iI dx) (-60 : Int32) (60 : Int32) = some (bI (-60 ≤ dx ∧ dx ≤ 60)) := by
    rw [show (-60 : Int32) = iI (-60) from rfl, iL_60]
    exact F_isWithin (x := dx) (lo := -60) (hi := 60) (by omega) (by omega) (by omega)
  have i2 : f_X7_isWithin (iI dy) (-60 : Int32) (60 : Int32) = some (bI (-60 ≤ dy ∧ dy ≤ 60)) := by
    rw [show (-60 : Int32) = iI (-60) from rfl, iL_60]
    exact F_isWithin (x := dy) (lo := -60) (hi := 60) (by omega) (by omega) (by omega)
  unfold f_X7_shift
  rw [L_has hl (by omega) (by omega), ob_some, if_b, if_pos (by omega), i1, ob_some, if_b, if_pos hx, i2, ob_some, if_b, if_pos hy, L_canMove hl ha hp (by omega) (by omega), ob_some, if_b, if_neg hm]
theorem z_setLayer (hs : CS s a c) (hH : HK hi k) (h0 h1 h2 h3 h4 : LyS) {l0 l1 : Nat} (hl0 : l0 < aN a) (hl1 : l1 < aN a) : ∃ s' hi' h0' h1' h2' h3' h4' k', f_X7_setLayer s hi h0 h1 h2 h3 h4 (iI (aO a l0 : Int)) (iI (l1 : Int)) = some (iI (l0 : Int), s', hi', h0', h1', h2', h3', h4') ∧ CS s' (aMov a l0 l1) c ∧ HK hi' (k' + 1) ∧ HU hi' h0' h1' h2' h3' h4' s k' := by
  obtain ⟨ha, hl, hc⟩ := hs
  have hb := ha.b
  have ho := ha.o hl0
  obtain ⟨t0, t1, t2, t3, t4, t5, k', e1, g1, g2⟩ := z_record hH h0 h1 h2 h3 h4 s
  obtain ⟨s', e3, k1, k2, -⟩ := L_putIntoLayer hl ha hl0 hl1
  refine ⟨s', t0, t1, t2, t3, t4, t5, k', ?_, ⟨aMov_AOK ha hl0 hl1, k1, k2.trans hc⟩, g1, g2⟩
  unfold f_X7_setLayer
  rw [L_has hl (by omega) (by omega), ob_some, if_b, if_pos (by omega), L_has hl (by omega) (by omega), ob_some, if_b, if_pos (by omega), e1, ob_some]
  dsimp only
  rw [e3, ob_some]
theorem z_removePiece (hs : CS s a c) (hH : HK hi k) (h0 h1 h2 h3 h4 : LyS) {l0 : Nat} (hl0 : l0 < aN a) : ∃ s' hi' h0' h1' h2' h3' h4' k', f_X7_removePiece s hi h0 h1 h2 h3 h4 (iI (aO a l0 : Int)) = some (iI ((aN a - 1 : Nat) : Int), s', hi', h0', h1', h2', h3', h4') ∧ CS s' (aRem a l0) c ∧ HK hi' (k' + 1) ∧ HU hi' h0' h1' h2' h3' h4' s k' := by
  obtain ⟨ha, hl, hc⟩ := hs
  have hb := ha.b
  have ho := ha.o hl0
  obtain ⟨t0, t1, t2, t3, t4, t5, k', e1, g1, g2⟩ := z_record hH h0 h1 h2 h3 h4 s
  obtain ⟨s', e3, k1, k2⟩ := L_remove hl ha hl0
  refine ⟨s', t0, t1, t2, t3, t4, t5, k', ?_, ⟨aRem_AOK ha hl0, k1, k2.trans hc⟩, g1, g2⟩
  unfold f_X7_removePiece f_X1_pieces
  rw [L_has hl (by omega) (by omega), ob_some, if_b, if_pos (by omega), e1, ob_some]
  dsimp only
  rw [e3, ob_some, ob_some, k1.n]
  rfl
theorem z_addPiece (hs : CS s a c) (hH : HK hi k) (h0 h1 h2 h3 h4 : LyS) (hn : aN a < 12) {x y w u q : Int} (hx : -20 ≤ x ∧ x ≤ 40) (hy : -20 ≤ y ∧ y ≤ 40) (hw : 1 ≤ w ∧ w ≤ 12) (hu : 1 ≤ u ∧ u ≤ 12) (hq : 0 ≤ q ∧ q ≤ 100) : ∃ s' hi' h0' h1' h2' h3' h4' k' v, f_X7_addPiece s hi h0 h1 h2 h3 h4 (iI x) (iI y) (iI w) (iI u) (iI q) = some (iI (aN a : Int), s', hi', h0', h1', h2', h3', h4') ∧ CS s' (aAdd a v) c ∧ HK hi' (k' + 1) ∧ HU hi' h0' h1' h2' h3' h4' s k' ∧ v 0 = x ∧ v 4 = q ∧ v 5 = 0 := by
  obtain ⟨ha, hl, hc⟩ := hs
  have hb := ha.b
  obtain ⟨t0, t1, t2, t3, t4, t5, k', e1, g1, g2⟩ := z_record hH h0 h1 h2 h3 h4 s
  obtain ⟨v, hv⟩ : ∃ v : Nat → Int, v = fun k => if k = 0 then x else if k = 1 then y else if k = 2 then w else if k = 3 then u else if k = 4 then q else 0 := ⟨_, rfl⟩
  have v0 : v 0 = x := by rw [hv]; rfl
  have v1 : v 1 = y := by rw [hv]; rfl
  have v2 : v 2 = w := by rw [hv]; rfl
  have v3 : v 3 = u := by rw [hv]; rfl
  have v4 : v 4 = q := by rw [hv]; rfl
  have v5 : v 5 = 0 := by rw [hv]; rfl
  have hPV : PV v := by unfold PV; rw [v0, v1, v2, v3, v4, v5]; omega
  obtain ⟨sa, f0, ka, ca⟩ := L_addBlank hl hn
  have hN1 : aN (aAdd a (fun _ => 0)) = aN a + 1 := rfl
  obtain ⟨sb, f1, kb, cb⟩ := L_set ka (by omega) (p := aN a) (w := 0) (by omega) (by omega) (wi := 0) (v := x) rfl
  obtain ⟨sc, f2, kc, cc⟩ := L_set kb (show aN a + 1 ≤ 12 by omega) (p := aN a) (w := 1) (show aN a < aN a + 1 by omega) (by omega) (wi := 1) (v := y) rfl
  obtain ⟨sd, f3, kd, cd⟩ := L_set kc (show aN a + 1 ≤ 12 by omega) (p := aN a) (w := 2) (show aN a < aN a + 1 by omega) (by omega) (wi := 2) (v := w) rfl
  obtain ⟨se, f4, ke, ce⟩ := L_set kd (show aN a + 1 ≤ 12 by omega) (p := aN a) (w := 3) (show aN a < aN a + 1 by omega) (by omega) (wi := 3) (v := u) rfl
  obtain ⟨sf, f5, kf, cf⟩ := L_set ke (show aN a + 1 ≤ 12 by omega) (p := aN a) (w := 4) (show aN a < aN a + 1 by omega) (by omega) (wi := 4) (v := q) rfl
  have kk : LOK sf (aAdd a v) := by
    refine kf.congr rfl (fun i j hi hj => ?_) (fun l hl => rfl)
    simp only [aSet_P]
    show _ = (if i = aN a then v j else aP a i j)
    by_cases c : i = aN a
    · subst c
      rw [if_pos rfl]
      rcases (show j = 0 ∨ j = 1 ∨ j = 2 ∨ j = 3 ∨ j = 4 ∨ j = 5 by omega) with rfl | rfl | rfl | rfl | rfl | rfl
      · rw [v0]; simp
      · rw [v1]; simp
      · rw [v2]; simp
      · rw [v3]; simp
      · rw [v4]; simp
      · rw [v5]
        simp
        show (if aN a = aN a then (0 : Int) else _) = 0
        rw [if_pos rfl]
    · simp only [c, false_and, if_false]
      show (if i = aN a then (0 : Int) else aP a i j) = aP a i j
      rw [if_neg c]
  refine ⟨sf, t0, t1, t2, t3, t4, t5, k', v, ?_, ⟨aAdd_AOK ha hn hPV, kk, by rw [cf, ce, cd, cc, cb, ca, hc]⟩, g1, g2, v0, v4, v5⟩
  unfold f_X7_addPiece
  rw [show f_X7_fits (0 : Int32) (iI x) = _ from F_fits0 (by omega), ob_some, if_b, if_pos hx, show f_X7_fits (1 : Int32) (iI y) = _ from F_fits1 (by omega), ob_some, if_b, if_pos hy, show f_X7_fits (2 : Int32) (iI w) = _ from F_fits2 (by omega), ob_some, if_b, if_pos hw, show f_X7_fits (3 : Int32) (iI u) = _ from F_fits3 (by omega), ob_some, if_b, if_pos hu, show f_X7_fits (4 : Int32) (iI q) = _ from F_fits4 (by omega), ob_some, if_b, if_pos hq, L_isFull hl (by omega), ob_some, if_b, if_neg (by omega), e1, ob_some]
  dsimp only
  rw [f0, ob_some]
  dsimp only
  rw [show f_X1_set sa (iI (aN a : Int)) (0 : Int32) (iI x) = _ from f1, ob_some, show f_X1_set sb (iI (aN a : Int)) (1 : Int32) (iI y) = _ from f2, ob_some, show f_X1_set sc (iI (aN a : Int)) (2 : Int32) (iI w) = _ from f3, ob_some, show f_X1_set sd (iI (aN a : Int)) (3 : Int32) (iI u) = _ from f4, ob_some, show f_X1_set se (iI (aN a : Int)) (4 : Int32) (iI q) = _ from f5, ob_some]
end ZB
