/-! all items, on both sides -/
theorem e1000 (b : Nat) : (-1000 : Int32) - iI (b : Int) = iI (-1000 - (b : Int)) := by
  rw [iL_1000, iI_neg, iI_sub]
section RI
variable {tx : TxS} {text : Nat → Int32} {c : Nat → Int} {n : Nat}
/-- what the class does of an item, by whether it is the word page -/
def itemC (utx : TxS) (x3 : Int32) (s4 : RdS) (s5 : LyS) (r6 : Int32) : Option (Int32 × RdS × LyS) :=
  if r6 = 0 then
    (f_X4_isWord_s1 s4 utx).bind fun r11 =>
    if r11 = 0 then
      some ((0 : Int32), s4, s5)
    else
      (f_X1_isFull s5).bind fun r13 =>
      if r13 = 0 then
        (f_X4_readPiece s4 utx s5).bind fun (r15, s16, s17) =>
        if r15 = 0 then
          some ((0 : Int32), s16, s17)
        else
          some ((1 : Int32), s16, s17)
      else
        some ((0 : Int32), s4, s5)
  else
    if x3 = 0 then
      (f_X4_readPage s4 utx s5).bind fun (r19, s20, s21) =>
      if r19 = 0 then
        some ((0 : Int32), s20, s21)
      else
        some ((1 : Int32), s20, s21)
    else
      some ((0 : Int32), s4, s5)
theorem readC (utx : TxS) (x3 : Int32) (s4 : RdS) (s5 : LyS) (r6 : Int32) (h1 : ¬ Rd_kind s4 = 0) (h2 : ¬ (120 : Int32) ≤ x3) (h3 : f_X4_isWord_s0 s4 utx = some r6) : b_X4_read_11 utx (x3, s4, s5) = (itemC utx x3 s4 s5 r6).bind fun (x8, s9, s10) => if x8 = 0 then some (.inr (.inl (((-1000 : Int32) - (Rd_start s9)), s9, s10))) else (f_X4_nextToken s9 utx).bind fun s23 => some (.inl ((x3 + (1 : Int32)), s23, s10)) := by
  rw [b_X4_read_11, if_neg h1, if_neg h2, h3, ob_some]
  rfl
theorem item (h : CT tx text c n) {s : LyS} {m : Nat → Int32} (hs : LM s m) {x b e : Nat} (hx : x ≤ 1000) {rd : RdS} {at_ kd be va : Int32} (T : TK tx n b e rd at_ kd be va) (nums : Nat → Int32) :
    ∃ (r : Int32) (rd' : RdS) (s' : LyS) (m' : Nat → Int32) (at' kd' be' va' : Int32) (nums' : Nat → Int32), itemC tx (iI (x : Int)) rd s (bI (kd = 2)) = some (r, rd', s') ∧ f_X8_readItem m text (iI (n : Int)) at_ kd be va nums (iI (x : Int)) = some (r, m', at', kd', be', va', nums') ∧ ((r = 0 ∧ ∃ b' : Nat, b' ≤ n ∧ Rd_start rd' = iI (b' : Int) ∧ be' = iI (b' : Int)) ∨ (r = 1 ∧ LM s' m' ∧ ∃ b' e' : Nat, e ≤ b' ∧ TK tx n b' e' rd' at' kd' be' va')) := by
  obtain ⟨a, ha, hl, hm, hc⟩ := hs
  have hb := ha.b
  have T' := T
  obtain ⟨⟨t1, t2, t3⟩, ⟨ta, tb, t4, t5⟩, ⟨w0, w1, w2⟩, -, -⟩ := T'
  have fail : itemC tx (iI (x : Int)) rd s (bI (kd = 2)) = some ((0 : Int32), rd, s) → f_X8_readItem m text (iI (n : Int)) at_ kd be va nums (iI (x : Int)) = some ((0 : Int32), m, at_, kd, be, va, nums) → ∃ (r : Int32) (rd' : RdS) (s' : LyS) (m' : Nat → Int32) (at' kd' be' va' : Int32) (nums' : Nat → Int32), itemC tx (iI (x : Int)) rd s (bI (kd = 2)) = some (r, rd', s') ∧ f_X8_readItem m text (iI (n : Int)) at_ kd be va nums (iI (x : Int)) = some (r, m', at', kd', be', va', nums') ∧ ((r = 0 ∧ ∃ b' : Nat, b' ≤ n ∧ Rd_start rd' = iI (b' : Int) ∧ be' = iI (b' : Int)) ∨ (r = 1 ∧ LM s' m' ∧ ∃ b' e' : Nat, e ≤ b' ∧ TK tx n b' e' rd' at' kd' be' va')) := fun q1 q2 => ⟨0, rd, s, m, at_, kd, be, va, nums, q1, q2, Or.inl ⟨rfl, b, by omega, t4, tb⟩⟩
  have good : ∀ (r : Int32) (rd' : RdS) (s' : LyS) (m' : Nat → Int32) (at' kd' be' va' : Int32) (nums' : Nat → Int32), itemC tx (iI (x : Int)) rd s (bI (kd = 2)) = (if r = 0 then some ((0 : Int32), rd', s') else some ((1 : Int32), rd', s')) → f_X8_readItem m text (iI (n : Int)) at_ kd be va nums (iI (x : Int)) = (if r = 0 then some ((0 : Int32), m', at', kd', be', va', nums') else some ((1 : Int32), m', at', kd', be', va', nums')) → ((r = 0 ∧ ∃ b' : Nat, b' ≤ n ∧ Rd_start rd' = iI (b' : Int) ∧ be' = iI (b' : Int)) ∨ (r = 1 ∧ LM s' m' ∧ ∃ b' e' : Nat, e ≤ b' ∧ TK tx n b' e' rd' at' kd' be' va')) → ∃ (r : Int32) (rd' : RdS) (s' : LyS) (m' : Nat → Int32) (at' kd' be' va' : Int32) (nums' : Nat → Int32), itemC tx (iI (x : Int)) rd s (bI (kd = 2)) = some (r, rd', s') ∧ f_X8_readItem m text (iI (n : Int)) at_ kd be va nums (iI (x : Int)) = some (r, m', at', kd', be', va', nums') ∧ ((r = 0 ∧ ∃ b' : Nat, b' ≤ n ∧ Rd_start rd' = iI (b' : Int) ∧ be' = iI (b' : Int)) ∨ (r = 1 ∧ LM s' m' ∧ ∃ b' e' : Nat, e ≤ b' ∧ TK tx n b' e' rd' at' kd' be' va')) := by
    intro r rd' s' m' at' kd' be' va' nums' q1 q2 q3
    rcases q3 with ⟨rfl, q3⟩ | ⟨rfl, q3⟩
    · rw [if_pos rfl] at q1 q2
      exact ⟨_, _, _, _, _, _, _, _, _, q1, q2, Or.inl ⟨rfl, q3⟩⟩
    · rw [if_neg (show ¬ (1 : Int32) = 0 by decide)] at q1 q2
      exact ⟨_, _, _, _, _, _, _, _, _, q1, q2, Or.inr ⟨rfl, q3⟩⟩
  by_cases d1 : kd = 1
  · have d2 : ¬ kd = 2 := fun q => by rw [d1] at q; exact absurd q (by decide)
    by_cases dn : aN a = 12
    · refine fail ?_ ?_
      · unfold itemC
        rw [if_b, if_neg d2, w1, ob_some, if_b, if_pos d1, L_isFull hl (by omega), ob_some, if_b, if_pos dn]
      · unfold f_X8_readItem f_X8_readPiece
        rw [if_pos d1, show x_ld 88 m (2 : Int32) = _ from M_ld2 hm, ob_some, dn, if_pos (show iI ((12 : Nat) : Int) = (12 : Int32) from rfl), ob_some]
        dsimp only
        rw [x_zr0, ob_some]
    · obtain ⟨r, rd', s', m', at', kd', be', va', nums', g1, g2, g3⟩ := rpiece h ha hl hm hc (by omega) T nums
      refine good r rd' s' m' at' kd' be' va' nums' ?_ ?_ g3
      · unfold itemC
        rw [if_b, if_neg d2, w1, ob_some, if_b, if_pos d1, L_isFull hl (by omega), ob_some, if_b, if_neg dn, g1, ob_some]
        first | done | rfl
      · unfold f_X8_readItem
        rw [if_pos d1, g2, ob_some]
        dsimp only
        rcases g3 with ⟨rfl, -⟩ | ⟨rfl, -⟩
        · rw [x_zr0, ob_some, if_pos rfl]
        · rw [x_zr1, ob_some, if_neg (show ¬ (1 : Int32) = 0 by decide)]
  · by_cases d2 : kd = 2
    · by_cases dx : x = 0
      · have dx' : iI (x : Int) = 0 := by rw [dx]; rfl
        obtain ⟨r, rd', s', m', at', kd', be', va', nums', g1, g2, g3⟩ := rpage h ha hl hm hc T nums
        refine good r rd' s' m' at' kd' be' va' nums' ?_ ?_ g3
        · unfold itemC
          rw [if_b, if_pos d2, if_pos dx', g1, ob_some]
          first | done | rfl
        · unfold f_X8_readItem
          rw [if_neg d1, if_pos d2, if_pos dx', g2, ob_some]
          first | done | rfl
      · have dx' : ¬ iI (x : Int) = 0 := fun q => dx (by
          have := (iI_eq (by omega) (by omega) (by omega) (by omega)).mp (show iI (x : Int) = iI 0 from q)
          omega)
        refine fail ?_ ?_
        · unfold itemC
          rw [if_b, if_pos d2, if_neg dx']
        · unfold f_X8_readItem
          rw [if_neg d1, if_pos d2, if_neg dx']
    · refine fail ?_ ?_
      · unfold itemC
        rw [if_b, if_neg d2, w1, ob_some, if_b, if_neg d1]
      · unfold f_X8_readItem
        rw [if_neg d1, if_neg d2]
theorem items (h : CT tx text c n) : ∀ (d k1 k2 x b e : Nat) (rd : RdS) (s : LyS) (m : Nat → Int32) (at_ kd be va : Int32) (nums : Nat → Int32), TK tx n b e rd at_ kd be va → LM s m → n - b ≤ d → x ≤ b → d < k1 → d < k2 →
    ∃ RC RM, x_loop (b_X4_read_11 tx) k1 (iI (x : Int), rd, s) = some RC ∧ x_loop (b_X8_readAll_14 text (iI (n : Int))) k2 (m, at_, kd, be, va, nums, iI (x : Int)) = some RM ∧
      ((∃ (b' : Nat) (rd' : RdS) (s' : LyS) (m' : Nat → Int32) (at' kd' va' : Int32) (nums' : Nat → Int32) (it' : Int32), b' ≤ n ∧ RC = .inl (iI (-1000 - (b' : Int)), rd', s') ∧ RM = .inl (0, m', at', kd', iI (b' : Int), va', nums', it')) ∨
       (∃ (x' : Nat) (rd' : RdS) (s' : LyS) (m' : Nat → Int32) (at' kd' be' va' : Int32) (nums' : Nat → Int32), x' ≤ 120 ∧ RC = .inr (iI (x' : Int), rd', s') ∧ RM = .inr (m', at', kd', be', va', nums', iI (x' : Int)) ∧ LM s' m')) := by
  have hn := h.1
  intro d
  induction d with
  | zero =>
    intro k1 k2 x b e rd s m at_ kd be va nums T hs hd hx h1 h2
    obtain ⟨k1, rfl⟩ : ∃ g, k1 = g + 1 := ⟨k1 - 1, by omega⟩
    obtain ⟨k2, rfl⟩ : ∃ g, k2 = g + 1 := ⟨k2 - 1, by omega⟩
    have T' := T
    obtain ⟨⟨t1, t2, t3⟩, ⟨ta, tb, t4, t5⟩, -, ⟨t6, -, -⟩, -⟩ := T'
    have d7 : kd = 7 := Decidable.byContradiction (fun q => by have := t3 q; omega)
    refine ⟨_, _, xl_end (b := .inr (iI (x : Int), rd, s)) ?_, xl_end (b := .inr (m, at_, kd, be, va, nums, iI (x : Int))) ?_, Or.inr ⟨x, rd, s, m, at_, kd, be, va, nums, by omega, rfl, rfl, hs⟩⟩
    · rw [b_X4_read_11]
      exact if_pos (t6.mpr d7)
    · rw [b_X8_readAll_14]
      exact if_pos d7
  | succ d ih =>
    intro k1 k2 x b e rd s m at_ kd be va nums T hs hd hx h1 h2
    obtain ⟨k1, rfl⟩ : ∃ g, k1 = g + 1 := ⟨k1 - 1, by omega⟩
    obtain ⟨k2, rfl⟩ : ∃ g, k2 = g + 1 := ⟨k2 - 1, by omega⟩
    have T' := T
    obtain ⟨⟨t1, t2, t3⟩, ⟨ta, tb, t4, t5⟩, ⟨w0, -, -⟩, ⟨t6, -, -⟩, -⟩ := T'
    by_cases d7 : kd = 7
    · refine ⟨_, _, xl_end (b := .inr (iI (x : Int), rd, s)) ?_, xl_end (b := .inr (m, at_, kd, be, va, nums, iI (x : Int))) ?_, Or.inr ⟨x, rd, s, m, at_, kd, be, va, nums, by omega, rfl, rfl, hs⟩⟩
      · rw [b_X4_read_11]
        exact if_pos (t6.mpr d7)
      · rw [b_X8_readAll_14]
        exact if_pos d7
    · have hbe := t3 d7
      have x120 : ¬ (120 : Int32) ≤ iI (x : Int) := fun q => by
        have := (iI_le (a := 120) (by omega) (by omega) (by omega) (by omega)).mp q
        omega
      obtain ⟨r, rd', s', m', at', kd', be', va', nums', g1, g2, g3⟩ := item h hs (x := x) (by omega) T nums
      have hC := readC tx (iI (x : Int)) rd s _ (fun q => d7 (t6.mp q)) x120 w0
      rw [g1, ob_some] at hC
      dsimp only at hC
      have hM : b_X8_readAll_14 text (iI (n : Int)) (m, at_, kd, be, va, nums, iI (x : Int)) = if r = 0 then some (.inr (.inl ((0 : Int32), m', at', kd', be', va', nums', iI (x : Int)))) else (f_X8_next text (iI (n : Int)) at' kd' be' va').bind fun (s22, s23, s24, s25) => some (.inl (m', s22, s23, s24, s25, nums', iI (x : Int) + (1 : Int32))) := by
        rw [b_X8_readAll_14, if_neg d7, g2, ob_some]
        first | done | rfl
      rcases g3 with ⟨rfl, b', q1, q2, rfl⟩ | ⟨rfl, hs', b', e', q1, T2⟩
      · rw [if_pos rfl] at hC hM
        rw [q2, e1000 b'] at hC
        exact ⟨_, _, xl_end hC, xl_end hM, Or.inl ⟨b', rd', s', m', at', kd', va', nums', _, q1, rfl, rfl⟩⟩
      · obtain ⟨⟨u1, u2, u3⟩, ⟨rfl, rfl, u4, u5⟩, -, -, -⟩ := T2
        obtain ⟨at3, kd3, be3, va3, f1, rd3, b3, e3, f2, f3, T3⟩ := tok h rd' u2 u5 kd' (iI (b' : Int)) va'
        rw [if_neg (show ¬ (1 : Int32) = 0 by decide)] at hC hM
        rw [f2, ob_some, iI_suc] at hC
        rw [f1, ob_some, iI_suc] at hM
        dsimp only at hM
        obtain ⟨RC, RM, r1, r2, r3⟩ := ih k1 k2 (x + 1) b3 e3 rd3 s' m' at3 kd3 be3 va3 nums' T3 hs' (by omega) (by omega) (by omega) (by omega)
        exact ⟨RC, RM, (xl_go hC).trans r1, (xl_go hM).trans r2, r3⟩
end RI
/-! load on both sides -/
theorem q_load {s : LyS} {m : Nat → Int32} {t : HT} {st : Nat → Int32} {cnt : Int32} {tx : TxS} {text : Nat → Int32} {len : Int32} (hs : LM s m) (hH : HR t st cnt) (hT : TR tx text len) (dr : LyS) (rd : RdS) (at_ kd be va : Int32) (nums aside : Nat → Int32) (its : Int32) :
    ∃ v s' dr' t' tx' rd' m' st' cnt' len' at' kd' be' va' nums' aside' its', f_X7_load s dr t.1 t.2.1 t.2.2.1 t.2.2.2.1 t.2.2.2.2.1 t.2.2.2.2.2 tx rd = some (v, s', dr', t'.1, t'.2.1, t'.2.2.1, t'.2.2.2.1, t'.2.2.2.2.1, t'.2.2.2.2.2, tx', rd') ∧ f_X8_load m st cnt text len at_ kd be va nums aside its = some (v, m', st', cnt', len', at', kd', be', va', nums', aside', its') ∧ LM s' m' ∧ HR t' st' cnt' ∧ TR tx' text len' := by
  obtain ⟨c, n, h, rfl⟩ := hT.ct
  have hn := h.1
  -- the copies
  have cp : ∀ (B : Int32 × (Nat → Int32) → Option ((Int32 × (Nat → Int32)) ⊕ (Int32 × (Nat → Int32)))) (o g0 : Nat → Int32), (∀ x1 s2, B (x1, s2) = if (88 : Int32) ≤ x1 then some (.inr (x1, s2)) else (x_ld 88 o x1).bind fun v3 => (x_st 88 s2 x1 v3).bind fun g4 => some (.inl ((x1 + (1 : Int32)), g4))) → ∃ z g, x_loop B x_fuel ((0 : Int32), g0) = some (z, g) ∧ ∀ j, j < 88 → g j = o j := by
    intro B o g0 hB
    have key := x_for (B := B) (fun i (g : Nat → Int32) => (iI (i : Int), g)) (fun i g => ∀ j, j < i → g j = o j) 88 (fun r => ∃ z g, r = (z, g) ∧ ∀ j, j < 88 → g j = o j)
      (by
        intro i g hi hI
        left
        refine ⟨upd g i (o i), ?_, fun j hj => ?_⟩
        · rw [hB, x_ldI (j := i) rfl hi (by omega), ob_some, x_stI (j := i) rfl hi (by omega), ob_some]
          simp (disch := omega) only [iL_88, iI_le]
          rw [if_neg (by omega), iI_suc]
        · by_cases q : j = i
          · subst q; rw [upd_same]
          · rw [upd_ne _ _ q]; exact hI j (by omega))
      (by
        intro g hI
        rw [hB]
        exact ⟨_, if_pos (by decide), _, g, rfl, hI⟩)
      g0 (fun j hj => by omega) (by omega)
    obtain ⟨r, e1, z, g, rfl, hg⟩ := key
    exact ⟨z, g, e1, hg⟩
  obtain ⟨z1, as', ca1, ca2⟩ := cp (b_X8_load_2 m) m aside (fun _ _ => rfl)
  obtain ⟨d0, l1, l2⟩ := L_take dr s
  have hs0 : LM d0 m := hs.eqL l2
  obtain ⟨at1, kd1, be1, va1, f1, rd1, b1, e1, f2, f3, T1⟩ := tok h (Rd_set_end_ rd 0) (k := 0) (by omega) rfl kd be va
  obtain ⟨RC, RM, r1, r2, r3⟩ := items h (n - b1) x_fuel x_fuel 0 b1 e1 rd1 d0 m at1 kd1 be1 va1 nums T1 hs0 (Nat.le_refl _) (by omega) (by unfold x_fuel; omega) (by unfold x_fuel; omega)
  have hread : f_X4_read rd tx d0 = Sum.elim (fun r_ => some r_) (fun (x25, s26, s27) => some (x25, s26, s27)) RC := by
    unfold f_X4_read
    rw [f2, ob_some, show x_loop (b_X4_read_11 tx) x_fuel ((0 : Int32), rd1, d0) = some RC from r1, ob_some]
  have hall : f_X8_readAll m text (iI (n : Int)) at_ kd be va nums its = Sum.elim (fun r_ => some r_) (fun (s27, s28, s29, s30, s31, s32, s33) => some ((1 : Int32), s27, s28, s29, s30, s31, s32, s33)) RM := by
    unfold f_X8_readAll
    rw [show f_X8_next text (iI (n : Int)) (0 : Int32) kd be va = _ from f1, ob_some]
    dsimp only
    rw [show x_loop (b_X8_readAll_14 text (iI (n : Int))) x_fuel (m, at1, kd1, be1, va1, nums, (0 : Int32)) = some RM from r2, ob_some]
  unfold f_X7_load f_X8_load
  rw [l1, ob_some d0, hread, ca1, ob_some (z1, as')]
  dsimp only
  rw [hall]
  rcases r3 with ⟨b', rd', s', m', at', kd', va', nums', it', g1, rfl, rfl⟩ | ⟨x', rd', s', m', at', kd', be', va', nums', g1, rfl, rfl, g2⟩
  · obtain ⟨z2, m2, cb1, cb2⟩ := cp (b_X8_load_35 as') as' m' (fun _ _ => rfl)
    have neg : iI (-1000 - (b' : Int)) < 0 := (iI_lt (b := 0) (by omega) (by omega) (by omega) (by omega)).mpr (by omega)
    dsimp only [Sum.elim_inl]
    rw [ob_some (iI (-1000 - (b' : Int)), rd', s')]
    dsimp only
    rw [if_pos neg, ob_some]
    dsimp only
    rw [if_pos rfl, cb1, ob_some, e1000 b']
    exact ⟨_, s, _, t, _, _, m2, _, _, _, _, _, _, _, _, _, _, rfl, rfl, hs.eqM (fun k hk => (cb2 k hk).trans (ca2 k hk)), hH, hT⟩
  · obtain ⟨⟨t0, t1, t2, t3, t4, t5⟩, st', cnt', h1, h2, hR⟩ := HR_record hH (hs.eqM ca2)
    obtain ⟨s2, k1, k2⟩ := L_take s s'
    have neg : ¬ iI (x' : Int) < 0 := fun q => by
      have := (iI_lt (b := 0) (by omega) (by omega) (by omega) (by omega)).mp q
      omega
    dsimp only [Sum.elim_inr]
    rw [ob_some (iI (x' : Int), rd', s')]
    dsimp only
    rw [if_neg neg, ob_some]
    dsimp only
    rw [if_neg (show ¬ (1 : Int32) = 0 by decide), aside_eq, h2, h1, ob_some (t0, t1, t2, t3, t4, t5), ob_some (st', cnt')]
    dsimp only
    rw [k1, ob_some s2]
    unfold f_X6_clear
    rw [ob_some]
    exact ⟨_, s2, _, (t0, t1, t2, t3, t4, t5), _, _, m', _, _, _, _, _, _, _, _, _, _, rfl, rfl, g2.eqL k2, hR, 0, by omega, rfl, rfl, fun k hk => by omega⟩
