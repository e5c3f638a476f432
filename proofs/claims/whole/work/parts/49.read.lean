/-! a piece, a page: read on both sides -/
section RQ
variable {tx : TxS} {text : Nat → Int32} {c : Nat → Int} {n : Nat}
theorem rpiece (h : CT tx text c n) {a : AL} (ha : AOK a) {s : LyS} {m : Nat → Int32} (hl : LOK s a) (hm : MOK m a) (hc : L_cost s = m 3) (hn : aN a < 12) {b e : Nat} {rd : RdS} {at_ kd be va : Int32} (T : TK tx n b e rd at_ kd be va) (nums : Nat → Int32) :
    ∃ (r : Int32) (rd' : RdS) (s' : LyS) (m' : Nat → Int32) (at' kd' be' va' : Int32) (nums' : Nat → Int32), f_X4_readPiece rd tx s = some (r, rd', s') ∧ f_X8_readPiece m text (iI (n : Int)) at_ kd be va nums = some (r, m', at', kd', be', va', nums') ∧ ((r = 0 ∧ ∃ b' : Nat, b' ≤ n ∧ Rd_start rd' = iI (b' : Int) ∧ be' = iI (b' : Int)) ∨ (r = 1 ∧ LM s' m' ∧ ∃ b' e' : Nat, e ≤ b' ∧ TK tx n b' e' rd' at' kd' be' va')) := by
  have key : ∀ RC RM, RC = f_X4_readPiece rd tx s → RM = f_X8_readPiece m text (iI (n : Int)) at_ kd be va nums → ∃ (r : Int32) (rd' : RdS) (s' : LyS) (m' : Nat → Int32) (at' kd' be' va' : Int32) (nums' : Nat → Int32), RC = some (r, rd', s') ∧ RM = some (r, m', at', kd', be', va', nums') ∧ ((r = 0 ∧ ∃ b' : Nat, b' ≤ n ∧ Rd_start rd' = iI (b' : Int) ∧ be' = iI (b' : Int)) ∨ (r = 1 ∧ LM s' m' ∧ ∃ b' e' : Nat, e ≤ b' ∧ TK tx n b' e' rd' at' kd' be' va')) := by
    intro RC RM hC hM
    obtain ⟨⟨t1, t2, t3⟩, ⟨rfl, rfl, t4, t5⟩, -⟩ := T
    obtain ⟨sa, f0, ka, ca⟩ := L_addBlank hl hn
    obtain ⟨at1, kd1, be1, va1, g0, N0⟩ := tok h rd t2 t5 kd (iI (b : Int)) va
    rw [M_readPiece hm hn, g0, ob_some] at hM
    dsimp only at hM
    unfold f_X4_readPiece at hC
    rw [f0, ob_some] at hC
    dsimp only at hC
    rcases five h hn 5 0 rfl e rd at1 kd1 be1 va1 nums sa (fun _ => 0) N0 ka (fun i hi => by omega) rfl x_fuel (by unfold x_fuel; omega) with ⟨rd', s', b', at', kd', be', va', nums', f1, f2, f3, f4, f5⟩ | ⟨x, rd1, s1, P, k', at', kd', be', va', nums', f1, f2, f3, N1, k1, c1, hP, h5⟩
    · have f1' : x_loop (b_X4_readPiece_7 tx (iI (aN a : Int))) x_fuel ((0 : Int32), rd, sa) = some (.inl ((0 : Int32), rd', s')) := f1
      rw [f1', ob_some] at hC
      rw [f2, ob_some] at hM
      dsimp only at hM
      rw [if_pos rfl] at hM
      exact ⟨0, rd', s', m, at', kd', be', va', nums', hC, hM, Or.inl ⟨rfl, b', f3, f4, f5⟩⟩
    · have f1' : x_loop (b_X4_readPiece_7 tx (iI (aN a : Int))) x_fuel ((0 : Int32), rd, sa) = some (.inr (x, rd1, s1)) := f1
      rw [f1', ob_some] at hC
      dsimp only [Sum.elim_inr] at hC
      rw [f2, ob_some] at hM
      dsimp only at hM
      rw [if_neg (show ¬ (1 : Int32) = 0 by decide)] at hM
      obtain ⟨rd2, b2, e2, n1, hkb, T2⟩ := N1
      have T2' := T2
      obtain ⟨⟨u1, u2, u3⟩, ⟨ua, ub, u4, u5⟩, ⟨-, -, u6⟩, -, -⟩ := T2'
      rw [n1, ob_some, u6, ob_some, if_b] at hC
      have fin : ∀ (fr : Int) (rd3 : RdS) (s3 : LyS) (b3 e3 : Nat) (a3 k3 be3 va3 : Int32) (nums3 : Nat → Int32), TK tx n b3 e3 rd3 a3 k3 be3 va3 → e ≤ b3 → LOK s3 (aAdd a (fun k => if k = 5 then fr else P k)) → L_cost s3 = L_cost s → 0 ≤ fr ∧ fr ≤ 3 → (∀ i : Nat, i < 5 → nums3 i = iI (P i)) → RC = (if Rd_kind rd3 = (3 : Int32) then some ((1 : Int32), rd3, s3) else some ((0 : Int32), rd3, s3)) → RM = (if k3 = (6 : Int32) then
        (x_ld 6 nums3 (0 : Int32)).bind fun v67 =>
        (x_ld 6 nums3 (1 : Int32)).bind fun v68 =>
        (x_ld 6 nums3 (2 : Int32)).bind fun v69 =>
        (x_ld 6 nums3 (3 : Int32)).bind fun v70 =>
        (x_ld 6 nums3 (4 : Int32)).bind fun v71 =>
        (f_X8_adds m v67 v68 v69 v70 v71 (iI fr)).bind fun s72 =>
        some ((1 : Int32), s72, a3, k3, be3, va3, nums3)
      else
        some ((0 : Int32), m, a3, k3, be3, va3, nums3)) → ∃ (r : Int32) (rd' : RdS) (s' : LyS) (m' : Nat → Int32) (at' kd' be' va' : Int32) (nums' : Nat → Int32), RC = some (r, rd', s') ∧ RM = some (r, m', at', kd', be', va', nums') ∧ ((r = 0 ∧ ∃ b' : Nat, b' ≤ n ∧ Rd_start rd' = iI (b' : Int) ∧ be' = iI (b' : Int)) ∨ (r = 1 ∧ LM s' m' ∧ ∃ b' e' : Nat, e ≤ b' ∧ TK tx n b' e' rd' at' kd' be' va')) := by
        intro fr rd3 s3 b3 e3 a3 k3 be3 va3 nums3 T3 heb hL3 hc3 hfr hnum hC3 hM3
        have T3' := T3
        obtain ⟨⟨v1, v2, v3⟩, ⟨va', vb, v4, v5⟩, -, ⟨-, -, v6⟩, -⟩ := T3'
        by_cases d : k3 = 6
        · obtain ⟨v, hv⟩ : ∃ v : Nat → Int, v = fun k => if k = 5 then fr else P k := ⟨_, rfl⟩
          have w0 : v 0 = P 0 := by rw [hv]; rfl
          have w1 : v 1 = P 1 := by rw [hv]; rfl
          have w2 : v 2 = P 2 := by rw [hv]; rfl
          have w3 : v 3 = P 3 := by rw [hv]; rfl
          have w4 : v 4 = P 4 := by rw [hv]; rfl
          have w5 : v 5 = fr := by rw [hv]; rfl
          have p0 : -20 ≤ P 0 ∧ P 0 ≤ 40 := (hP 0 (by omega)).2
          have p1 : -20 ≤ P 1 ∧ P 1 ≤ 40 := (hP 1 (by omega)).2
          have p2 : 1 ≤ P 2 ∧ P 2 ≤ 12 := (hP 2 (by omega)).2
          have p3 : 1 ≤ P 3 ∧ P 3 ≤ 12 := (hP 3 (by omega)).2
          have p4 : 0 ≤ P 4 ∧ P 4 ≤ 100 := (hP 4 (by omega)).2
          have hPV : PV v := by
            unfold PV
            rw [w0, w1, w2, w3, w4, w5]
            omega
          rw [← hv] at hL3
          obtain ⟨m', g1, g2, g3⟩ := M_adds hm hn v
          rw [w0, w1, w2, w3, w4, w5] at g1
          rw [if_pos (v6.mpr d)] at hC3
          rw [if_pos d, show x_ld 6 nums3 (0 : Int32) = some (nums3 0) from x_ldI (k := 0) (j := 0) rfl (by omega) (by omega), ob_some, show x_ld 6 nums3 (1 : Int32) = some (nums3 1) from x_ldI (k := 1) (j := 1) rfl (by omega) (by omega), ob_some, show x_ld 6 nums3 (2 : Int32) = some (nums3 2) from x_ldI (k := 2) (j := 2) rfl (by omega) (by omega), ob_some, show x_ld 6 nums3 (3 : Int32) = some (nums3 3) from x_ldI (k := 3) (j := 3) rfl (by omega) (by omega), ob_some, show x_ld 6 nums3 (4 : Int32) = some (nums3 4) from x_ldI (k := 4) (j := 4) rfl (by omega) (by omega), ob_some, hnum 0 (by omega), hnum 1 (by omega), hnum 2 (by omega), hnum 3 (by omega), hnum 4 (by omega), g1, ob_some] at hM3
          exact ⟨1, rd3, s3, m', a3, k3, be3, va3, nums3, hC3, hM3, Or.inr ⟨rfl, ⟨_, aAdd_AOK ha hn hPV, hL3, g2, hc3.trans (hc.trans g3.symm)⟩, b3, e3, heb, T3⟩⟩
        · rw [if_neg (fun q => d (v6.mp q))] at hC3
          rw [if_neg d] at hM3
          exact ⟨0, rd3, s3, m, a3, k3, be3, va3, nums3, hC3, hM3, Or.inl ⟨rfl, b3, by omega, v4, vb⟩⟩
      by_cases d : kd' = 3
      · rw [if_pos d] at hC hM
        rw [show f_X7_at_tL (5 : Int32) = _ from at_tL (w := 5) (by omega), ob_some, show f_X7_at_tH (5 : Int32) = _ from at_tH (w := 5) (by omega), ob_some] at hC
        obtain ⟨at4, kd4, be4, va4, g4, N4⟩ := tok h rd2 u2 u5 kd' be' va'
        rw [ua, g4, ob_some] at hM
        dsimp only at hM
        rcases tkn h N4 nums' (w := 5) (by omega) (lohi (w := 5) (by omega)) with ⟨rd', b', q1, q2, q3, q4, q5⟩ | ⟨rd3, v, at5, kd5, be5, va5, k5, q1, q2, q3, q4, q5, q6, N5⟩
        · rw [q1, ob_some] at hC
          dsimp only at hC
          rw [if_pos rfl, ob_some] at hC
          rw [show f_X8_takes text (iI (n : Int)) at4 kd4 be4 va4 nums' (5 : Int32) (0 : Int32) (3 : Int32) = _ from q5, ob_some] at hM
          dsimp only at hM
          rw [if_pos rfl, ob_some] at hM
          exact ⟨0, rd', s1, m, at4, kd4, be4, va4, _, hC, hM, Or.inl ⟨rfl, b', q4, q2, q3⟩⟩
        · obtain ⟨s2, r1, r2, r3⟩ := L_setNew k1 hn (j := 5) (by omega) v
          obtain ⟨rd5, b5, e5, n5, hkb5, T5⟩ := N5
          rw [q1, ob_some] at hC
          dsimp only at hC
          rw [if_neg (show ¬ (1 : Int32) = 0 by decide), q2, show f_X1_set s1 (iI (aN a : Int)) (5 : Int32) (iI v) = _ from r1, ob_some, n5, ob_some, ob_some] at hC
          dsimp only [Sum.elim_inr] at hC
          rw [show f_X8_takes text (iI (n : Int)) at4 kd4 be4 va4 nums' (5 : Int32) (0 : Int32) (3 : Int32) = _ from q5, ob_some] at hM
          dsimp only at hM
          rw [if_neg (show ¬ (1 : Int32) = 0 by decide), show x_ld 6 (upd nums' 5 (iI v)) (5 : Int32) = some (iI v) from (x_ldI (k := 5) (j := 5) rfl (by omega) (by omega)).trans (congrArg some (upd_same nums' 5 (iI v))), ob_some, ob_some] at hM
          dsimp only [Sum.elim_inr] at hM
          exact fin v rd5 s2 b5 e5 at5 kd5 be5 va5 (upd nums' 5 (iI v)) T5 (by omega) r2 (r3.trans (c1.trans ca)) ⟨q3, q4⟩ (fun i hi => by rw [upd_ne _ _ (by omega)]; exact (hP i hi).1) hC hM
      · rw [if_neg d, ob_some] at hC hM
        dsimp only [Sum.elim_inr] at hC hM
        have hP5 : (fun k => if k = 5 then (0 : Int) else P k) = P := by
          funext k
          by_cases q : k = 5
          · rw [if_pos q, q, h5]
          · rw [if_neg q]
        exact fin 0 rd2 s1 b2 e2 at' kd' be' va' nums' T2 (by omega) (by rw [hP5]; exact k1) (c1.trans ca) (by omega) (fun i hi => (hP i hi).1) hC hM
  exact key _ _ rfl rfl
theorem rpage (h : CT tx text c n) {a : AL} (ha : AOK a) {s : LyS} {m : Nat → Int32} (hl : LOK s a) (hm : MOK m a) (hc : L_cost s = m 3) {b e : Nat} {rd : RdS} {at_ kd be va : Int32} (T : TK tx n b e rd at_ kd be va) (nums : Nat → Int32) :
    ∃ (r : Int32) (rd' : RdS) (s' : LyS) (m' : Nat → Int32) (at' kd' be' va' : Int32) (nums' : Nat → Int32), f_X4_readPage rd tx s = some (r, rd', s') ∧ f_X8_readPage m text (iI (n : Int)) at_ kd be va nums = some (r, m', at', kd', be', va', nums') ∧ ((r = 0 ∧ ∃ b' : Nat, b' ≤ n ∧ Rd_start rd' = iI (b' : Int) ∧ be' = iI (b' : Int)) ∨ (r = 1 ∧ LM s' m' ∧ ∃ b' e' : Nat, e ≤ b' ∧ TK tx n b' e' rd' at' kd' be' va')) := by
  have key : ∀ RC RM, RC = f_X4_readPage rd tx s → RM = f_X8_readPage m text (iI (n : Int)) at_ kd be va nums → ∃ (r : Int32) (rd' : RdS) (s' : LyS) (m' : Nat → Int32) (at' kd' be' va' : Int32) (nums' : Nat → Int32), RC = some (r, rd', s') ∧ RM = some (r, m', at', kd', be', va', nums') ∧ ((r = 0 ∧ ∃ b' : Nat, b' ≤ n ∧ Rd_start rd' = iI (b' : Int) ∧ be' = iI (b' : Int)) ∨ (r = 1 ∧ LM s' m' ∧ ∃ b' e' : Nat, e ≤ b' ∧ TK tx n b' e' rd' at' kd' be' va')) := by
    intro RC RM hC hM
    have hb := ha.b
    obtain ⟨⟨t1, t2, t3⟩, ⟨rfl, rfl, t4, t5⟩, -⟩ := T
    obtain ⟨at1, kd1, be1, va1, g0, N0⟩ := tok h rd t2 t5 kd (iI (b : Int)) va
    unfold f_X8_readPage at hM
    unfold f_X4_readPage at hC
    rw [g0, ob_some] at hM
    dsimp only at hM
    rcases tkn h N0 nums (w := 0) (by omega) (lo := 4) (hi := 24) (by omega) with ⟨rd', b', q1, q2, q3, q4, q5⟩ | ⟨rd1, v, at2, kd2, be2, va2, k2, q1, q2, q3, q4, q5, q6, N1⟩
    · rw [show f_X4_isNextNumber rd tx (4 : Int32) (24 : Int32) = _ from q1, ob_some] at hC
      rw [show f_X8_takes text (iI (n : Int)) at1 kd1 be1 va1 nums (0 : Int32) (4 : Int32) (24 : Int32) = _ from q5, ob_some] at hM
      dsimp only at hC hM
      rw [if_pos rfl] at hC hM
      exact ⟨0, rd', s, m, at1, kd1, be1, va1, _, hC, hM, Or.inl ⟨rfl, b', q4, q2, q3⟩⟩
    · rw [show f_X4_isNextNumber rd tx (4 : Int32) (24 : Int32) = _ from q1, ob_some] at hC
      rw [show f_X8_takes text (iI (n : Int)) at1 kd1 be1 va1 nums (0 : Int32) (4 : Int32) (24 : Int32) = _ from q5, ob_some] at hM
      dsimp only at hC hM
      rw [if_neg (show ¬ (1 : Int32) = 0 by decide)] at hC hM
      rcases tkn h N1 (upd nums 0 (iI v)) (w := 1) (by omega) (lo := 4) (hi := 24) (by omega) with ⟨rd', b', p1, p2, p3, p4, p5⟩ | ⟨rd2, u, at3, kd3, be3, va3, k3, p1, p2, p3, p4, p5, p6, N2⟩
      · rw [show f_X4_isNextNumber rd1 tx (4 : Int32) (24 : Int32) = _ from p1, ob_some] at hC
        rw [show f_X8_takes text (iI (n : Int)) at2 kd2 be2 va2 (upd nums 0 (iI v)) (1 : Int32) (4 : Int32) (24 : Int32) = _ from p5, ob_some] at hM
        dsimp only at hC hM
        rw [if_pos rfl] at hC hM
        exact ⟨0, rd', s, m, at2, kd2, be2, va2, _, hC, hM, Or.inl ⟨rfl, b', p4, p2, p3⟩⟩
      · rw [show f_X4_isNextNumber rd1 tx (4 : Int32) (24 : Int32) = _ from p1, ob_some] at hC
        rw [show f_X8_takes text (iI (n : Int)) at2 kd2 be2 va2 (upd nums 0 (iI v)) (1 : Int32) (4 : Int32) (24 : Int32) = _ from p5, ob_some] at hM
        dsimp only at hC hM
        rw [if_neg (show ¬ (1 : Int32) = 0 by decide)] at hC hM
        obtain ⟨v', rfl⟩ : ∃ v' : Nat, (v' : Int) = v := ⟨v.toNat, by omega⟩
        obtain ⟨u', rfl⟩ : ∃ u' : Nat, (u' : Int) = u := ⟨u.toNat, by omega⟩
        obtain ⟨er, hlr⟩ := L_resize hl v' u'
        obtain ⟨rd3, b3, e3, n3, hkb3, T3⟩ := N2
        have T3' := T3
        obtain ⟨⟨v1, v2, v3⟩, ⟨va', vb, v4, v5⟩, -, ⟨-, -, v6⟩, -⟩ := T3'
        rw [q2, p2, er, ob_some, n3, ob_some] at hC
        by_cases d : kd3 = 6
        · have hA : AOK ((v', u', aN a), a.2) := ⟨⟨by show 4 ≤ v'; omega, by show v' ≤ 24; omega, by show 4 ≤ u'; omega, by show u' ≤ 24; omega, hb.2.2.2.2⟩, ha.2.1, ha.2.2.1, ha.2.2.2.1, ha.2.2.2.2⟩
          have hmr : MOK (upd (upd m 0 (iI (v' : Int))) 1 (iI (u' : Int))) ((v', u', aN a), a.2) := ⟨by rw [upd_ne _ _ (by omega), upd_same]; rfl, by rw [upd_same]; rfl, by rw [upd_ne _ _ (by omega), upd_ne _ _ (by omega)]; exact hm.n, fun p w hp hw => by rw [upd_ne _ _ (by omega), upd_ne _ _ (by omega)]; exact hm.p hp hw, fun l hl => by rw [upd_ne _ _ (by omega), upd_ne _ _ (by omega)]; exact hm.o hl⟩
          obtain ⟨N, hN⟩ : ∃ N, N = upd (upd nums 0 (iI (v' : Int))) 1 (iI (u' : Int)) := ⟨_, rfl⟩
          have N0 : N 0 = iI (v' : Int) := by rw [hN, upd_ne _ _ (by omega), upd_same]
          have N1 : N 1 = iI (u' : Int) := by rw [hN, upd_same]
          rw [if_pos (v6.mpr d)] at hC
          rw [← hN, if_pos d, show x_ld 6 N (0 : Int32) = some (N 0) from x_ldI (k := 0) (j := 0) rfl (by omega) (by omega), ob_some, N0, show x_st 88 m (0 : Int32) (iI (v' : Int)) = some (upd m 0 (iI (v' : Int))) from x_stI (k := 0) (j := 0) rfl (by omega) (by omega), ob_some, show x_ld 6 N (1 : Int32) = some (N 1) from x_ldI (k := 1) (j := 1) rfl (by omega) (by omega), ob_some, N1, show x_st 88 (upd m 0 (iI (v' : Int))) (1 : Int32) (iI (u' : Int)) = some (upd (upd m 0 (iI (v' : Int))) 1 (iI (u' : Int))) from x_stI (k := 1) (j := 1) rfl (by omega) (by omega), ob_some] at hM
          exact ⟨1, rd3, _, _, at3, kd3, be3, va3, _, hC, hM, Or.inr ⟨rfl, ⟨_, hA, hlr, hmr, by rw [upd_ne _ _ (by omega), upd_ne _ _ (by omega)]; exact hc⟩, b3, e3, by omega, T3⟩⟩
        · rw [if_neg (fun q => d (v6.mp q))] at hC
          rw [if_neg d] at hM
          exact ⟨0, rd3, _, m, at3, kd3, be3, va3, _, hC, hM, Or.inl ⟨rfl, b3, by omega, v4, vb⟩⟩
  exact key _ _ rfl rfl
end RQ
