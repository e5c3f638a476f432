/-! a number that must be next, on both sides; the five numbers of a piece -/
section RP
variable {tx : TxS} {text : Nat → Int32} {c : Nat → Int} {n : Nat}
theorem tkn (h : CT tx text c n) {k : Nat} {rd : RdS} {at_ kd be va : Int32} (hN : NX tx n k rd at_ kd be va) (nums : Nat → Int32) {w : Nat} (hw : w < 6) {lo hi : Int} (hl : -900 ≤ lo ∧ lo ≤ 900 ∧ -900 ≤ hi ∧ hi ≤ 900) :
    (∃ (rd' : RdS) (b : Nat), f_X4_isNextNumber rd tx (iI lo) (iI hi) = some (0, rd') ∧ Rd_start rd' = iI (b : Int) ∧ be = iI (b : Int) ∧ b ≤ n ∧ f_X8_takes text (iI (n : Int)) at_ kd be va nums (iI (w : Int)) (iI lo) (iI hi) = some (0, at_, kd, be, va, upd nums w va)) ∨
    (∃ (rd' : RdS) (v : Int) (at' kd' be' va' : Int32) (k' : Nat), f_X4_isNextNumber rd tx (iI lo) (iI hi) = some (1, rd') ∧ Rd_value rd' = iI v ∧ lo ≤ v ∧ v ≤ hi ∧ f_X8_takes text (iI (n : Int)) at_ kd be va nums (iI (w : Int)) (iI lo) (iI hi) = some (1, at', kd', be', va', upd nums w (iI v)) ∧ k ≤ k' ∧ NX tx n k' rd' at' kd' be' va') := by
  obtain ⟨rd', b, e, e1, hkb, ⟨t1, t2, t3⟩, ⟨rfl, rfl, t4, t5⟩, -, ⟨-, t6, -⟩, t7⟩ := hN
  by_cases d : kd = 5
  · obtain ⟨u, v, hu, rfl, v1, v2, v3, v4, v5⟩ := t7 d
    by_cases q : lo ≤ v ∧ v ≤ hi
    · have huv : u = v := by omega
      subst huv
      right
      obtain ⟨at', kd', be', va', g1, g2⟩ := tok h rd' t2 t5 kd (iI (b : Int)) (iI u)
      refine ⟨rd', u, at', kd', be', va', e, ?_, hu, q.1, q.2, ?_, by omega, g2⟩
      · unfold f_X4_isNextNumber
        rw [e1, ob_some, if_pos (t6.mpr d), hu, F_isWithin (by omega) (by omega) (by omega), ob_some, if_b, if_pos q]
      · unfold f_X8_takes
        rw [if_pos d, M_in (by omega) (by omega) (by omega), ob_some, if_b, if_pos q, ob_some, x_stI rfl hw (by omega), ob_some, if_neg (show ¬ (1 : Int32) = 0 by decide), g1, ob_some]
        dsimp only
        rw [x_zr1, ob_some]
    · have hu' : ¬ (lo ≤ u ∧ u ≤ hi) := by omega
      left
      refine ⟨rd', b, ?_, t4, rfl, by omega, ?_⟩
      · unfold f_X4_isNextNumber
        rw [e1, ob_some, if_pos (t6.mpr d), hu, F_isWithin (by omega) (by omega) (by omega), ob_some, if_b, if_neg hu']
      · unfold f_X8_takes
        rw [if_pos d, M_in (by omega) (by omega) (by omega), ob_some, if_b, if_neg q, ob_some, x_stI rfl hw (by omega), ob_some, if_pos rfl, x_zr0, ob_some]
  · left
    refine ⟨rd', b, ?_, t4, rfl, by omega, ?_⟩
    · unfold f_X4_isNextNumber
      rw [e1, ob_some, if_neg (fun q => d (t6.mp q))]
    · unfold f_X8_takes
      rw [if_neg d, ob_some, x_stI rfl hw (by omega), ob_some, if_pos rfl, x_zr0, ob_some]
theorem at_tL {w : Nat} (hw : w < 6) : f_X7_at_tL (iI (w : Int)) = some (iI (loI w)) := by
  unfold f_X7_at_tL
  simp (disch := omega) only [iL_0, iL_6, iI_lt, iI_le]
  rw [if_neg (by omega), if_neg (by omega), x_ldI rfl hw (by omega), ob_some]
  rcases (show w = 0 ∨ w = 1 ∨ w = 2 ∨ w = 3 ∨ w = 4 ∨ w = 5 by omega) with rfl | rfl | rfl | rfl | rfl | rfl <;> rfl
theorem at_tH {w : Nat} (hw : w < 6) : f_X7_at_tH (iI (w : Int)) = some (iI (hiI w)) := by
  unfold f_X7_at_tH
  simp (disch := omega) only [iL_0, iL_6, iI_lt, iI_le]
  rw [if_neg (by omega), if_neg (by omega), x_ldI rfl hw (by omega), ob_some]
  rcases (show w = 0 ∨ w = 1 ∨ w = 2 ∨ w = 3 ∨ w = 4 ∨ w = 5 by omega) with rfl | rfl | rfl | rfl | rfl | rfl <;> rfl
theorem lohi {w : Nat} (hw : w < 6) : -900 ≤ loI w ∧ loI w ≤ 900 ∧ -900 ≤ hiI w ∧ hiI w ≤ 900 := by
  rcases (show w = 0 ∨ w = 1 ∨ w = 2 ∨ w = 3 ∨ w = 4 ∨ w = 5 by omega) with rfl | rfl | rfl | rfl | rfl | rfl <;> decide
/-- a property of the new piece -/
theorem L_setNew {s : LyS} {a : AL} {P : Nat → Int} (h : LOK s (aAdd a P)) (hn : aN a < 12) {j : Nat} (hj : j < 6) (v : Int) : ∃ s', f_X1_set s (iI (aN a : Int)) (iI (j : Int)) (iI v) = some s' ∧ LOK s' (aAdd a (fun k => if k = j then v else P k)) ∧ L_cost s' = L_cost s := by
  obtain ⟨s', e1, e2, e3⟩ := L_set h (show aN a + 1 ≤ 12 by omega) (p := aN a) (w := j) (show aN a < aN a + 1 by omega) hj (wi := (j : Int)) (v := v) rfl
  refine ⟨s', e1, e2.congr rfl (fun i u hi hu => ?_) (fun l hl => rfl), e3⟩
  rw [aSet_P]
  show (if i = aN a ∧ u = j then v else if i = aN a then P u else aP a i u) = if i = aN a then (if u = j then v else P u) else aP a i u
  by_cases q : i = aN a
  · rw [if_pos q, if_pos q]
    by_cases q2 : u = j
    · rw [if_pos ⟨q, q2⟩, if_pos q2]
    · rw [if_neg (fun z => q2 z.2), if_neg q2]
  · rw [if_neg (fun z => q z.1), if_neg q, if_neg q]
/-- the reference's numbers of a piece, from the j-th on, d of them -/
def Mc (text : Nat → Int32) (nn : Int32) : Nat → Nat → Int32 → Int32 → Int32 → Int32 → (Nat → Int32) → Option (Int32 × Int32 × Int32 × Int32 × Int32 × (Nat → Int32))
  | 0, _, at_, kd, be, va, nums => some (1, at_, kd, be, va, nums)
  | d + 1, j, at_, kd, be, va, nums => (f_X8_takes text nn at_ kd be va nums (iI (j : Int)) (iI (loI j)) (iI (hiI j))).bind fun (r, s8, s9, s10, s11, s12) => if r = 0 then some ((0 : Int32), s8, s9, s10, s11, s12) else Mc text nn d (j + 1) s8 s9 s10 s11 s12
theorem five (h : CT tx text c n) {a : AL} (hn : aN a < 12) : ∀ d j : Nat, j + d = 5 → ∀ (k : Nat) (rd : RdS) (at_ kd be va : Int32) (nums : Nat → Int32) (s1 : LyS) (P : Nat → Int), NX tx n k rd at_ kd be va → LOK s1 (aAdd a P) → (∀ i : Nat, i < j → nums i = iI (P i) ∧ loI i ≤ P i ∧ P i ≤ hiI i) → P 5 = 0 → ∀ f : Nat, d < f →
    (∃ (rd' : RdS) (s' : LyS) (b' : Nat) (at' kd' be' va' : Int32) (nums' : Nat → Int32), x_loop (b_X4_readPiece_7 tx (iI (aN a : Int))) f (iI (j : Int), rd, s1) = some (.inl ((0 : Int32), rd', s')) ∧ Mc text (iI (n : Int)) d j at_ kd be va nums = some (0, at', kd', be', va', nums') ∧ b' ≤ n ∧ Rd_start rd' = iI (b' : Int) ∧ be' = iI (b' : Int)) ∨
    (∃ (x : Int32) (rd' : RdS) (s' : LyS) (P' : Nat → Int) (k' : Nat) (at' kd' be' va' : Int32) (nums' : Nat → Int32), x_loop (b_X4_readPiece_7 tx (iI (aN a : Int))) f (iI (j : Int), rd, s1) = some (.inr (x, rd', s')) ∧ Mc text (iI (n : Int)) d j at_ kd be va nums = some (1, at', kd', be', va', nums') ∧ k ≤ k' ∧ NX tx n k' rd' at' kd' be' va' ∧ LOK s' (aAdd a P') ∧ L_cost s' = L_cost s1 ∧ (∀ i : Nat, i < 5 → nums' i = iI (P' i) ∧ loI i ≤ P' i ∧ P' i ≤ hiI i) ∧ P' 5 = 0) := by
  intro d
  induction d with
  | zero =>
    intro j hj k rd at_ kd be va nums s1 P hN hL hP h5 f hf
    obtain ⟨f, rfl⟩ : ∃ g, f = g + 1 := ⟨f - 1, by omega⟩
    right
    have hj5 : j = 5 := by omega
    subst hj5
    refine ⟨iI ((5 : Nat) : Int), rd, s1, P, k, at_, kd, be, va, nums, xl_end ?_, rfl, Nat.le_refl _, hN, hL, rfl, hP, h5⟩
    rw [b_X4_readPiece_7]
    exact if_pos (by decide)
  | succ d ih =>
    intro j hj k rd at_ kd be va nums s1 P hN hL hP h5 f hf
    obtain ⟨f, rfl⟩ : ∃ g, f = g + 1 := ⟨f - 1, by omega⟩
    have hj5 : j < 5 := by omega
    have hB : b_X4_readPiece_7 tx (iI (aN a : Int)) (iI (j : Int), rd, s1) = (f_X4_isNextNumber rd tx (iI (loI j)) (iI (hiI j))).bind fun (r11, s12) => if r11 = 0 then some (.inr (.inl ((0 : Int32), s12, s1))) else (f_X1_set s1 (iI (aN a : Int)) (iI (j : Int)) (Rd_value s12)).bind fun s14 => some (.inl ((iI (j : Int) + (1 : Int32)), s12, s14)) := by
      rw [b_X4_readPiece_7]
      simp (disch := omega) only [iL_4, iI_lt]
      rw [if_neg (by omega), at_tL (by omega), ob_some, at_tH (by omega), ob_some]
      first | done | rfl
    rcases tkn h hN nums (w := j) (by omega) (lohi (w := j) (by omega)) with ⟨rd', b, e1, e2, e3, e4, e5⟩ | ⟨rd', v, at', kd', be', va', k', e1, e2, e3, e4, e5, e6, e7⟩
    · left
      rw [e1, ob_some] at hB
      have hB : b_X4_readPiece_7 tx (iI (aN a : Int)) (iI (j : Int), rd, s1) = some (.inr (.inl ((0 : Int32), rd', s1))) := hB
      refine ⟨rd', s1, b, at_, kd, be, va, upd nums j va, xl_end hB, ?_, e4, e2, e3⟩
      rw [Mc, e5, ob_some]
      exact if_pos rfl
    · obtain ⟨s', g1, g2, g3⟩ := L_setNew hL hn (j := j) (by omega) v
      rw [e1, ob_some] at hB
      have hB : b_X4_readPiece_7 tx (iI (aN a : Int)) (iI (j : Int), rd, s1) = (f_X1_set s1 (iI (aN a : Int)) (iI (j : Int)) (Rd_value rd')).bind fun s14 => some (.inl ((iI (j : Int) + (1 : Int32)), rd', s14)) := hB
      rw [e2, g1, ob_some, iI_suc] at hB
      have hM : Mc text (iI (n : Int)) (d + 1) j at_ kd be va nums = Mc text (iI (n : Int)) d (j + 1) at' kd' be' va' (upd nums j (iI v)) := by
        rw [Mc, e5, ob_some]
        exact if_neg (by decide)
      have hP' : ∀ i : Nat, i < j + 1 → upd nums j (iI v) i = iI (if i = j then v else P i) ∧ loI i ≤ (if i = j then v else P i) ∧ (if i = j then v else P i) ≤ hiI i := by
        intro i hi
        by_cases q : i = j
        · subst q
          rw [upd_same, if_pos rfl]
          exact ⟨rfl, e3, e4⟩
        · rw [upd_ne _ _ q, if_neg q]
          exact hP i (by omega)
      rcases ih (j + 1) (by omega) k' rd' at' kd' be' va' (upd nums j (iI v)) s' (fun i => if i = j then v else P i) e7 g2 hP' (by rw [← h5]; exact if_neg (by omega)) f (by omega) with ⟨rd2, s2, b2, a2, k2, b3, v2, n2, f1, f2, f3⟩ | ⟨x, rd2, s2, P2, kk, a2, k2, b3, v2, n2, f1, f2, f3, f4, f5, f6, f7, f8⟩
      · left
        exact ⟨rd2, s2, b2, a2, k2, b3, v2, n2, (xl_go hB).trans f1, hM.trans f2, f3⟩
      · right
        exact ⟨x, rd2, s2, P2, kk, a2, k2, b3, v2, n2, (xl_go hB).trans f1, hM.trans f2, by omega, f4, f5, f6.trans g3, f7, f8⟩
/-- what the reference does of a piece behind the word -/
theorem M_readPiece {m : Nat → Int32} {a : AL} (hm : MOK m a) (hn : aN a < 12) (nn at_ kd be va : Int32) (nums : Nat → Int32) : f_X8_readPiece m text nn at_ kd be va nums = (f_X8_next text nn at_ kd be va).bind fun (s2, s3, s4, s5) => (Mc text nn 5 0 s2 s3 s4 s5 nums).bind fun (x14, s15, s16, s17, s18, s19) =>
    if x14 = 0 then
      some ((0 : Int32), m, s15, s16, s17, s18, s19)
    else
      ((
        if s16 = (3 : Int32) then
          (f_X8_next text nn s15 s16 s17 s18).bind fun (s54, s55, s56, s57) =>
          (f_X8_takes text nn s54 s55 s56 s57 s19 (5 : Int32) (0 : Int32) (3 : Int32)).bind fun (r59, s60, s61, s62, s63, s64) =>
          if r59 = 0 then
            some (.inl ((0 : Int32), m, s60, s61, s62, s63, s64))
          else
            (x_ld 6 s64 (5 : Int32)).bind fun v66 =>
            some (.inr (v66, s60, s61, s62, s63, s64))
        else
          some (.inr ((0 : Int32), s15, s16, s17, s18, s19)) : Option (Int32 × (Nat → Int32) × Int32 × Int32 × Int32 × Int32 × (Nat → Int32) ⊕ (Int32 × Int32 × Int32 × Int32 × Int32 × (Nat → Int32))))).bind fun z_ => Sum.elim (fun r_ => some r_) (fun (x48, s49, s50, s51, s52, s53) =>
      if s50 = (6 : Int32) then
        (x_ld 6 s53 (0 : Int32)).bind fun v67 =>
        (x_ld 6 s53 (1 : Int32)).bind fun v68 =>
        (x_ld 6 s53 (2 : Int32)).bind fun v69 =>
        (x_ld 6 s53 (3 : Int32)).bind fun v70 =>
        (x_ld 6 s53 (4 : Int32)).bind fun v71 =>
        (f_X8_adds m v67 v68 v69 v70 v71 x48).bind fun s72 =>
        some ((1 : Int32), s72, s49, s50, s51, s52, s53)
      else
        some ((0 : Int32), m, s49, s50, s51, s52, s53)) z_ := by
  have hn' : ¬ iI (aN a : Int) = (12 : Int32) := fun z => by
    have := (iI_eq (by omega) (by omega) (by omega) (by omega)).mp (show iI (aN a : Int) = iI 12 from z)
    omega
  unfold f_X8_readPiece
  rw [show x_ld 88 m (2 : Int32) = _ from M_ld2 hm, ob_some, if_neg hn']
  cases f_X8_next text nn at_ kd be va with
  | none => rfl
  | some q =>
    obtain ⟨s2, s3, s4, s5⟩ := q
    rw [ob_some, ob_some]
    dsimp only
    have e : ∀ (o : Option (Int32 × Int32 × Int32 × Int32 × Int32 × (Nat → Int32))), o = f_X8_takes text nn s2 s3 s4 s5 nums (0 : Int32) (-20 : Int32) (40 : Int32) → Mc text nn 5 0 s2 s3 s4 s5 nums = o.bind fun (r, s8, s9, s10, s11, s12) => if r = 0 then some ((0 : Int32), s8, s9, s10, s11, s12) else Mc text nn 4 1 s8 s9 s10 s11 s12 := by
      intro o ho
      rw [ho]
      rfl
    rw [e _ rfl]
    cases f_X8_takes text nn s2 s3 s4 s5 nums (0 : Int32) (-20 : Int32) (40 : Int32) with
    | none => rfl
    | some q =>
      obtain ⟨r7, s8, s9, s10, s11, s12⟩ := q
      rfl
end RP
