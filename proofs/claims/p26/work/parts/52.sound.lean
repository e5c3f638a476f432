/-! p26: sound, the loop over the pieces -/
def cN (a : AL) (k : Nat) : Nat := if con a k = true then 1 else 0
def uN (a : AL) (k : Nat) : Nat := if cnt a (k : Int) = 0 then 1 else 0
def wN (a : AL) (k : Nat) : Nat := if 0 < aP a k 5 ∧ cuts a k = iI 0 then 1 else 0
theorem cN_I (a : AL) (k : Nat) : bI (con a k = true) = iI (cN a k : Int) := by
  unfold cN
  by_cases c : con a k = true
  · rw [bI_t c, if_pos c]; rfl
  · rw [bI_f c, if_neg c]; rfl
section ZT
variable {s : LyS} {a : AL} {G : SiS → SiS}
theorem so_299 (hl : LOK s a) (ha : AOK a) (hG : LK s a G) {k : Nat} (hk : k < aN a) (ss : SiS) (pa : PaS) : ∃ ss', g_L_sound_299 s (iI (k : Int)) (iI (aP a k 5)) ss pa = some (iI (wN a k : Int), ss', pa) := by
  have hv := ha.p hk
  have e : (iI (aP a k 5) ≤ (0 : Int32)) ↔ aP a k 5 ≤ 0 := iI_le (b := 0) (by omega) (by omega) (by omega) (by omega)
  have hw : wN a k = if 0 < aP a k 5 ∧ cuts a k = iI 0 then 1 else 0 := rfl
  unfold g_L_sound_299
  by_cases c : aP a k 5 ≤ 0
  · rw [if_pos (e.mpr c), hw, if_neg (by omega)]
    exact ⟨_, rfl⟩
  · rw [if_neg (fun z => c (e.mp z)), z_piece11 hl ha hG hk, ob_some]
    dsimp only
    by_cases d : cuts a k = 0
    · rw [if_pos d, hw, if_pos ⟨by omega, d⟩]
      exact ⟨_, rfl⟩
    · rw [if_neg d, hw, if_neg (fun z => d z.2)]
      exact ⟨_, rfl⟩
theorem so_529 (hl : LOK s a) (ha : AOK a) (hG : LK s a G) {k : Nat} (hk : k < aN a) (ss : SiS) (pa : PaS) : ∃ ss', g_L_sound_529 s (iI (lyr a k : Int)) (iI (aN a : Int)) (iI (k : Int)) (iI (cnt a (k : Int) : Int)) (iI (aP a k 2 * aP a k 3)) (iI (hS a k (aN a) : Int)) ss pa = some (.inr (ss', pa)) := by
  have hb := ha.b
  have hll := lyr_lt ha hk
  have hho : hS a k (aN a) + cnt a (k : Int) = ins a k := hid_out ha hk
  have el : iI (aN a : Int) - (1 : Int32) = iI ((aN a - 1 : Nat) : Int) := by
    rw [iL_1, iI_sub]
    congr 1
    omega
  unfold g_L_sound_529
  rw [el]
  by_cases c : lyr a k = aN a - 1
  · have h0 : hS a k (aN a) = 0 := hid_top ha hk c
    have f1 : iI (lyr a k : Int) = iI ((aN a - 1 : Nat) : Int) := by rw [c]
    have f3 : iI (cnt a (k : Int) : Int) = iI (aP a k 2 * aP a k 3) - iI (aP a k 2 * aP a k 3 - (ins a k : Int)) := by
      rw [iI_sub]
      congr 1
      omega
    rw [if_pos f1, if_pos (show iI (hS a k (aN a) : Int) = 0 by rw [h0]; rfl), z_piece12 hl ha hG hk, ob_some]
    dsimp only
    rw [if_pos f3]
    exact ⟨_, rfl⟩
  · have f1 : ¬ iI (lyr a k : Int) = iI ((aN a - 1 : Nat) : Int) := fun z => by
      have := (iI_eq (by omega) (by omega) (by omega) (by omega)).mp z
      omega
    rw [if_neg f1]
    exact ⟨_, rfl⟩
theorem so_550 (hl : LOK s a) (ha : AOK a) (hG : LK s a G) {k : Nat} (hk : k < aN a) (ss : SiS) (pa : PaS) : ∃ ss', g_L_sound_550 s (iI (k : Int)) (iI (aP a k 5)) ss pa = some (.inr (ss', pa)) := by
  have hv := ha.p hk
  have e : (iI (aP a k 5) = (0 : Int32)) ↔ aP a k 5 = 0 := iI_eq (b := 0) (by omega) (by omega) (by omega) (by omega)
  unfold g_L_sound_550
  by_cases c : aP a k 5 = 0
  · rw [if_pos (e.mpr c), z_piece11 hl ha hG hk, ob_some]
    dsimp only
    rw [if_pos (cuts_frame0 k c (by omega) (by omega))]
    exact ⟨_, rfl⟩
  · rw [if_neg (fun z => c (e.mp z))]
    exact ⟨_, rfl⟩
theorem so_578 (hl : LOK s a) (ha : AOK a) (hG : LK s a G) {k : Nat} (hk : k < aN a) (ss : SiS) (pa : PaS) : ∃ ss', g_L_sound_578 s (iI (k : Int)) (iI (cnt a (k : Int) : Int)) (iI (aP a k 2 * aP a k 3)) (iI (aP a k 5)) ss pa = some (.inr (ss', pa)) := by
  have hv := ha.p hk
  have hpr := prodP ha hk
  have hcl := cnt_le ha (k : Int)
  have e : (iI (aP a k 5) ≤ (0 : Int32)) ↔ aP a k 5 ≤ 0 := iI_le (b := 0) (by omega) (by omega) (by omega) (by omega)
  have e2 : (iI (cnt a (k : Int) : Int) = iI (aP a k 2 * aP a k 3)) ↔ (cnt a (k : Int) : Int) = aP a k 2 * aP a k 3 := iI_eq (by omega) (by omega) (by omega) (by omega)
  unfold g_L_sound_578
  by_cases c : aP a k 5 ≤ 0
  · rw [if_pos (e.mpr c)]
    exact ⟨_, rfl⟩
  · rw [if_neg (fun z => c (e.mp z))]
    by_cases d : (cnt a (k : Int) : Int) = aP a k 2 * aP a k 3
    · rw [if_pos (e2.mpr d), z_piece11 hl ha hG hk, ob_some]
      dsimp only
      rw [if_pos (cuts_full ha hk d)]
      exact ⟨_, rfl⟩
    · rw [if_neg (fun z => d (e2.mp z))]
      exact ⟨_, rfl⟩
set_option maxHeartbeats 4000000 in
theorem so_step (hl : LOK s a) (ha : AOK a) (hG : LK s a G) {k : Nat} (hk : k < aN a) (ss : SiS) (pa : PaS) (x13 x14 x15 x16 : Nat) : ∃ ss' pa', b_L_sound_41 s (iI (aN a : Int)) (iI (x13 : Int), iI (x14 : Int), iI (x15 : Int), iI (x16 : Int), msk (bsF (lyr a) k), iI (k : Int), ss, pa) = some (.inl (iI ((x13 + cnt a (k : Int) : Nat) : Int), iI ((x14 + cN a k : Nat) : Int), iI ((x15 + uN a k : Nat) : Int), iI ((x16 + wN a k : Nat) : Int), msk (bsF (lyr a) (k + 1)), iI ((k + 1 : Nat) : Int), ss', pa')) := by
  have hb := ha.b
  have hv := ha.p hk
  have hpr := prodP ha hk
  have hll := lyr_lt ha hk
  obtain ⟨P, hP⟩ := SP_ex hl ha hk
  have hpo := parts_ok (sS_b ha k)
  rw [sS_cnt ha k] at hpo
  have hho : hS a k (aN a) + cnt a (k : Int) = ins a k := hid_out ha hk
  obtain ⟨e, hed⟩ := edg_all ha hk
  have hed : edg a k (-1) + bor a k + eS a k (aN a) + 2 * e = 4 * cnt a (k : Int) := hed
  have hil := ins_le ha k
  have hcl := cnt_le ha (k : Int)
  have cfn := cuts_none ha hk
  have hcon : con a k = true ↔ aP a k 4 * (aP a k 2 * aP a k 3) ≤ (cnt a (k : Int) : Int) * 100 := by
    unfold con
    rw [decide_eq_true_eq, Int.mul_assoc]
  have hpr2 : aP a k 4 * aP a k 2 * aP a k 3 = aP a k 4 * (aP a k 2 * aP a k 3) := Int.mul_assoc _ _ _
  rw [hpr2] at hpr
  have hMN : (prow (sS a k) 24).2.2 * (prow (sS a k) 24).2.1 ≤ 576 * 576 := Nat.mul_le_mul (by omega) (by omega)
  obtain ⟨ss1, hin⟩ := so_in hl ha hG hk (G (G (G (G (G ss))))) (P (G (G (G ss))) (P (G (G ss)) pa)) (edg a k (-1) + bor a k)
  have pin : f_X7_inLayer s (iI (lyr a k : Int)) = some (iI (k : Int)) := by
    have := z_inLayer hl ha hll
    rw [lyr_o ha hk] at this
    exact this
  have hbt : ¬ ((msk (bsF (lyr a) k) >>> (iI (lyr a k : Int) &&& 31)) &&& (1 : Int32)) = (1 : Int32) := bs_test (by omega) (fun j hj z => by
    have := lyr_inj ha (show j < aN a by omega) hk z
    omega)
  have hbs : msk (bsF (lyr a) k) ||| ((1 : Int32) <<< (iI (lyr a k : Int) &&& 31)) = msk (bsF (lyr a) (k + 1)) := bs_set (by omega)
  obtain ⟨PA, hPA⟩ : ∃ PA, PA = P (G (G (G ss))) (P (G (G ss)) pa) := ⟨_, rfl⟩
  rw [← hPA] at hin
  obtain ⟨ss2, e299⟩ := so_299 hl ha hG hk (G ss1) PA
  obtain ⟨ss3, e529⟩ := so_529 hl ha hG hk (G (G (G ss2))) PA
  obtain ⟨ss4, e550⟩ := so_550 hl ha hG hk ss3 PA
  obtain ⟨ss5, e578⟩ := so_578 hl ha hG hk ss4 PA
  have hu : (if iI (cnt a (k : Int) : Int) = 0 then some (1 : Int32) else some (0 : Int32)) = some (iI (uN a k : Int)) := by
    have q : (iI (cnt a (k : Int) : Int) = 0) ↔ (cnt a (k : Int) : Int) = 0 := iI_eq (b := 0) (by omega) (by omega) (by omega) (by omega)
    have hw : uN a k = if cnt a (k : Int) = 0 then 1 else 0 := rfl
    by_cases c : cnt a (k : Int) = 0
    · rw [if_pos (q.mpr (by omega)), hw, if_pos c]; rfl
    · rw [if_neg (fun z => c (by have := q.mp z; omega)), hw, if_neg c]; rfl
  have hrem : x_rem ((4 : Int32) * iI (cnt a (k : Int) : Int) - iI ((edg a k (-1) + bor a k + eS a k (aN a) : Nat) : Int)) (2 : Int32) = some (iI 0) := by
    rw [iL_4, iI_mul, iI_sub, iL_2, x_remI (by omega) (by omega) (by omega) (by omega)]
    congr 2
    omega
  have t1 : iI ((cnt a (k : Int) + hS a k (aN a) : Nat) : Int) + iI (aP a k 2 * aP a k 3 - (ins a k : Int)) = iI (aP a k 2 * aP a k 3) := by
    rw [iI_add]
    congr 1
    omega
  have t2 : ¬ ((4 : Int32) * iI (cnt a (k : Int) : Int) < iI ((edg a k (-1) + bor a k + eS a k (aN a) : Nat) : Int)) := by
    rw [iL_4, iI_mul, iI_lt (by omega) (by omega) (by omega) (by omega)]
    omega
  have t3 : (iI (cN a k : Int) = (1 : Int32)) ↔ ¬ ((100 : Int32) * iI (cnt a (k : Int) : Int) < iI (aP a k 4) * iI (aP a k 2 * aP a k 3)) := by
    rw [iL_100, iI_mul, iI_mul, iI_lt (by omega) (by omega) (by omega) (by omega)]
    have hw : cN a k = if con a k = true then 1 else 0 := rfl
    by_cases c : con a k = true
    · rw [if_pos c] at hw
      rw [hw]
      have := hcon.mp c
      exact ⟨fun _ => by omega, fun _ => rfl⟩
    · rw [if_neg c] at hw
      rw [hw]
      have : ¬ aP a k 4 * (aP a k 2 * aP a k 3) ≤ (cnt a (k : Int) : Int) * 100 := fun z => c (hcon.mpr z)
      exact ⟨fun z => absurd z (by decide), fun z => by omega⟩
  have n0 : ∀ x : Nat, x < 100000 → ((iI (x : Int) = 0) ↔ x = 0) := fun x hx => by
    rw [iL_0, iI_eq (by omega) (by omega) (by omega) (by omega)]
    omega
  have t4 : (iI ((prow (sS a k) 24).2.1 : Int) = 0) ↔ (iI (cnt a (k : Int) : Int) = 0) := by
    rw [n0 _ (by omega), n0 _ (by omega)]
    exact hpo.2.2.2.1
  have t5 : (iI ((prow (sS a k) 24).2.2 : Int) = 0) ↔ (iI ((prow (sS a k) 24).2.1 : Int) = 0) := by
    rw [n0 _ (by omega), n0 _ (by omega)]
    exact hpo.2.2.2.2
  have t4' : (if iI ((prow (sS a k) 24).2.1 : Int) = 0 then some (1 : Int32) else some (0 : Int32)) = some (iI (uN a k : Int)) := by
    rw [← hu]
    by_cases c : iI ((prow (sS a k) 24).2.1 : Int) = 0
    · rw [if_pos c, if_pos (t4.mp c)]
    · rw [if_neg c, if_neg (fun z => c (t4.mpr z))]
  have t5' : (if iI ((prow (sS a k) 24).2.2 : Int) = 0 then some (1 : Int32) else some (0 : Int32)) = some (iI (uN a k : Int)) := by
    rw [← t4']
    by_cases c : iI ((prow (sS a k) 24).2.2 : Int) = 0
    · rw [if_pos c, if_pos (t5.mp c)]
    · rw [if_neg c, if_neg (fun z => c (t5.mpr z))]
  have t6 : ¬ (iI (cnt a (k : Int) : Int) < iI ((prow (sS a k) 24).2.2 : Int)) := by
    rw [iI_lt (by omega) (by omega) (by omega) (by omega)]
    omega
  have t7 : ¬ (iI ((prow (sS a k) 24).2.2 : Int) * iI ((prow (sS a k) 24).2.1 : Int) < iI (cnt a (k : Int) : Int)) := by
    rw [iI_mul, ← Int.natCast_mul, iI_lt (by omega) (by omega) (by omega) (by omega), Nat.mul_comm]
    omega
  have t8 : iI ((prow (sS a k) 24).2.1 : Int) ≤ iI (cnt a (k : Int) : Int) := by
    rw [iI_le (by omega) (by omega) (by omega) (by omega)]
    omega
  have t9 : ¬ (iI (lyr a k : Int) < (0 : Int32)) := by
    rw [iL_0, iI_lt (by omega) (by omega) (by omega) (by omega)]
    omega
  have t10 : ¬ (iI (aN a : Int) ≤ iI (lyr a k : Int)) := by
    rw [iI_le (by omega) (by omega) (by omega) (by omega)]
    omega
  have t11 : (iI (aP a k 5) ≤ (0 : Int32)) ↔ aP a k 5 ≤ 0 := iI_le (b := 0) (by omega) (by omega) (by omega) (by omega)
  have f0 : ¬ (iI (aN a : Int) ≤ iI (k : Int)) := by
    rw [iI_le (by omega) (by omega) (by omega) (by omega)]
    omega
  rw [b_L_sound_41, if_neg f0, z_piece7 hl ha hG hk, ob_some]
  dsimp only
  rw [z_piece2 hl ha hk, ob_some]
  dsimp only
  rw [z_piece3 hl ha hk, ob_some]
  dsimp only
  rw [x_nm_eq, iI_mul, z_piece9 hl ha hG hk hP, ob_some]
  dsimp only
  rw [z_piece10 hl ha hG hk hP, ob_some]
  dsimp only
  rw [z_edgeP hl ha hG hk, ob_some]
  dsimp only
  rw [z_border hl ha hG hk, ob_some]
  dsimp only
  rw [x_nm_eq, iI_addN (edg a k (-1)), ← hPA, hin, ob_some, Sum.elim_inr]
  dsimp only
  rw [x_nm_eq, iI_addN x13, z_piece8 hl ha hG hk, ob_some]
  dsimp only
  rw [x_nm_eq, cN_I, iI_addN x14, hu, ob_some, x_nm_eq, iI_addN x15, z_piece5 hl ha hk, ob_some]
  dsimp only
  rw [e299, ob_some]
  dsimp only
  rw [x_nm_eq, iI_addN x16, z_piece12 hl ha hG hk, ob_some]
  dsimp only
  rw [iI_addN (cnt a (k : Int)), if_pos t1, hrem, ob_some, if_pos (show iI 0 = 0 from rfl), if_neg t2, z_piece8 hl ha hG hk, ob_some]
  dsimp only
  rw [cN_I]
  simp only [z_piece4 hl ha hk, ob_some]
  rw [two_n t3, t4', ob_some, if_pos rfl, t5', ob_some, ob_some, if_pos rfl, if_neg t6, if_neg t7, if_pos t8, z_piece6 hl ha hG hk, ob_some]
  dsimp only
  rw [if_neg t9, if_neg t10, if_neg hbt, pin, ob_some, if_pos rfl, e529, ob_some, Sum.elim_inr]
  dsimp only
  rw [z_piece5 hl ha hk, ob_some]
  dsimp only
  rw [e550, ob_some, Sum.elim_inr]
  dsimp only
  rw [z_piece5 hl ha hk, ob_some]
  dsimp only
  rw [e578, ob_some, Sum.elim_inr]
  dsimp only
  rw [z_piece5 hl ha hk, ob_some]
  dsimp only
  rw [hbs, iI_suc]
  by_cases c : aP a k 5 ≤ 0
  · rw [if_pos (t11.mpr c), x_nm_eq]
    exact ⟨_, _, rfl⟩
  · rw [if_neg (fun z => c (t11.mp z))]
    by_cases d : cnt a (k : Int) = 0
    · rw [if_pos ((n0 _ (by omega)).mpr d), z_piece11 hl ha hG hk, ob_some]
      dsimp only
      rw [if_pos (cfn d (by omega)), x_nm_eq]
      exact ⟨_, _, rfl⟩
    · rw [if_neg (fun z => d ((n0 _ (by omega)).mp z)), x_nm_eq]
      exact ⟨_, _, rfl⟩
theorem z_sound (hl : LOK s a) (ha : AOK a) (hi : HiS) (tx : TxS) (ss : SiS) (pa : PaS) : ∃ ss' pa', f_L_sound s ss pa hi tx = some ((1 : Int32), ss', pa') := by
  have hb := ha.b
  obtain ⟨G, hG⟩ := LK_ex hl ha
  have key := x_for (B := b_L_sound_41 s (iI (aN a : Int))) (fun i (u : SiS × PaS) => (iI ((cnt a (-1) + sumN (fun p : Nat => cnt a (p : Int)) i : Nat) : Int), iI (sumN (cN a) i : Int), iI (sumN (uN a) i : Int), iI (sumN (wN a) i : Int), msk (bsF (lyr a) i), iI (i : Int), u.1, u.2)) (fun _ _ => True) (aN a)
    (fun b => ∃ z1 z2 ss' pa', b = Sum.inr (iI ((cnt a (-1) + sumN (fun p : Nat => cnt a (p : Int)) (aN a) : Nat) : Int), iI (sumN (cN a) (aN a) : Int), iI (sumN (uN a) (aN a) : Int), iI (sumN (wN a) (aN a) : Int), z1, z2, ss', pa'))
    (by
      rintro i ⟨ss, pa⟩ hi' -
      left
      obtain ⟨ss', pa', e⟩ := so_step hl ha hG hi' ss pa (cnt a (-1) + sumN (fun p : Nat => cnt a (p : Int)) i) (sumN (cN a) i) (sumN (uN a) i) (sumN (wN a) i)
      rw [Nat.add_assoc] at e
      exact ⟨(ss', pa'), e, trivial⟩)
    (by
      rintro ⟨ss, pa⟩ -
      rw [b_L_sound_41, if_pos ((iI_le (by omega) (by omega) (by omega) (by omega)).mpr (by omega))]
      exact ⟨_, rfl, _, _, _, _, rfl⟩) (G (G (G (G ss))), pa) trivial (by omega)
  obtain ⟨b, e, z1, z2, ss', pa', rfl⟩ := key
  have hz : msk (bsF (lyr a) 0) = 0 := (bs_0 _).symm
  dsimp only at e
  rw [hz] at e
  have e : x_loop (b_L_sound_41 s (iI (aN a : Int))) x_fuel (iI (cnt a (-1) : Int), (0 : Int32), (0 : Int32), (0 : Int32), (0 : Int32), (0 : Int32), G (G (G (G ss))), pa) = _ := e
  have hp := page_sum ha
  have q1 : iI ((cnt a (-1) + sumN (fun p : Nat => cnt a (p : Int)) (aN a) : Nat) : Int) = iI (aC a : Int) * iI (aR a : Int) := by
    rw [iI_mul, ← Int.natCast_mul, Nat.mul_comm]
    congr 2
    omega
  have e3 : cons a = sumN (cN a) (aN a) := rfl
  have e4 : unsn a = sumN (uN a) (aN a) := rfl
  have e5 : whl a = sumN (wN a) (aN a) := rfl
  have e6 := fun ss pa => z_piece_no hl ha (x := (aN a : Int)) (by omega) (by omega) 0 ss pa
  unfold f_L_sound
  simp only [z_count0 hl ha hG, z_count1 hl ha hG, z_count2 hl ha hG, z_count6 hl ha hG, z_count3 hl ha hG, z_count4 hl ha hG, z_count5 hl ha hG, ob_some, e, Sum.elim_inr, q1, e3, e4, e5, z_inLayer_no hl ha, e6, ↓reduceIte]
  exact ⟨_, _, rfl⟩
end ZT
