/-! p26: what the calls answer that look -/
theorem LEq.trans {s o u : LyS} (h : LEq s o) (g : LEq o u) : LEq s u := ⟨h.1.trans g.1, h.2.1.trans g.2.1, h.2.2.1.trans g.2.2.1, h.2.2.2.1.trans g.2.2.2.1, fun k hk => (h.2.2.2.2.1 k hk).trans (g.2.2.2.2.1 k hk), fun k hk => (h.2.2.2.2.2 k hk).trans (g.2.2.2.2.2 k hk)⟩
def CS (s : LyS) (a : AL) (c : Int) : Prop := AOK a ∧ LOK s a ∧ L_cost s = iI c
theorem CS.eq {s s' : LyS} {a : AL} {c : Int} (h : CS s a c) (e : LEq s' s) : CS s' a c := ⟨h.1, e.ok (by have := h.1.b; omega) h.2.1, e.2.2.2.1.trans h.2.2⟩
def LK (s : LyS) (a : AL) (G : SiS → SiS) : Prop := ∀ ss, f_X5_look ss s = some (G ss) ∧ SOK (G ss) a
theorem LK_ex {s : LyS} {a : AL} (hl : LOK s a) (ha : AOK a) : ∃ G, LK s a G := ⟨fun ss => (L_look hl ha ss).choose, fun ss => (L_look hl ha ss).choose_spec⟩
def SP (s : LyS) (a : AL) (p : Nat) (P : SiS → PaS → PaS) : Prop := ∀ ss pa, SOK ss a → f_X2_split pa ss s (iI (p : Int)) = some (P ss pa) ∧ POK (P ss pa) (prow (sS a p) 24)
theorem SP_ex {s : LyS} {a : AL} (hl : LOK s a) (ha : AOK a) {p : Nat} (hp : p < aN a) : ∃ P, SP s a p P := by
  have h : ∀ ss pa, ∃ pa', SOK ss a → f_X2_split pa ss s (iI (p : Int)) = some pa' ∧ POK pa' (prow (sS a p) 24) := by
    intro ss pa
    by_cases c : SOK ss a
    · obtain ⟨pa', h1, h2⟩ := P_split hl ha c hp pa
      exact ⟨pa', fun _ => ⟨h1, h2⟩⟩
    · exact ⟨pa, fun q => absurd q c⟩
  exact ⟨fun ss pa => (h ss pa).choose, fun ss pa => (h ss pa).choose_spec⟩
section ZA
variable {s : LyS} {a : AL} {G : SiS → SiS}
theorem z_count0 (hl : LOK s a) (ha : AOK a) (hG : LK s a G) (hi : HiS) (tx : TxS) (ss : SiS) : f_X7_count s ss hi tx (0 : Int32) = some (iI (aN a : Int), G ss) := by
  unfold f_X7_count
  rw [(hG ss).1, ob_some, if_pos rfl]
  unfold f_X1_pieces
  rw [ob_some, hl.n]
theorem z_count1 (hl : LOK s a) (ha : AOK a) (hG : LK s a G) (hi : HiS) (tx : TxS) (ss : SiS) : f_X7_count s ss hi tx (1 : Int32) = some (iI (aC a : Int), G ss) := by
  unfold f_X7_count
  rw [(hG ss).1, ob_some, if_neg (show ¬ (1 : Int32) = (0 : Int32) by decide), if_pos rfl]
  unfold f_X1_columns
  rw [ob_some, hl.c]
theorem z_count2 (hl : LOK s a) (ha : AOK a) (hG : LK s a G) (hi : HiS) (tx : TxS) (ss : SiS) : f_X7_count s ss hi tx (2 : Int32) = some (iI (aR a : Int), G ss) := by
  unfold f_X7_count
  rw [(hG ss).1, ob_some, if_neg (show ¬ (2 : Int32) = (0 : Int32) by decide), if_neg (show ¬ (2 : Int32) = (1 : Int32) by decide), if_pos rfl]
  unfold f_X1_rows
  rw [ob_some, hl.r]
theorem z_count3 (hl : LOK s a) (ha : AOK a) (hG : LK s a G) (hi : HiS) (tx : TxS) (ss : SiS) : f_X7_count s ss hi tx (3 : Int32) = some (iI (cons a : Int), G ss) := by
  unfold f_X7_count
  rw [(hG ss).1, ob_some, if_neg (show ¬ (3 : Int32) = (0 : Int32) by decide), if_neg (show ¬ (3 : Int32) = (1 : Int32) by decide), if_neg (show ¬ (3 : Int32) = (2 : Int32) by decide), if_pos rfl]
  rw [S_contentPieces hl ha (hG ss).2, ob_some]
theorem z_count4 (hl : LOK s a) (ha : AOK a) (hG : LK s a G) (hi : HiS) (tx : TxS) (ss : SiS) : f_X7_count s ss hi tx (4 : Int32) = some (iI (unsn a : Int), G ss) := by
  unfold f_X7_count
  rw [(hG ss).1, ob_some, if_neg (show ¬ (4 : Int32) = (0 : Int32) by decide), if_neg (show ¬ (4 : Int32) = (1 : Int32) by decide), if_neg (show ¬ (4 : Int32) = (2 : Int32) by decide), if_neg (show ¬ (4 : Int32) = (3 : Int32) by decide), if_pos rfl]
  rw [S_unseen hl ha (hG ss).2, ob_some]
theorem z_count5 (hl : LOK s a) (ha : AOK a) (hG : LK s a G) (hi : HiS) (tx : TxS) (ss : SiS) : f_X7_count s ss hi tx (5 : Int32) = some (iI (whl a : Int), G ss) := by
  unfold f_X7_count
  rw [(hG ss).1, ob_some, if_neg (show ¬ (5 : Int32) = (0 : Int32) by decide), if_neg (show ¬ (5 : Int32) = (1 : Int32) by decide), if_neg (show ¬ (5 : Int32) = (2 : Int32) by decide), if_neg (show ¬ (5 : Int32) = (3 : Int32) by decide), if_neg (show ¬ (5 : Int32) = (4 : Int32) by decide), if_pos rfl]
  rw [S_whole hl ha (hG ss).2, ob_some]
theorem z_count6 (hl : LOK s a) (ha : AOK a) (hG : LK s a G) (hi : HiS) (tx : TxS) (ss : SiS) : f_X7_count s ss hi tx (6 : Int32) = some (iI (cnt a (-1) : Int), G ss) := by
  unfold f_X7_count
  rw [(hG ss).1, ob_some, if_neg (show ¬ (6 : Int32) = (0 : Int32) by decide), if_neg (show ¬ (6 : Int32) = (1 : Int32) by decide), if_neg (show ¬ (6 : Int32) = (2 : Int32) by decide), if_neg (show ¬ (6 : Int32) = (3 : Int32) by decide), if_neg (show ¬ (6 : Int32) = (4 : Int32) by decide), if_neg (show ¬ (6 : Int32) = (5 : Int32) by decide), if_pos rfl]
  rw [S_pageCells hl ha (hG ss).2, ob_some]
theorem z_count7 (hl : LOK s a) (ha : AOK a) (hG : LK s a G) (hi : HiS) (tx : TxS) (ss : SiS) : f_X7_count s ss hi tx (7 : Int32) = some (L_cost s, G ss) := by
  unfold f_X7_count
  rw [(hG ss).1, ob_some, if_neg (show ¬ (7 : Int32) = (0 : Int32) by decide), if_neg (show ¬ (7 : Int32) = (1 : Int32) by decide), if_neg (show ¬ (7 : Int32) = (2 : Int32) by decide), if_neg (show ¬ (7 : Int32) = (3 : Int32) by decide), if_neg (show ¬ (7 : Int32) = (4 : Int32) by decide), if_neg (show ¬ (7 : Int32) = (5 : Int32) by decide), if_neg (show ¬ (7 : Int32) = (6 : Int32) by decide), if_pos rfl]
  unfold f_X1_cost
  rw [ob_some]
theorem z_count8 (hl : LOK s a) (ha : AOK a) (hG : LK s a G) (hi : HiS) (tx : TxS) (ss : SiS) : f_X7_count s ss hi tx (8 : Int32) = some (Hi_size hi, G ss) := by
  unfold f_X7_count
  rw [(hG ss).1, ob_some, if_neg (show ¬ (8 : Int32) = (0 : Int32) by decide), if_neg (show ¬ (8 : Int32) = (1 : Int32) by decide), if_neg (show ¬ (8 : Int32) = (2 : Int32) by decide), if_neg (show ¬ (8 : Int32) = (3 : Int32) by decide), if_neg (show ¬ (8 : Int32) = (4 : Int32) by decide), if_neg (show ¬ (8 : Int32) = (5 : Int32) by decide), if_neg (show ¬ (8 : Int32) = (6 : Int32) by decide), if_neg (show ¬ (8 : Int32) = (7 : Int32) by decide), if_pos rfl]
  unfold f_X0_size
  rw [ob_some]
theorem z_count_no1 (hG : LK s a G) (hi : HiS) (tx : TxS) (ss : SiS) : f_X7_count s ss hi tx (-1 : Int32) = some ((-101 : Int32), G ss) := by
  unfold f_X7_count
  rw [(hG ss).1, ob_some, if_neg (show ¬ (-1 : Int32) = (0 : Int32) by decide), if_neg (show ¬ (-1 : Int32) = (1 : Int32) by decide), if_neg (show ¬ (-1 : Int32) = (2 : Int32) by decide), if_neg (show ¬ (-1 : Int32) = (3 : Int32) by decide), if_neg (show ¬ (-1 : Int32) = (4 : Int32) by decide), if_neg (show ¬ (-1 : Int32) = (5 : Int32) by decide), if_neg (show ¬ (-1 : Int32) = (6 : Int32) by decide), if_neg (show ¬ (-1 : Int32) = (7 : Int32) by decide), if_neg (show ¬ (-1 : Int32) = (8 : Int32) by decide), if_neg (show ¬ (-1 : Int32) = (9 : Int32) by decide)]
theorem z_count_no2 (hG : LK s a G) (hi : HiS) (tx : TxS) (ss : SiS) : f_X7_count s ss hi tx (10 : Int32) = some ((-101 : Int32), G ss) := by
  unfold f_X7_count
  rw [(hG ss).1, ob_some, if_neg (show ¬ (10 : Int32) = (0 : Int32) by decide), if_neg (show ¬ (10 : Int32) = (1 : Int32) by decide), if_neg (show ¬ (10 : Int32) = (2 : Int32) by decide), if_neg (show ¬ (10 : Int32) = (3 : Int32) by decide), if_neg (show ¬ (10 : Int32) = (4 : Int32) by decide), if_neg (show ¬ (10 : Int32) = (5 : Int32) by decide), if_neg (show ¬ (10 : Int32) = (6 : Int32) by decide), if_neg (show ¬ (10 : Int32) = (7 : Int32) by decide), if_neg (show ¬ (10 : Int32) = (8 : Int32) by decide), if_neg (show ¬ (10 : Int32) = (9 : Int32) by decide)]
theorem z_pieceL (hl : LOK s a) (ha : AOK a) {p : Nat} (hp : p < aN a) {w : Nat} (hw : w < 6) (ss : SiS) (pa : PaS) : f_X7_piece s ss pa (iI (p : Int)) (iI (w : Int)) = some (iI (aP a p w), ss, pa) := by
  have hb := ha.b
  have ei : f_X7_isWithin (iI (w : Int)) (0 : Int32) (5 : Int32) = some (bI (0 ≤ (w : Int) ∧ (w : Int) ≤ 5)) := F_isWithin (x := (w : Int)) (lo := 0) (hi := 5) (by omega) (by omega) (by omega)
  unfold f_X7_piece
  rw [L_has hl (by omega) (by omega), ob_some, if_b, if_pos (by omega), ei, ob_some, if_b, if_pos (by omega), L_get hl (by omega) hp hw rfl, ob_some]
theorem z_piece0 (hl : LOK s a) (ha : AOK a) {p : Nat} (hp : p < aN a) (ss : SiS) (pa : PaS) : f_X7_piece s ss pa (iI (p : Int)) (0 : Int32) = some (iI (aP a p 0), ss, pa) := z_pieceL hl ha hp (w := 0) (by omega) ss pa
theorem z_piece1 (hl : LOK s a) (ha : AOK a) {p : Nat} (hp : p < aN a) (ss : SiS) (pa : PaS) : f_X7_piece s ss pa (iI (p : Int)) (1 : Int32) = some (iI (aP a p 1), ss, pa) := z_pieceL hl ha hp (w := 1) (by omega) ss pa
theorem z_piece2 (hl : LOK s a) (ha : AOK a) {p : Nat} (hp : p < aN a) (ss : SiS) (pa : PaS) : f_X7_piece s ss pa (iI (p : Int)) (2 : Int32) = some (iI (aP a p 2), ss, pa) := z_pieceL hl ha hp (w := 2) (by omega) ss pa
theorem z_piece3 (hl : LOK s a) (ha : AOK a) {p : Nat} (hp : p < aN a) (ss : SiS) (pa : PaS) : f_X7_piece s ss pa (iI (p : Int)) (3 : Int32) = some (iI (aP a p 3), ss, pa) := z_pieceL hl ha hp (w := 3) (by omega) ss pa
theorem z_piece4 (hl : LOK s a) (ha : AOK a) {p : Nat} (hp : p < aN a) (ss : SiS) (pa : PaS) : f_X7_piece s ss pa (iI (p : Int)) (4 : Int32) = some (iI (aP a p 4), ss, pa) := z_pieceL hl ha hp (w := 4) (by omega) ss pa
theorem z_piece5 (hl : LOK s a) (ha : AOK a) {p : Nat} (hp : p < aN a) (ss : SiS) (pa : PaS) : f_X7_piece s ss pa (iI (p : Int)) (5 : Int32) = some (iI (aP a p 5), ss, pa) := z_pieceL hl ha hp (w := 5) (by omega) ss pa
theorem z_piece6 (hl : LOK s a) (ha : AOK a) (hG : LK s a G) {p : Nat} (hp : p < aN a) (ss : SiS) (pa : PaS) : f_X7_piece s ss pa (iI (p : Int)) (6 : Int32) = some (iI (lyr a p : Int), G ss, pa) := by
  have hb := ha.b
  have ei : f_X7_isWithin (6 : Int32) (0 : Int32) (5 : Int32) = some (bI (0 ≤ (6 : Int) ∧ (6 : Int) ≤ 5)) := F_isWithin (x := 6) (lo := 0) (hi := 5) (by omega) (by omega) (by omega)
  unfold f_X7_piece
  rw [L_has hl (by omega) (by omega), ob_some, if_b, if_pos (by omega), ei, ob_some, if_b, if_neg (by omega), (hG ss).1, ob_some, if_pos rfl]
  rw [L_layerOf' hl ha hp, ob_some]
theorem z_piece7 (hl : LOK s a) (ha : AOK a) (hG : LK s a G) {p : Nat} (hp : p < aN a) (ss : SiS) (pa : PaS) : f_X7_piece s ss pa (iI (p : Int)) (7 : Int32) = some (iI (cnt a (p : Int) : Int), G ss, pa) := by
  have hb := ha.b
  have ei : f_X7_isWithin (7 : Int32) (0 : Int32) (5 : Int32) = some (bI (0 ≤ (7 : Int) ∧ (7 : Int) ≤ 5)) := F_isWithin (x := 7) (lo := 0) (hi := 5) (by omega) (by omega) (by omega)
  unfold f_X7_piece
  rw [L_has hl (by omega) (by omega), ob_some, if_b, if_pos (by omega), ei, ob_some, if_b, if_neg (by omega), (hG ss).1, ob_some, if_neg (show ¬ (7 : Int32) = (6 : Int32) by decide), if_pos rfl]
  unfold f_X5_cells
  rw [S_cells' (hG ss).2 (by omega) hp, ob_some, ob_some]
theorem z_piece8 (hl : LOK s a) (ha : AOK a) (hG : LK s a G) {p : Nat} (hp : p < aN a) (ss : SiS) (pa : PaS) : f_X7_piece s ss pa (iI (p : Int)) (8 : Int32) = some (bI (con a p = true), G ss, pa) := by
  have hb := ha.b
  have ei : f_X7_isWithin (8 : Int32) (0 : Int32) (5 : Int32) = some (bI (0 ≤ (8 : Int) ∧ (8 : Int) ≤ 5)) := F_isWithin (x := 8) (lo := 0) (hi := 5) (by omega) (by omega) (by omega)
  unfold f_X7_piece
  rw [L_has hl (by omega) (by omega), ob_some, if_b, if_pos (by omega), ei, ob_some, if_b, if_neg (by omega), (hG ss).1, ob_some, if_neg (show ¬ (8 : Int32) = (6 : Int32) by decide), if_neg (show ¬ (8 : Int32) = (7 : Int32) by decide), if_pos rfl]
  rw [S_isContent hl ha (hG ss).2 hp, ob_some, if_b]
  by_cases d : con a p = true
  · rw [if_pos d, bI_t d]
  · rw [if_neg d, bI_f d]
theorem z_piece9 (hl : LOK s a) (ha : AOK a) (hG : LK s a G) {p : Nat} (hp : p < aN a) {P : SiS → PaS → PaS} (hP : SP s a p P) (ss : SiS) (pa : PaS) : f_X7_piece s ss pa (iI (p : Int)) (9 : Int32) = some (iI ((prow (sS a p) 24).2.1 : Int), G ss, (P (G ss) pa)) := by
  have hb := ha.b
  have ei : f_X7_isWithin (9 : Int32) (0 : Int32) (5 : Int32) = some (bI (0 ≤ (9 : Int) ∧ (9 : Int) ≤ 5)) := F_isWithin (x := 9) (lo := 0) (hi := 5) (by omega) (by omega) (by omega)
  unfold f_X7_piece
  rw [L_has hl (by omega) (by omega), ob_some, if_b, if_pos (by omega), ei, ob_some, if_b, if_neg (by omega), (hG ss).1, ob_some, if_neg (show ¬ (9 : Int32) = (6 : Int32) by decide), if_neg (show ¬ (9 : Int32) = (7 : Int32) by decide), if_neg (show ¬ (9 : Int32) = (8 : Int32) by decide), if_pos rfl]
  unfold f_X2_number
  rw [(hP _ pa (hG ss).2).1, ob_some, ob_some, (hP _ pa (hG ss).2).2.2.1]
theorem z_piece10 (hl : LOK s a) (ha : AOK a) (hG : LK s a G) {p : Nat} (hp : p < aN a) {P : SiS → PaS → PaS} (hP : SP s a p P) (ss : SiS) (pa : PaS) : f_X7_piece s ss pa (iI (p : Int)) (10 : Int32) = some (iI ((prow (sS a p) 24).2.2 : Int), G ss, (P (G ss) pa)) := by
  have hb := ha.b
  have ei : f_X7_isWithin (10 : Int32) (0 : Int32) (5 : Int32) = some (bI (0 ≤ (10 : Int) ∧ (10 : Int) ≤ 5)) := F_isWithin (x := 10) (lo := 0) (hi := 5) (by omega) (by omega) (by omega)
  unfold f_X7_piece
  rw [L_has hl (by omega) (by omega), ob_some, if_b, if_pos (by omega), ei, ob_some, if_b, if_neg (by omega), (hG ss).1, ob_some, if_neg (show ¬ (10 : Int32) = (6 : Int32) by decide), if_neg (show ¬ (10 : Int32) = (7 : Int32) by decide), if_neg (show ¬ (10 : Int32) = (8 : Int32) by decide), if_neg (show ¬ (10 : Int32) = (9 : Int32) by decide), if_pos rfl]
  unfold f_X2_largest
  rw [(hP _ pa (hG ss).2).1, ob_some, ob_some, (hP _ pa (hG ss).2).2.2.2.1]
theorem z_piece11 (hl : LOK s a) (ha : AOK a) (hG : LK s a G) {p : Nat} (hp : p < aN a) (ss : SiS) (pa : PaS) : f_X7_piece s ss pa (iI (p : Int)) (11 : Int32) = some (cuts a p, G ss, pa) := by
  have hb := ha.b
  have ei : f_X7_isWithin (11 : Int32) (0 : Int32) (5 : Int32) = some (bI (0 ≤ (11 : Int) ∧ (11 : Int) ≤ 5)) := F_isWithin (x := 11) (lo := 0) (hi := 5) (by omega) (by omega) (by omega)
  unfold f_X7_piece
  rw [L_has hl (by omega) (by omega), ob_some, if_b, if_pos (by omega), ei, ob_some, if_b, if_neg (by omega), (hG ss).1, ob_some, if_neg (show ¬ (11 : Int32) = (6 : Int32) by decide), if_neg (show ¬ (11 : Int32) = (7 : Int32) by decide), if_neg (show ¬ (11 : Int32) = (8 : Int32) by decide), if_neg (show ¬ (11 : Int32) = (9 : Int32) by decide), if_neg (show ¬ (11 : Int32) = (10 : Int32) by decide), if_pos rfl]
  rw [S_cuts hl ha (hG ss).2 hp, ob_some]
theorem z_piece12 (hl : LOK s a) (ha : AOK a) (hG : LK s a G) {p : Nat} (hp : p < aN a) (ss : SiS) (pa : PaS) : f_X7_piece s ss pa (iI (p : Int)) (12 : Int32) = some (iI (aP a p 2 * aP a p 3 - ins a p), G ss, pa) := by
  have hb := ha.b
  have ei : f_X7_isWithin (12 : Int32) (0 : Int32) (5 : Int32) = some (bI (0 ≤ (12 : Int) ∧ (12 : Int) ≤ 5)) := F_isWithin (x := 12) (lo := 0) (hi := 5) (by omega) (by omega) (by omega)
  unfold f_X7_piece
  rw [L_has hl (by omega) (by omega), ob_some, if_b, if_pos (by omega), ei, ob_some, if_b, if_neg (by omega), (hG ss).1, ob_some, if_neg (show ¬ (12 : Int32) = (6 : Int32) by decide), if_neg (show ¬ (12 : Int32) = (7 : Int32) by decide), if_neg (show ¬ (12 : Int32) = (8 : Int32) by decide), if_neg (show ¬ (12 : Int32) = (9 : Int32) by decide), if_neg (show ¬ (12 : Int32) = (10 : Int32) by decide), if_neg (show ¬ (12 : Int32) = (11 : Int32) by decide), if_pos rfl]
  rw [L_outside hl ha hp, ob_some]
theorem z_piece_no (hl : LOK s a) (ha : AOK a) {x : Int} (hx : -2147483648 ≤ x ∧ x < 2147483648) (h : ¬ (0 ≤ x ∧ x < aN a)) (w : Int32) (ss : SiS) (pa : PaS) : f_X7_piece s ss pa (iI x) w = some ((-101 : Int32), ss, pa) := by
  have hb := ha.b
  unfold f_X7_piece
  rw [L_has hl (by omega) hx, ob_some, if_b, if_neg h]
theorem z_piece_no13 (hl : LOK s a) (ha : AOK a) (hG : LK s a G) (ss : SiS) (pa : PaS) : ∃ ss', f_X7_piece s ss pa (0 : Int32) (13 : Int32) = some ((-101 : Int32), ss', pa) := by
  have hb := ha.b
  have ei : f_X7_isWithin (13 : Int32) (0 : Int32) (5 : Int32) = some (bI (0 ≤ (13 : Int) ∧ (13 : Int) ≤ 5)) := F_isWithin (x := 13) (lo := 0) (hi := 5) (by omega) (by omega) (by omega)
  unfold f_X7_piece
  rw [show f_X1_has s (0 : Int32) = _ from L_has hl (by omega) (x := 0) (by omega), ob_some, if_b]
  by_cases c : (0 : Int) ≤ 0 ∧ (0 : Int) < aN a
  · rw [if_pos c, ei, ob_some, if_b, if_neg (by omega), (hG ss).1, ob_some, if_neg (show ¬ (13 : Int32) = (6 : Int32) by decide), if_neg (show ¬ (13 : Int32) = (7 : Int32) by decide), if_neg (show ¬ (13 : Int32) = (8 : Int32) by decide), if_neg (show ¬ (13 : Int32) = (9 : Int32) by decide), if_neg (show ¬ (13 : Int32) = (10 : Int32) by decide), if_neg (show ¬ (13 : Int32) = (11 : Int32) by decide), if_neg (show ¬ (13 : Int32) = (12 : Int32) by decide)]
    exact ⟨_, rfl⟩
  · rw [if_neg c]
    exact ⟨_, rfl⟩
theorem z_hides (hl : LOK s a) (ha : AOK a) (hG : LK s a G) {p q : Nat} (hp : p < aN a) (hq : q < aN a) (hne : p ≠ q) (ss : SiS) : f_X7_hides s ss (iI (p : Int)) (iI (q : Int)) = some (iI (hid a p q : Int), G ss) := by
  have hb := ha.b
  have c : ¬ iI (p : Int) = iI (q : Int) := fun z => by
    have := (iI_eq (by omega) (by omega) (by omega) (by omega)).mp z
    omega
  unfold f_X7_hides
  rw [L_has hl (by omega) (by omega), ob_some, if_b, if_pos (by omega), L_has hl (by omega) (by omega), ob_some, if_b, if_pos (by omega), if_neg c, (hG ss).1, ob_some, S_hidden hl ha (hG ss).2 hp hq, ob_some]
theorem known_ok (hl : LOK s a) (ha : AOK a) {y : Int} (hy : -2147483648 ≤ y ∧ y < 2147483648) : (if iI y = (-1 : Int32) then some (1 : Int32) else if iI y = (-2 : Int32) then some (1 : Int32) else (f_X1_has s (iI y)).bind fun r2 => if r2 = 0 then some (0 : Int32) else some (1 : Int32)) = some (bI (-2 ≤ y ∧ y < aN a)) := by
  have hb := ha.b
  rw [L_has hl (by omega) hy, ob_some, if_b, show (-1 : Int32) = iI (-1) from rfl, show (-2 : Int32) = iI (-2) from rfl]
  simp (disch := omega) only [iI_eq]
  by_cases c : -2 ≤ y ∧ y < aN a
  · rw [bI_t c]
    repeat' split
    all_goals first | rfl | (exfalso; omega)
  · rw [bI_f c]
    repeat' split
    all_goals first | rfl | (exfalso; omega)
theorem z_edge (hl : LOK s a) (ha : AOK a) (hG : LK s a G) {p : Nat} {q : Int} (hp : p < aN a) (hq : -1 ≤ q ∧ q < aN a) (hne : (p : Int) ≠ q) (ss : SiS) : f_X7_edge s ss (iI (p : Int)) (iI q) = some (iI (edg a p q : Int), G ss) := by
  have hb := ha.b
  have c : ¬ iI (p : Int) = iI q := fun z => hne ((iI_eq (by omega) (by omega) (by omega) (by omega)).mp z)
  have d : ¬ iI q = (-2 : Int32) := fun z => by
    have := (iI_eq (by omega) (by omega) (by omega) (by omega)).mp (show iI q = iI (-2) from z)
    omega
  unfold f_X7_edge
  rw [known_ok hl ha (by omega), ob_some, L_has hl (by omega) (by omega), ob_some, if_b, if_pos (by omega), if_b, if_pos (by omega), if_neg c, (hG ss).1, ob_some, if_neg d, S_edge hl ha (hG ss).2 hp (show q = -1 ∨ ∃ p : Nat, q = p ∧ p < aN a by
    by_cases z : q = -1
    · exact Or.inl z
    · exact Or.inr ⟨q.toNat, by omega, by omega⟩), ob_some]
theorem z_edgeP (hl : LOK s a) (ha : AOK a) (hG : LK s a G) {p : Nat} (hp : p < aN a) (ss : SiS) : f_X7_edge s ss (iI (p : Int)) (-1 : Int32) = some (iI (edg a p (-1) : Int), G ss) := by
  rw [show (-1 : Int32) = iI (-1) from rfl]
  exact z_edge hl ha hG hp (q := -1) (by omega) (by omega) ss
theorem z_border (hl : LOK s a) (ha : AOK a) (hG : LK s a G) {p : Nat} (hp : p < aN a) (ss : SiS) : f_X7_edge s ss (iI (p : Int)) (-2 : Int32) = some (iI (bor a p : Int), G ss) := by
  have hb := ha.b
  have c : ¬ iI (p : Int) = (-2 : Int32) := fun z => by
    have := (iI_eq (by omega) (by omega) (by omega) (by omega)).mp (show iI (p : Int) = iI (-2) from z)
    omega
  have k : (if (-2 : Int32) = (-1 : Int32) then some (1 : Int32) else if (-2 : Int32) = (-2 : Int32) then some (1 : Int32) else (f_X1_has s (-2 : Int32)).bind fun r2 => if r2 = 0 then some (0 : Int32) else some (1 : Int32)) = some (bI (-2 ≤ (-2 : Int) ∧ (-2 : Int) < aN a)) := by
    have h := known_ok hl ha (y := -2) (by omega)
    rw [show iI (-2) = (-2 : Int32) from rfl] at h
    exact h
  unfold f_X7_edge
  rw [k, ob_some, L_has hl (by omega) (by omega), ob_some, if_b, if_pos (by omega), if_b, if_pos (by omega), if_neg c, (hG ss).1, ob_some, if_pos rfl, S_border hl ha (hG ss).2 hp, ob_some]
theorem z_edge_no (hl : LOK s a) (ha : AOK a) {x y : Int} (hx : -2147483648 ≤ x ∧ x < 2147483648) (hy : -2147483648 ≤ y ∧ y < 2147483648) (h : ¬ (0 ≤ x ∧ x < aN a) ∨ ¬ (-2 ≤ y ∧ y < aN a) ∨ x = y) (ss : SiS) : f_X7_edge s ss (iI x) (iI y) = some ((-101 : Int32), ss) := by
  have hb := ha.b
  unfold f_X7_edge
  rw [known_ok hl ha hy, ob_some, L_has hl (by omega) hx, ob_some, if_b, if_b]
  by_cases c1 : 0 ≤ x ∧ x < aN a
  · rw [if_pos c1]
    by_cases c2 : -2 ≤ y ∧ y < aN a
    · rw [if_pos c2, if_pos (show iI x = iI y by rw [show x = y by omega])]
    · rw [if_neg c2]
  · rw [if_neg c1]
theorem z_hides_no (hl : LOK s a) (ha : AOK a) {x y : Int} (hx : -2147483648 ≤ x ∧ x < 2147483648) (hy : -2147483648 ≤ y ∧ y < 2147483648) (h : ¬ (0 ≤ x ∧ x < aN a) ∨ ¬ (0 ≤ y ∧ y < aN a) ∨ x = y) (ss : SiS) : f_X7_hides s ss (iI x) (iI y) = some ((-101 : Int32), ss) := by
  have hb := ha.b
  unfold f_X7_hides
  rw [L_has hl (by omega) hx, ob_some, if_b, L_has hl (by omega) hy, ob_some, if_b]
  by_cases c1 : 0 ≤ x ∧ x < aN a
  · rw [if_pos c1]
    by_cases c2 : 0 ≤ y ∧ y < aN a
    · rw [if_pos c2, if_pos (show iI x = iI y by rw [show x = y by omega])]
    · rw [if_neg c2]
  · rw [if_neg c1]
theorem z_inLayer (hl : LOK s a) (ha : AOK a) {l : Nat} (h : l < aN a) : f_X7_inLayer s (iI (l : Int)) = some (iI (aO a l : Int)) := by
  have hb := ha.b
  unfold f_X7_inLayer
  rw [L_has hl (by omega) (by omega), ob_some, if_b, if_pos (by omega), L_pieceIn hl (by omega) h, ob_some]
theorem z_inLayer_no (hl : LOK s a) (ha : AOK a) : f_X7_inLayer s (iI (aN a : Int)) = some (-101 : Int32) := by
  have hb := ha.b
  unfold f_X7_inLayer
  rw [L_has hl (by omega) (by omega), ob_some, if_b, if_neg (by omega)]
theorem z_seen (hl : LOK s a) (ha : AOK a) {x y : Nat} (hx : x < aC a) (hy : y < aR a) : f_X7_seen s (iI (x : Int)) (iI (y : Int)) = some (iI (top a x y)) := by
  have hb := ha.b
  have ht := top_b ha x y
  unfold f_X7_seen
  rw [L_hasCell hl ha (by omega) (by omega), ob_some, if_b, if_pos (by omega), show f_X1_coveringPiece s (iI (x : Int)) (iI (y : Int)) (0 : Int32) = _ from L_coveringPiece hl ha hx hy (k := 0) (by omega), ob_some, cvI_top]
  show (if iI (if top a x y = -1 then -109 else top a x y) = (-109 : Int32) then some (-1 : Int32) else some (iI (if top a x y = -1 then -109 else top a x y))) = some (iI (top a x y))
  rw [show (-109 : Int32) = iI (-109) from rfl]
  by_cases c : top a x y = -1
  · rw [c, if_pos rfl, if_pos rfl]
    rfl
  · rw [if_neg c, if_neg]
    rw [iI_eq (by omega) (by omega) (by omega) (by omega)]
    omega
theorem z_seen_no (hl : LOK s a) (ha : AOK a) {x y : Int} (hx : -2147483648 ≤ x ∧ x < 2147483648) (hy : -2147483648 ≤ y ∧ y < 2147483648) (h : ¬ ((0 ≤ x ∧ x < aC a) ∧ 0 ≤ y ∧ y < aR a)) : f_X7_seen s (iI x) (iI y) = some (-101 : Int32) := by
  unfold f_X7_seen
  rw [L_hasCell hl ha hx hy, ob_some, if_b, if_neg h]
theorem z_covering (hl : LOK s a) (ha : AOK a) {x y : Nat} (hx : x < aC a) (hy : y < aR a) {k : Int} (hk : 0 ≤ k ∧ k < 2147483648) : f_X7_covering s (iI (x : Int)) (iI (y : Int)) (iI k) = some (iI (cvI a x y (aN a) k)) := by
  have hb := ha.b
  have hk' : (0 : Int32) ≤ iI k := (iI_le (a := 0) (by omega) (by omega) (by omega) (by omega)).mpr hk.1
  unfold f_X7_covering
  rw [L_hasCell hl ha (by omega) (by omega), ob_some, if_b, if_pos (by omega), if_pos hk', L_coveringPiece hl ha hx hy hk, ob_some]
theorem z_covering_no (hl : LOK s a) (ha : AOK a) {x y : Int} (hx : -2147483648 ≤ x ∧ x < 2147483648) (hy : -2147483648 ≤ y ∧ y < 2147483648) (h : ¬ ((0 ≤ x ∧ x < aC a) ∧ 0 ≤ y ∧ y < aR a)) (k : Int32) : f_X7_covering s (iI x) (iI y) k = some (-101 : Int32) := by
  unfold f_X7_covering
  rw [L_hasCell hl ha hx hy, ob_some, if_b, if_neg h]
theorem z_byShare0 (hl : LOK s a) (ha : AOK a) (hG : LK s a G) (k : Nat) (ss : SiS) (hk : k ≤ 12) : (∃ j, j < aN a ∧ rnk a j = k ∧ f_X7_byShare s ss (iI (k : Int)) = some (iI (j : Int), G ss)) ∨ ((∀ j, j < aN a → rnk a j ≠ k) ∧ f_X7_byShare s ss (iI (k : Int)) = some ((-109 : Int32), G ss)) := by
  have hb := ha.b
  have c : (0 : Int32) ≤ iI (k : Int) := (iI_le (a := 0) (by omega) (by omega) (by omega) (by omega)).mpr (by omega)
  have kc := x_for (B := b_X7_byShare_16 s (iI (k : Int)) (G ss)) (fun i (_ : Unit) => iI (i : Int)) (fun i _ => ∀ j, j < i → rnk a j ≠ k) (aN a) (fun b => (∃ j, j < aN a ∧ rnk a j = k ∧ b = Sum.inl (iI (j : Int), G ss)) ∨ ((∀ j, j < aN a → rnk a j ≠ k) ∧ ∃ z, b = Sum.inr z))
    (by
      intro i _ hi hI
      have hr := rnk_le a i
      rw [b_X7_byShare_16]
      unfold f_X1_pieces
      rw [ob_some, hl.n, S_rank hl ha (hG ss).2 hi, ob_some]
      simp (disch := omega) only [iI_le]
      rw [if_neg (by omega)]
      by_cases g : rnk a i = k
      · right
        rw [if_pos (show iI (rnk a i : Int) = iI (k : Int) by rw [g])]
        exact ⟨_, rfl, Or.inl ⟨i, hi, g, rfl⟩⟩
      · left
        have g' : ¬ iI (rnk a i : Int) = iI (k : Int) := fun z => by
          have := (iI_eq (by omega) (by omega) (by omega) (by omega)).mp z
          omega
        rw [if_neg g', iI_suc]
        refine ⟨(), rfl, fun j hj => ?_⟩
        by_cases e : j = i
        · subst e; exact g
        · exact hI j (by omega))
    (by
      intro _ hI
      rw [b_X7_byShare_16]
      unfold f_X1_pieces
      rw [ob_some, hl.n]
      simp (disch := omega) only [iI_le]
      rw [if_pos (by omega)]
      exact ⟨_, rfl, Or.inr ⟨hI, _, rfl⟩⟩) () (fun j hj => by omega) (by omega)
  obtain ⟨b, e, h⟩ := kc
  have e' : x_loop (b_X7_byShare_16 s (iI (k : Int)) (G ss)) x_fuel (0 : Int32) = some b := e
  rcases h with ⟨j, h1, h2, rfl⟩ | ⟨h1, z, rfl⟩
  · refine Or.inl ⟨j, h1, h2, ?_⟩
    unfold f_X7_byShare
    rw [if_pos c, (hG ss).1, ob_some, e', ob_some]
    rfl
  · refine Or.inr ⟨h1, ?_⟩
    unfold f_X7_byShare
    rw [if_pos c, (hG ss).1, ob_some, e', ob_some]
    rfl
theorem z_byShare (hl : LOK s a) (ha : AOK a) (hG : LK s a G) {v : Nat → Nat} (hv : ∀ i, i < aN a → v i < aN a ∧ rnk a (v i) = i) {k : Nat} (hk : k < aN a) (ss : SiS) : f_X7_byShare s ss (iI (k : Int)) = some (iI (v k : Int), G ss) := by
  have hb := ha.b
  obtain ⟨h1, h2⟩ := hv k hk
  rcases z_byShare0 hl ha hG k ss (by omega) with ⟨j, g1, g2, g3⟩ | ⟨g1, -⟩
  · have : j = v k := rnk_inj ha g1 h1 (by omega)
    rw [← this]
    exact g3
  · exact absurd h2 (g1 _ h1)
theorem z_byShare_no (hl : LOK s a) (ha : AOK a) (hG : LK s a G) (ss : SiS) : f_X7_byShare s ss (iI (aN a : Int)) = some ((-109 : Int32), G ss) := by
  have hb := ha.b
  rcases z_byShare0 hl ha hG (aN a) ss (by omega) with ⟨j, g1, g2, -⟩ | ⟨-, g2⟩
  · have := rnk_lt g1
    omega
  · exact g2
theorem z_byShare_neg (ss : SiS) : f_X7_byShare s ss (-1 : Int32) = some ((-101 : Int32), ss) := by
  unfold f_X7_byShare
  rw [if_neg (by decide)]
end ZA
