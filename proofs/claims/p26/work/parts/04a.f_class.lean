def f_X7_isWithin (p0 : Int32) (p1 : Int32) (p2 : Int32) : Option (Int32) :=
  if p0 < p1 then
    some (0 : Int32)
  else
    if p2 < p0 then
      some (0 : Int32)
    else
      some (1 : Int32)
def f_X7_at (nA : Nat) (ua : (Nat → Int32)) (p1 : Int32) : Option (Int32) :=
  if p1 < 0 then
    some (0 : Int32)
  else
    if (nI nA) ≤ p1 then
      some (0 : Int32)
    else
      (x_ld nA ua p1).bind fun v1 =>
      some v1
def f_X7_put (nA : Nat) (ua : (Nat → Int32)) (p1 : Int32) (p2 : Int32) : Option ((Nat → Int32)) :=
  if p1 < 0 then
    some ua
  else
    if (nI nA) ≤ p1 then
      some ua
    else
      (x_st nA ua p1 p2).bind fun g1 =>
      some g1
def f_X7_at_tL (p1 : Int32) : Option (Int32) :=
  if p1 < 0 then
    some (0 : Int32)
  else
    if (6 : Int32) ≤ p1 then
      some (0 : Int32)
    else
      (x_ld 6 xLow p1).bind fun v1 =>
      some v1
def f_X7_at_tH (p1 : Int32) : Option (Int32) :=
  if p1 < 0 then
    some (0 : Int32)
  else
    if (6 : Int32) ≤ p1 then
      some (0 : Int32)
    else
      (x_ld 6 xHigh p1).bind fun v1 =>
      some v1
def f_X7_fits (p0 : Int32) (p1 : Int32) : Option (Int32) :=
  (f_X7_at_tL p0).bind fun r1 =>
  (f_X7_at_tH p0).bind fun r3 =>
  (f_X7_isWithin p1 r1 r3).bind fun r5 =>
  (x_zr r5).bind fun w7 =>
  some r5
def f_X1_take (ut : LyS) (uo : LyS) : Option (LyS) :=
  (x_cp 72 72 (L_props uo) (L_props ut) (0 : Int32) (0 : Int32) (72 : Int32)).bind fun g1 =>
  (x_cp 12 12 (L_order uo) (L_order ut) (0 : Int32) (0 : Int32) (12 : Int32)).bind fun g2 =>
  some (L_set_cost (L_set_n (L_set_rows (L_set_cols (L_set_order (L_set_props ut g1) g2) (L_cols uo)) (L_rows uo)) (L_n uo)) (L_cost uo))
def f_X1_columns (ut : LyS) : Option (Int32) :=
  some (L_cols ut)
def f_X1_rows (ut : LyS) : Option (Int32) :=
  some (L_rows ut)
def f_X1_pieces (ut : LyS) : Option (Int32) :=
  some (L_n ut)
def f_X1_cost (ut : LyS) : Option (Int32) :=
  some (L_cost ut)
def f_X1_isFull (ut : LyS) : Option (Int32) :=
  if (L_n ut) < (12 : Int32) then
    some (0 : Int32)
  else
    some (1 : Int32)
def f_X1_has (ut : LyS) (p0 : Int32) : Option (Int32) :=
  if p0 < 0 then
    some (0 : Int32)
  else
    if (L_n ut) ≤ p0 then
      some (0 : Int32)
    else
      some (1 : Int32)
def f_X1_hasRow (ut : LyS) (p0 : Int32) : Option (Int32) :=
  if p0 < 0 then
    some (0 : Int32)
  else
    if (L_rows ut) ≤ p0 then
      some (0 : Int32)
    else
      some (1 : Int32)
def f_X1_hasCell (ut : LyS) (p0 : Int32) (p1 : Int32) : Option (Int32) :=
  if p0 < 0 then
    some (0 : Int32)
  else
    if (L_cols ut) ≤ p0 then
      some (0 : Int32)
    else
      (f_X1_hasRow ut p1).bind fun r1 =>
      if r1 = 0 then
        some (0 : Int32)
      else
        some (1 : Int32)
def f_X1_get (ut : LyS) (p0 : Int32) (p1 : Int32) : Option (Int32) :=
  x_nm ((p0 * (6 : Int32)) + p1) fun x1 =>
  if x1 < 0 then
    some (0 : Int32)
  else
    if (72 : Int32) ≤ x1 then
      some (0 : Int32)
    else
      (x_ld 72 (L_props ut) x1).bind fun v2 =>
      some v2
def f_X1_set (ut : LyS) (p0 : Int32) (p1 : Int32) (p2 : Int32) : Option (LyS) :=
  (f_X7_put 72 (L_props ut) ((p0 * (6 : Int32)) + p1) p2).bind fun g1 =>
  some (L_set_props ut g1)
def f_X1_pieceIn (ut : LyS) (p0 : Int32) : Option (Int32) :=
  (f_X7_at 12 (L_order ut) p0).bind fun r1 =>
  some r1
def b_X1_layerOf_2 (ut : LyS) (p0 : Int32) : Int32 → Option ((Int32) ⊕ (Int32 ⊕ (Int32)))
  | x1 =>
  if (L_n ut) ≤ x1 then
    some (.inr (.inr x1))
  else
    (f_X7_at 12 (L_order ut) x1).bind fun r2 =>
    if r2 = p0 then
      some (.inr (.inl x1))
    else
      some (.inl (x1 + (1 : Int32)))
def f_X1_layerOf (ut : LyS) (p0 : Int32) : Option (Int32) :=
  (x_loop (b_X1_layerOf_2 ut p0) x_fuel (0 : Int32)).bind fun z_ => Sum.elim (fun r_ => some r_) (fun x4 =>
  some (-109 : Int32)) z_
def f_X1_resize (ut : LyS) (p0 : Int32) (p1 : Int32) : Option (LyS) :=
  some (L_set_rows (L_set_cols ut p0) p1)
def b_X1_addBlank_7 (ut : LyS) : Int32 × LyS → Option ((Int32 × LyS) ⊕ (Int32 × LyS))
  | (x1, s2) =>
  if (6 : Int32) ≤ x1 then
    some (.inr (x1, s2))
  else
    (f_X1_set s2 (L_n ut) x1 (0 : Int32)).bind fun s3 =>
    some (.inl ((x1 + (1 : Int32)), s3))
def f_X1_addBlank (ut : LyS) : Option (Int32 × LyS) :=
  (x_loop (b_X1_addBlank_7 ut) x_fuel ((0 : Int32), ut)).bind fun (x5, s6) =>
  (f_X7_put 12 (L_order s6) (L_n ut) (L_n ut)).bind fun g7 =>
  x_nm ((L_n s6) + (1 : Int32)) fun x9 =>
  some ((L_n ut), (L_set_n (L_set_order s6 g7) x9))
def b_X1_putIntoLayer_9 (p1 : Int32) : Int32 × LyS → Option ((Int32 × LyS) ⊕ (Int32 × LyS))
  | (x3, s4) =>
  if p1 ≤ x3 then
    some (.inr (x3, s4))
  else
    (f_X7_at 12 (L_order s4) (x3 + (1 : Int32))).bind fun r5 =>
    (f_X7_put 12 (L_order s4) x3 r5).bind fun g7 =>
    some (.inl ((x3 + (1 : Int32)), (L_set_order s4 g7)))
def b_X1_putIntoLayer_44 (p1 : Int32) : Int32 × LyS → Option ((Int32 × LyS) ⊕ (Int32 × LyS))
  | (x11, s12) =>
  if x11 ≤ p1 then
    some (.inr (x11, s12))
  else
    (f_X7_at 12 (L_order s12) (x11 - (1 : Int32))).bind fun r13 =>
    (f_X7_put 12 (L_order s12) x11 r13).bind fun g15 =>
    some (.inl ((x11 + (-1 : Int32)), (L_set_order s12 g15)))
def f_X1_putIntoLayer (ut : LyS) (p0 : Int32) (p1 : Int32) : Option (Int32 × LyS) :=
  (f_X1_layerOf ut p0).bind fun r1 =>
  (x_loop (b_X1_putIntoLayer_9 p1) x_fuel (r1, ut)).bind fun (x9, s10) =>
  (x_loop (b_X1_putIntoLayer_44 p1) x_fuel (r1, s10)).bind fun (x17, s18) =>
  (f_X7_put 12 (L_order s18) p1 p0).bind fun g19 =>
  some (r1, (L_set_order s18 g19))
def b_X1_remove_24 (p0 : Int32) : Int32 × LyS → Option ((Int32 × LyS) ⊕ (Int32 × LyS))
  | (x5, s6) =>
  if (L_n s6) ≤ x5 then
    some (.inr (x5, s6))
  else
    (f_X7_at 12 (L_order s6) x5).bind fun r7 =>
    ((
      if r7 ≤ p0 then
        some r7
      else
        some (r7 - (1 : Int32)) : Option (Int32))).bind fun x9 =>
    (f_X7_put 12 (L_order s6) x5 x9).bind fun g10 =>
    some (.inl ((x5 + (1 : Int32)), (L_set_order s6 g10)))
def b_X1_remove_72 : Int32 × LyS → Option ((Int32 × LyS) ⊕ (Int32 × LyS))
  | (x15, s16) =>
  if ((L_n s16) * (6 : Int32)) ≤ x15 then
    some (.inr (x15, s16))
  else
    (f_X7_at 72 (L_props s16) (x15 + (6 : Int32))).bind fun r17 =>
    (f_X7_put 72 (L_props s16) x15 r17).bind fun g19 =>
    some (.inl ((x15 + (1 : Int32)), (L_set_props s16 g19)))
def f_X1_remove (ut : LyS) (p0 : Int32) : Option (LyS) :=
  (f_X1_putIntoLayer ut p0 ((L_n ut) - (1 : Int32))).bind fun (r1, s2) =>
  x_nm ((L_n s2) - (1 : Int32)) fun x4 =>
  (x_loop (b_X1_remove_24 p0) x_fuel ((0 : Int32), (L_set_n s2 x4))).bind fun (x12, s13) =>
  x_nm (p0 * (6 : Int32)) fun x14 =>
  (x_loop (b_X1_remove_72) x_fuel (x14, s13)).bind fun (x21, s22) =>
  some s22
def f_X1_canMove (ut : LyS) (p0 : Int32) (p1 : Int32) (p2 : Int32) : Option (Int32) :=
  (f_X1_get ut p0 (0 : Int32)).bind fun r1 =>
  (f_X7_fits (0 : Int32) (r1 + p1)).bind fun r3 =>
  if r3 = 0 then
    some (0 : Int32)
  else
    (f_X1_get ut p0 (1 : Int32)).bind fun r5 =>
    (f_X7_fits (1 : Int32) (r5 + p2)).bind fun r7 =>
    if r7 = 0 then
      some (0 : Int32)
    else
      some (1 : Int32)
def f_X1_move (ut : LyS) (p0 : Int32) (p1 : Int32) (p2 : Int32) : Option (Int32 × LyS) :=
  x_nm ((x_abs p1) + (x_abs p2)) fun x1 =>
  (f_X1_get ut p0 (0 : Int32)).bind fun r2 =>
  (f_X1_set ut p0 (0 : Int32) (r2 + p1)).bind fun s4 =>
  (f_X1_get s4 p0 (1 : Int32)).bind fun r6 =>
  (f_X1_set s4 p0 (1 : Int32) (r6 + p2)).bind fun s8 =>
  x_nm ((L_cost s8) + x1) fun x10 =>
  some (x1, (L_set_cost s8 x10))
def f_X1_span (ut : LyS) (p0 : Int32) (p1 : Int32) : Option (Int32) :=
  ((
    if p0 ≤ 0 then
      some (0 : Int32)
    else
      some p0 : Option (Int32))).bind fun x1 =>
  ((
    if (L_cols ut) ≤ (p0 + p1) then
      some (L_cols ut)
    else
      some (p0 + p1) : Option (Int32))).bind fun x2 =>
  if x2 ≤ x1 then
    some (0 : Int32)
  else
    some (((1 : Int32) <<< (x2 &&& 31)) - ((1 : Int32) <<< (x1 &&& 31)))
def f_X1_coverRow (ut : LyS) (p0 : Int32) (p1 : Int32) : Option (Int32) :=
  (f_X1_get ut p0 (1 : Int32)).bind fun r1 =>
  x_nm (p1 - r1) fun x3 =>
  (f_X1_hasRow ut p1).bind fun r4 =>
  ((
    if r4 = 0 then
      some (0 : Int32)
    else
      if x3 < 0 then
        some (0 : Int32)
      else
        (f_X1_get ut p0 (3 : Int32)).bind fun r7 =>
        if r7 ≤ x3 then
          some (0 : Int32)
        else
          some (1 : Int32) : Option (Int32))).bind fun x6 =>
  if x6 = 0 then
    some (0 : Int32)
  else
    (f_X1_get ut p0 (0 : Int32)).bind fun r9 =>
    (f_X1_get ut p0 (2 : Int32)).bind fun r11 =>
    (f_X1_span ut r9 r11).bind fun r13 =>
    some r13
def b_X1_coveringPiece_11 (ut : LyS) (p0 : Int32) (p1 : Int32) : Int32 × Int32 → Option ((Int32 × Int32) ⊕ (Int32 ⊕ (Int32 × Int32)))
  | (x2, x3) =>
  if x3 < 0 then
    some (.inr (.inr (x2, x3)))
  else
    (f_X7_at 12 (L_order ut) x3).bind fun r4 =>
    (f_X1_coverRow ut r4 p1).bind fun r6 =>
    if ((r6 >>> (p0 &&& 31)) &&& (1 : Int32)) = 0 then
      some (.inl (x2, (x3 + (-1 : Int32))))
    else
      if x2 = 0 then
        some (.inr (.inl r4))
      else
        some (.inl ((x2 + (-1 : Int32)), (x3 + (-1 : Int32))))
def f_X1_coveringPiece (ut : LyS) (p0 : Int32) (p1 : Int32) (p2 : Int32) : Option (Int32) :=
  x_nm ((L_n ut) - (1 : Int32)) fun x1 =>
  (x_loop (b_X1_coveringPiece_11 ut p0 p1) x_fuel (p2, x1)).bind fun z_ => Sum.elim (fun r_ => some r_) (fun (x8, x9) =>
  some (-109 : Int32)) z_
def f_X1_area (ut : LyS) (p0 : Int32) : Option (Int32) :=
  (f_X1_get ut p0 (2 : Int32)).bind fun r1 =>
  (f_X1_get ut p0 (3 : Int32)).bind fun r3 =>
  some (r1 * r3)
def f_J6_bitCount_0f7a4 (p0 : Int32) : Option (Int32) :=
  x_nm (p0 - ((x_ushr p0 (1 : Int32)) &&& (1431655765 : Int32))) fun x1 =>
  x_nm ((x1 &&& (858993459 : Int32)) + ((x_ushr x1 (2 : Int32)) &&& (858993459 : Int32))) fun x2 =>
  x_nm ((x2 + (x_ushr x2 (4 : Int32))) &&& (252645135 : Int32)) fun x3 =>
  x_nm (x3 + (x_ushr x3 (8 : Int32))) fun x4 =>
  x_nm (x4 + (x_ushr x4 (16 : Int32))) fun x5 =>
  some (x5 &&& (63 : Int32))
def b_X1_cellsOutside_4 (ut : LyS) (p0 : Int32) : Int32 × Int32 → Option ((Int32 × Int32) ⊕ (Int32 × Int32))
  | (x1, x2) =>
  if (L_rows ut) ≤ x2 then
    some (.inr (x1, x2))
  else
    (f_X1_coverRow ut p0 x2).bind fun r3 =>
    (f_J6_bitCount_0f7a4 r3).bind fun r5 =>
    x_nm (x1 + r5) fun x7 =>
    some (.inl (x7, (x2 + (1 : Int32))))
def f_X1_cellsOutside (ut : LyS) (p0 : Int32) : Option (Int32) :=
  (x_loop (b_X1_cellsOutside_4 ut p0) x_fuel ((0 : Int32), (0 : Int32))).bind fun (x8, x9) =>
  (f_X1_area ut p0).bind fun r10 =>
  some (r10 - x8)
def b_J7_fill_53178_5 (p1 : Int32) (nA : Nat) : Int32 × (Nat → Int32) → Option ((Int32 × (Nat → Int32)) ⊕ (Int32 × (Nat → Int32)))
  | (x1, s2) =>
  if (nI nA) ≤ x1 then
    some (.inr (x1, s2))
  else
    (x_st nA s2 x1 p1).bind fun g3 =>
    some (.inl ((x1 + (1 : Int32)), g3))
def f_J7_fill_53178 (nA : Nat) (ua : (Nat → Int32)) (p1 : Int32) : Option ((Nat → Int32)) :=
  (x_loop (b_J7_fill_53178_5 p1 nA) x_fuel ((0 : Int32), ua)).bind fun (x4, s5) =>
  some s5
def b_X5_lookAt_53 (ulay : LyS) (p0 : Int32) (r9 : Int32) (r3 : Int32) (r1 : Int32) : Int32 × Int32 × SiS → Option ((Int32 × Int32 × SiS) ⊕ (Int32 × Int32 × SiS))
  | (x11, x12, s13) =>
  if r3 ≤ x12 then
    some (.inr (x11, x12, s13))
  else
    x_nm (r1 + x12) fun x14 =>
    (f_X7_at 24 (S_cov s13) x14).bind fun r15 =>
    (f_X1_hasRow ulay x14).bind fun r17 =>
    ((
      if r17 = 0 then
        some (0 : Int32)
      else
        some (r9 &&& (r15 ^^^ (-1 : Int32))) : Option (Int32))).bind fun x19 =>
    (f_X7_put 144 (S_seen s13) ((p0 * (12 : Int32)) + x12) x19).bind fun g20 =>
    (f_X7_put 24 (S_cov s13) x14 (r15 ||| x19)).bind fun g22 =>
    (f_J6_bitCount_0f7a4 x19).bind fun r24 =>
    x_nm (x11 + r24) fun x26 =>
    some (.inl (x26, (x12 + (1 : Int32)), (S_set_cov (S_set_seen s13 g20) g22)))
def f_X5_lookAt (ut : SiS) (ulay : LyS) (p0 : Int32) : Option (SiS) :=
  (f_X1_get ulay p0 (1 : Int32)).bind fun r1 =>
  (f_X1_get ulay p0 (3 : Int32)).bind fun r3 =>
  (f_X1_get ulay p0 (0 : Int32)).bind fun r5 =>
  (f_X1_get ulay p0 (2 : Int32)).bind fun r7 =>
  (f_X1_span ulay r5 r7).bind fun r9 =>
  (x_loop (b_X5_lookAt_53 ulay p0 r9 r3 r1) x_fuel ((0 : Int32), (0 : Int32), ut)).bind fun (x27, x28, s29) =>
  (f_X7_put 12 (S_cells s29) p0 x27).bind fun g30 =>
  some (S_set_cells s29 g30)
def b_X5_look_18 (ulay : LyS) : Int32 × SiS → Option ((Int32 × SiS) ⊕ (Int32 × SiS))
  | (x6, s7) =>
  if x6 < 0 then
    some (.inr (x6, s7))
  else
    (f_X1_pieceIn ulay x6).bind fun r8 =>
    (f_X5_lookAt s7 ulay r8).bind fun s10 =>
    some (.inl ((x6 + (-1 : Int32)), s10))
def f_X5_look (ut : SiS) (ulay : LyS) : Option (SiS) :=
  (f_J7_fill_53178 24 (S_cov ut) (0 : Int32)).bind fun g1 =>
  (f_X1_pieces ulay).bind fun r3 =>
  x_nm (r3 - (1 : Int32)) fun x5 =>
  (x_loop (b_X5_look_18 ulay) x_fuel (x5, (S_set_cov ut g1))).bind fun (x12, s13) =>
  some s13
def f_X5_rowOf (ut : SiS) (ulay : LyS) (p0 : Int32) (p1 : Int32) : Option (Int32) :=
  if p0 = (-1 : Int32) then
    (f_X1_columns ulay).bind fun r1 =>
    (f_X1_span ulay (0 : Int32) r1).bind fun r3 =>
    (f_X1_hasRow ulay p1).bind fun r5 =>
    if r5 = 0 then
      some (0 : Int32)
    else
      (f_X7_at 24 (S_cov ut) p1).bind fun r7 =>
      some (r3 &&& (r7 ^^^ (-1 : Int32)))
  else
    (f_X1_get ulay p0 (1 : Int32)).bind fun r9 =>
    x_nm (p1 - r9) fun x11 =>
    ((
      if x11 < 0 then
        some (0 : Int32)
      else
        (f_X1_get ulay p0 (3 : Int32)).bind fun r13 =>
        if r13 ≤ x11 then
          some (0 : Int32)
        else
          some (1 : Int32) : Option (Int32))).bind fun x12 =>
    if x12 = 0 then
      some (0 : Int32)
    else
      (f_X7_at 144 (S_seen ut) ((p0 * (12 : Int32)) + x11)).bind fun r15 =>
      some r15
def f_X5_cells (ut : SiS) (p0 : Int32) : Option (Int32) :=
  (f_X7_at 12 (S_cells ut) p0).bind fun r1 =>
  some r1
def f_X5_isContent (ut : SiS) (ulay : LyS) (p0 : Int32) : Option (Int32) :=
  (f_X1_get ulay p0 (4 : Int32)).bind fun r1 =>
  (f_X1_get ulay p0 (2 : Int32)).bind fun r3 =>
  (f_X1_get ulay p0 (3 : Int32)).bind fun r5 =>
  x_nm ((r1 * r3) * r5) fun x7 =>
  (f_X7_at 12 (S_cells ut) p0).bind fun r8 =>
  if (r8 * (100 : Int32)) < x7 then
    some (0 : Int32)
  else
    some (1 : Int32)
def b_X5_contentPieces_4 (ut : SiS) (ulay : LyS) : Int32 × Int32 → Option ((Int32 × Int32) ⊕ (Int32 × Int32))
  | (x1, x2) =>
  (f_X1_pieces ulay).bind fun r3 =>
  if r3 ≤ x2 then
    some (.inr (x1, x2))
  else
    (f_X5_isContent ut ulay x2).bind fun r5 =>
    if r5 = 0 then
      some (.inl (x1, (x2 + (1 : Int32))))
    else
      some (.inl ((x1 + (1 : Int32)), (x2 + (1 : Int32))))
def f_X5_contentPieces (ut : SiS) (ulay : LyS) : Option (Int32) :=
  (x_loop (b_X5_contentPieces_4 ut ulay) x_fuel ((0 : Int32), (0 : Int32))).bind fun (x7, x8) =>
  some x7
def b_X5_unseenPieces_4 (ut : SiS) (ulay : LyS) : Int32 × Int32 → Option ((Int32 × Int32) ⊕ (Int32 × Int32))
  | (x1, x2) =>
  (f_X1_pieces ulay).bind fun r3 =>
  if r3 ≤ x2 then
    some (.inr (x1, x2))
  else
    (f_X7_at 12 (S_cells ut) x2).bind fun r5 =>
    if r5 = 0 then
      some (.inl ((x1 + (1 : Int32)), (x2 + (1 : Int32))))
    else
      some (.inl (x1, (x2 + (1 : Int32))))
def f_X5_unseenPieces (ut : SiS) (ulay : LyS) : Option (Int32) :=
  (x_loop (b_X5_unseenPieces_4 ut ulay) x_fuel ((0 : Int32), (0 : Int32))).bind fun (x7, x8) =>
  some x7
def b_X5_pageCells_4 (ut : SiS) (ulay : LyS) : Int32 × Int32 → Option ((Int32 × Int32) ⊕ (Int32 × Int32))
  | (x1, x2) =>
  (f_X1_rows ulay).bind fun r3 =>
  if r3 ≤ x2 then
    some (.inr (x1, x2))
  else
    (f_X5_rowOf ut ulay (-1 : Int32) x2).bind fun r5 =>
    (f_J6_bitCount_0f7a4 r5).bind fun r7 =>
    x_nm (x1 + r7) fun x9 =>
    some (.inl (x9, (x2 + (1 : Int32))))
def f_X5_pageCells (ut : SiS) (ulay : LyS) : Option (Int32) :=
  (x_loop (b_X5_pageCells_4 ut ulay) x_fuel ((0 : Int32), (0 : Int32))).bind fun (x10, x11) =>
  some x10
def b_X5_isWholly_18 (ut : SiS) (ulay : LyS) (p0 : Int32) (p2 : Int32) (p4 : Int32) (r1 : Int32) : Int32 × Int32 → Option ((Int32 × Int32) ⊕ (Int32 × Int32))
  | (x3, x4) =>
  if (p2 + p4) ≤ x4 then
    some (.inr (x3, x4))
  else
    (f_X5_rowOf ut ulay p0 x4).bind fun r5 =>
    (f_J6_bitCount_0f7a4 (r5 &&& r1)).bind fun r7 =>
    x_nm (x3 + r7) fun x9 =>
    some (.inl (x9, (x4 + (1 : Int32))))
def f_X5_isWholly (ut : SiS) (ulay : LyS) (p0 : Int32) (p1 : Int32) (p2 : Int32) (p3 : Int32) (p4 : Int32) : Option (Int32) :=
  (f_X1_span ulay p1 p3).bind fun r1 =>
  (x_loop (b_X5_isWholly_18 ut ulay p0 p2 p4 r1) x_fuel ((0 : Int32), p2)).bind fun (x10, x11) =>
  if x10 = (p3 * p4) then
    some (1 : Int32)
  else
    some (0 : Int32)
def f_X5_cutStrips (ut : SiS) (ulay : LyS) (p0 : Int32) : Option (Int32) :=
  (f_X1_get ulay p0 (0 : Int32)).bind fun r1 =>
  (f_X1_get ulay p0 (1 : Int32)).bind fun r3 =>
  (f_X1_get ulay p0 (2 : Int32)).bind fun r5 =>
  (f_X1_get ulay p0 (3 : Int32)).bind fun r7 =>
  (f_X1_get ulay p0 (5 : Int32)).bind fun r9 =>
  x_nm (x_min r9 r5) fun x11 =>
  (f_X1_get ulay p0 (5 : Int32)).bind fun r12 =>
  x_nm (x_min r12 r7) fun x14 =>
  (f_X5_isWholly ut ulay p0 r1 r3 x11 r7).bind fun r15 =>
  ((
    if r15 = 0 then
      some (1 : Int32)
    else
      some (0 : Int32) : Option (Int32))).bind fun x17 =>
  (f_X5_isWholly ut ulay p0 r1 r3 r5 x14).bind fun r18 =>
  ((
    if r18 = 0 then
      some (2 : Int32)
    else
      some (0 : Int32) : Option (Int32))).bind fun x20 =>
  x_nm (x17 ||| x20) fun x21 =>
  (f_X5_isWholly ut ulay p0 ((r1 + r5) - x11) r3 x11 r7).bind fun r22 =>
  ((
    if r22 = 0 then
      some (4 : Int32)
    else
      some (0 : Int32) : Option (Int32))).bind fun x24 =>
  x_nm (x21 ||| x24) fun x25 =>
  (f_X5_isWholly ut ulay p0 r1 ((r3 + r7) - x14) r5 x14).bind fun r26 =>
  if r26 = 0 then
    x_nm (x25 ||| (8 : Int32)) fun x28 =>
    some x28
  else
    x_nm (x25 ||| (0 : Int32)) fun x29 =>
    some x29
def b_X5_wholeFrames_4 (ut : SiS) (ulay : LyS) : Int32 × Int32 → Option ((Int32 × Int32) ⊕ (Int32 × Int32))
  | (x1, x2) =>
  (f_X1_pieces ulay).bind fun r3 =>
  if r3 ≤ x2 then
    some (.inr (x1, x2))
  else
    (f_X1_get ulay x2 (5 : Int32)).bind fun r5 =>
    if r5 ≤ 0 then
      some (.inl (x1, (x2 + (1 : Int32))))
    else
      (f_X5_cutStrips ut ulay x2).bind fun r7 =>
      if r7 = 0 then
        some (.inl ((x1 + (1 : Int32)), (x2 + (1 : Int32))))
      else
        some (.inl (x1, (x2 + (1 : Int32))))
def f_X5_wholeFrames (ut : SiS) (ulay : LyS) : Option (Int32) :=
  (x_loop (b_X5_wholeFrames_4 ut ulay) x_fuel ((0 : Int32), (0 : Int32))).bind fun (x9, x10) =>
  some x9
def b_X5_edgeBetween_5 (ut : SiS) (ulay : LyS) (p0 : Int32) (p1 : Int32) : Int32 × Int32 → Option ((Int32 × Int32) ⊕ (Int32 × Int32))
  | (x1, x2) =>
  (f_X1_rows ulay).bind fun r3 =>
  if r3 ≤ x2 then
    some (.inr (x1, x2))
  else
    (f_X5_rowOf ut ulay p0 x2).bind fun r5 =>
    (f_X5_rowOf ut ulay p1 x2).bind fun r7 =>
    (f_J6_bitCount_0f7a4 (r5 &&& (r7 <<< ((1 : Int32) &&& 31)))).bind fun r9 =>
    x_nm (x1 + r9) fun x11 =>
    (f_J6_bitCount_0f7a4 (r5 &&& (r7 >>> ((1 : Int32) &&& 31)))).bind fun r12 =>
    x_nm (x11 + r12) fun x14 =>
    (f_X5_rowOf ut ulay p1 (x2 - (1 : Int32))).bind fun r15 =>
    (f_J6_bitCount_0f7a4 (r5 &&& r15)).bind fun r17 =>
    x_nm (x14 + r17) fun x19 =>
    (f_X5_rowOf ut ulay p1 (x2 + (1 : Int32))).bind fun r20 =>
    (f_J6_bitCount_0f7a4 (r5 &&& r20)).bind fun r22 =>
    x_nm (x19 + r22) fun x24 =>
    some (.inl (x24, (x2 + (1 : Int32))))
def f_X5_edgeBetween (ut : SiS) (ulay : LyS) (p0 : Int32) (p1 : Int32) : Option (Int32) :=
  (x_loop (b_X5_edgeBetween_5 ut ulay p0 p1) x_fuel ((0 : Int32), (0 : Int32))).bind fun (x25, x26) =>
  some x25
def b_X5_borderEdge_45 (ut : SiS) (ulay : LyS) (p0 : Int32) (x3 : Int32) : Int32 × Int32 → Option ((Int32 × Int32) ⊕ (Int32 × Int32))
  | (x15, x16) =>
  (f_X1_rows ulay).bind fun r17 =>
  if r17 ≤ x16 then
    some (.inr (x15, x16))
  else
    (f_X5_rowOf ut ulay p0 x16).bind fun r19 =>
    (f_J6_bitCount_0f7a4 (r19 &&& x3)).bind fun r21 =>
    x_nm (x15 + r21) fun x23 =>
    some (.inl (x23, (x16 + (1 : Int32))))
def f_X5_borderEdge (ut : SiS) (ulay : LyS) (p0 : Int32) : Option (Int32) :=
  (f_X1_columns ulay).bind fun r1 =>
  x_nm ((1 : Int32) ||| ((1 : Int32) <<< ((r1 - (1 : Int32)) &&& 31))) fun x3 =>
  (f_X5_rowOf ut ulay p0 (0 : Int32)).bind fun r4 =>
  (f_J6_bitCount_0f7a4 r4).bind fun r6 =>
  (f_X1_rows ulay).bind fun r8 =>
  (f_X5_rowOf ut ulay p0 (r8 - (1 : Int32))).bind fun r10 =>
  (f_J6_bitCount_0f7a4 r10).bind fun r12 =>
  x_nm (r6 + r12) fun x14 =>
  (x_loop (b_X5_borderEdge_45 ut ulay p0 x3) x_fuel (x14, (0 : Int32))).bind fun (x24, x25) =>
  some x24
def b_X5_hiddenCells_5 (ut : SiS) (ulay : LyS) (p0 : Int32) (p1 : Int32) : Int32 × Int32 → Option ((Int32 × Int32) ⊕ (Int32 × Int32))
  | (x1, x2) =>
  (f_X1_rows ulay).bind fun r3 =>
  if r3 ≤ x2 then
    some (.inr (x1, x2))
  else
    (f_X5_rowOf ut ulay p0 x2).bind fun r5 =>
    (f_X1_coverRow ulay p1 x2).bind fun r7 =>
    (f_J6_bitCount_0f7a4 (r5 &&& r7)).bind fun r9 =>
    x_nm (x1 + r9) fun x11 =>
    some (.inl (x11, (x2 + (1 : Int32))))
def f_X5_hiddenCells (ut : SiS) (ulay : LyS) (p0 : Int32) (p1 : Int32) : Option (Int32) :=
  (x_loop (b_X5_hiddenCells_5 ut ulay p0 p1) x_fuel ((0 : Int32), (0 : Int32))).bind fun (x12, x13) =>
  some x12
def f_X5_shareOf (ut : SiS) (ulay : LyS) (p0 : Int32) : Option (Int32) :=
  (f_X1_area ulay p0).bind fun r1 =>
  if r1 ≤ 0 then
    some (0 : Int32)
  else
    (f_X7_at 12 (S_cells ut) p0).bind fun r3 =>
    (x_div (r3 * (100 : Int32)) r1).bind fun v5 =>
    some v5
def b_X5_rankByShare_21 (ut : SiS) (ulay : LyS) (r3 : Int32) (r1 : Int32) : Int32 × Int32 → Option ((Int32 × Int32) ⊕ (Int32 × Int32))
  | (x5, x6) =>
  (f_X1_pieces ulay).bind fun r7 =>
  if r7 ≤ x6 then
    some (.inr (x5, x6))
  else
    (f_X5_shareOf ut ulay x6).bind fun r9 =>
    x_nm (r9 - r1) fun x11 =>
    if x11 < 0 then
      some (.inl ((x5 + (1 : Int32)), (x6 + (1 : Int32))))
    else
      if x11 = 0 then
        (f_X1_layerOf ulay x6).bind fun r12 =>
        if r3 ≤ r12 then
          some (.inl (x5, (x6 + (1 : Int32))))
        else
          some (.inl ((x5 + (1 : Int32)), (x6 + (1 : Int32))))
      else
        some (.inl (x5, (x6 + (1 : Int32))))
def f_X5_rankByShare (ut : SiS) (ulay : LyS) (p0 : Int32) : Option (Int32) :=
  (f_X5_shareOf ut ulay p0).bind fun r1 =>
  (f_X1_layerOf ulay p0).bind fun r3 =>
  (x_loop (b_X5_rankByShare_21 ut ulay r3 r1) x_fuel ((0 : Int32), (0 : Int32))).bind fun (x14, x15) =>
  some x14
def f_X2_number (ut : PaS) : Option (Int32) :=
  some (Pa_number ut)
def f_X2_largest (ut : PaS) : Option (Int32) :=
  some (Pa_largest ut)
def b_X2_grow_4 : Int32 × Int32 × PaS → Option ((Int32 × Int32 × PaS) ⊕ (Int32 × Int32 × PaS))
  | (x1, x2, s3) =>
  if (24 : Int32) ≤ x2 then
    some (.inr (x1, x2, s3))
  else
    (f_X7_at 24 (Pa_part s3) x2).bind fun r4 =>
    (f_X7_at 24 (Pa_part s3) (x2 - (1 : Int32))).bind fun r6 =>
    (f_X7_at 24 (Pa_part s3) (x2 + (1 : Int32))).bind fun r8 =>
    x_nm ((((r4 ||| (r4 <<< ((1 : Int32) &&& 31))) ||| (r4 >>> ((1 : Int32) &&& 31))) ||| r6) ||| r8) fun x10 =>
    (f_X7_at 24 (Pa_rest s3) x2).bind fun r11 =>
    x_nm (x10 &&& r11) fun x13 =>
    if x13 = r4 then
      some (.inl (x1, (x2 + (1 : Int32)), s3))
    else
      (f_X7_put 24 (Pa_part s3) x2 x13).bind fun g14 =>
      some (.inl ((1 : Int32), (x2 + (1 : Int32)), (Pa_set_part s3 g14)))
def f_X2_grow (ut : PaS) : Option (Int32 × PaS) :=
  (x_loop (b_X2_grow_4) x_fuel ((0 : Int32), (0 : Int32), ut)).bind fun (x16, x17, s18) =>
  (x_zr x16).bind fun w19 =>
  some (x16, s18)
def b_X2_takePart_38 : Int32 × Int32 × PaS → Option ((Int32 × Int32 × PaS) ⊕ (Int32 × Int32 × PaS))
  | (x9, x10, s11) =>
  if (576 : Int32) ≤ x10 then
    some (.inr (x9, x10, s11))
  else
    if x9 = 0 then
      some (.inr (x9, x10, s11))
    else
      (f_X2_grow s11).bind fun (r12, s13) =>
      some (.inl (r12, (x10 + (1 : Int32)), s13))
def b_X2_takePart_65 : Int32 × Int32 × PaS → Option ((Int32 × Int32 × PaS) ⊕ (Int32 × Int32 × PaS))
  | (x18, x19, s20) =>
  if (24 : Int32) ≤ x19 then
    some (.inr (x18, x19, s20))
  else
    (f_X7_at 24 (Pa_part s20) x19).bind fun r21 =>
    (f_J6_bitCount_0f7a4 r21).bind fun r23 =>
    x_nm (x18 + r23) fun x25 =>
    (f_X7_at 24 (Pa_rest s20) x19).bind fun r26 =>
    (f_X7_at 24 (Pa_part s20) x19).bind fun r28 =>
    (f_X7_put 24 (Pa_rest s20) x19 (r26 &&& (r28 ^^^ (-1 : Int32)))).bind fun g30 =>
    some (.inl (x25, (x19 + (1 : Int32)), (Pa_set_rest s20 g30)))
def f_X2_takePart (ut : PaS) (p0 : Int32) : Option (Int32 × PaS) :=
  (f_J7_fill_53178 24 (Pa_part ut) (0 : Int32)).bind fun g1 =>
  (f_X7_at 24 (Pa_rest ut) p0).bind fun r3 =>
  (f_X7_at 24 (Pa_rest ut) p0).bind fun r5 =>
  (f_X7_put 24 g1 p0 (r3 &&& (-r5))).bind fun g7 =>
  (x_loop (b_X2_takePart_38) x_fuel ((1 : Int32), (0 : Int32), (Pa_set_part ut g7))).bind fun (x15, x16, s17) =>
  (x_loop (b_X2_takePart_65) x_fuel ((0 : Int32), (0 : Int32), s17)).bind fun (x32, x33, s34) =>
  some (x32, s34)
def b_X2_split_12 (usi : SiS) (ulay : LyS) (p0 : Int32) : Int32 × PaS → Option ((Int32 × PaS) ⊕ (Int32 × PaS))
  | (x1, s2) =>
  if (24 : Int32) ≤ x1 then
    some (.inr (x1, s2))
  else
    (f_X5_rowOf usi ulay p0 x1).bind fun r3 =>
    (f_X7_put 24 (Pa_rest s2) x1 r3).bind fun g5 =>
    some (.inl ((x1 + (1 : Int32)), (Pa_set_rest s2 g5)))
def b_X2_split_51 (x9 : Int32) : Int32 × PaS → Option ((Int32 × PaS) ⊕ (Int32 × PaS))
  | (x11, s12) =>
  if (24 : Int32) ≤ x11 then
    some (.inr (x11, s12))
  else
    (f_X7_at 24 (Pa_rest s12) x9).bind fun r13 =>
    if r13 = 0 then
      some (.inr (x11, s12))
    else
      x_nm ((Pa_number s12) + (1 : Int32)) fun x15 =>
      (f_X2_takePart (Pa_set_number s12 x15) x9).bind fun (r16, s17) =>
      x_nm (x_max (Pa_largest s12) r16) fun x19 =>
      some (.inl ((x11 + (1 : Int32)), (Pa_set_largest s17 x19)))
def b_X2_split_43 : Int32 × PaS → Option ((Int32 × PaS) ⊕ (Int32 × PaS))
  | (x9, s10) =>
  if (24 : Int32) ≤ x9 then
    some (.inr (x9, s10))
  else
    (x_loop (b_X2_split_51 x9) x_fuel ((0 : Int32), s10)).bind fun (x20, s21) =>
    some (.inl ((x9 + (1 : Int32)), s21))
def f_X2_split (ut : PaS) (usi : SiS) (ulay : LyS) (p0 : Int32) : Option (PaS) :=
  (x_loop (b_X2_split_12 usi ulay p0) x_fuel ((0 : Int32), (Pa_set_largest (Pa_set_number ut (0 : Int32)) (0 : Int32)))).bind fun (x7, s8) =>
  (x_loop (b_X2_split_43) x_fuel ((0 : Int32), s8)).bind fun (x22, s23) =>
  some s23
def f_X0_size (ut : HiS) : Option (Int32) :=
  some (Hi_size ut)
def f_X0_record (ut : HiS) (uh0 : LyS) (uh1 : LyS) (uh2 : LyS) (uh3 : LyS) (uh4 : LyS) (uo : LyS) : Option (HiS × LyS × LyS × LyS × LyS × LyS) :=
  ((
    if (Hi_size ut) = (5 : Int32) then
      (x_rem ((Hi_first ut) + (1 : Int32)) (5 : Int32)).bind fun v2 =>
      x_nm ((Hi_size ut) - (1 : Int32)) fun x3 =>
      some (Hi_set_size (Hi_set_first ut v2) x3)
    else
      some ut : Option (HiS))).bind fun s1 =>
  (x_rem ((Hi_first s1) + (Hi_size s1)) 5).bind fun v4 =>
  if v4 = nI 0 then
    (f_X1_take uh0 uo).bind fun s5 =>
    x_nm ((Hi_size s1) + (1 : Int32)) fun x7 =>
    some ((Hi_set_size s1 x7), s5, uh1, uh2, uh3, uh4)
  else
  if v4 = nI 1 then
    (f_X1_take uh1 uo).bind fun s8 =>
    x_nm ((Hi_size s1) + (1 : Int32)) fun x10 =>
    some ((Hi_set_size s1 x10), uh0, s8, uh2, uh3, uh4)
  else
  if v4 = nI 2 then
    (f_X1_take uh2 uo).bind fun s11 =>
    x_nm ((Hi_size s1) + (1 : Int32)) fun x13 =>
    some ((Hi_set_size s1 x13), uh0, uh1, s11, uh3, uh4)
  else
  if v4 = nI 3 then
    (f_X1_take uh3 uo).bind fun s14 =>
    x_nm ((Hi_size s1) + (1 : Int32)) fun x16 =>
    some ((Hi_set_size s1 x16), uh0, uh1, uh2, s14, uh4)
  else
  if v4 = nI 4 then
    (f_X1_take uh4 uo).bind fun s17 =>
    x_nm ((Hi_size s1) + (1 : Int32)) fun x19 =>
    some ((Hi_set_size s1 x19), uh0, uh1, uh2, uh3, s17)
  else
    none
def f_X0_restore (ut : HiS) (uh0 : LyS) (uh1 : LyS) (uh2 : LyS) (uh3 : LyS) (uh4 : LyS) (uo : LyS) : Option (HiS × LyS) :=
  (x_rem ((Hi_first ut) + ((Hi_size ut) - (1 : Int32))) 5).bind fun v1 =>
  if v1 = nI 0 then
    (f_X1_take uo uh0).bind fun s2 =>
    x_nm ((Hi_size ut) - (1 : Int32)) fun x4 =>
    some ((Hi_set_size ut x4), s2)
  else
  if v1 = nI 1 then
    (f_X1_take uo uh1).bind fun s5 =>
    x_nm ((Hi_size ut) - (1 : Int32)) fun x7 =>
    some ((Hi_set_size ut x7), s5)
  else
  if v1 = nI 2 then
    (f_X1_take uo uh2).bind fun s8 =>
    x_nm ((Hi_size ut) - (1 : Int32)) fun x10 =>
    some ((Hi_set_size ut x10), s8)
  else
  if v1 = nI 3 then
    (f_X1_take uo uh3).bind fun s11 =>
    x_nm ((Hi_size ut) - (1 : Int32)) fun x13 =>
    some ((Hi_set_size ut x13), s11)
  else
  if v1 = nI 4 then
    (f_X1_take uo uh4).bind fun s14 =>
    x_nm ((Hi_size ut) - (1 : Int32)) fun x16 =>
    some ((Hi_set_size ut x16), s14)
  else
    none
def f_X3_dx (ut : PlS) : Option (Int32) :=
  some (Pl_dx ut)
def f_X3_dy (ut : PlS) : Option (Int32) :=
  some (Pl_dy ut)
def f_X3_cost (ut : PlS) : Option (Int32) :=
  some ((x_abs (Pl_dx ut)) + (x_abs (Pl_dy ut)))
def f_X3_contentPiecesNeeded (unow : LyS) (utr : LyS) (usi : SiS) (p0 : Int32) : Option (Int32 × SiS) :=
  if p0 = (1 : Int32) then
    (f_X5_look usi utr).bind fun s1 =>
    (f_X5_contentPieces s1 utr).bind fun r3 =>
    some (r3, s1)
  else
    if p0 = (2 : Int32) then
      (f_X1_pieces unow).bind fun r5 =>
      some (r5, usi)
    else
      some ((0 : Int32), usi)
def f_X3_reaches (ut : PlS) (unow : LyS) (utr : LyS) (usi : SiS) (p0 : Int32) (p1 : Int32) (p2 : Int32) (p3 : Int32) : Option (Int32 × PlS × LyS × SiS) :=
  (f_X1_canMove unow p0 p1 p2).bind fun r1 =>
  if r1 = 0 then
    some ((0 : Int32), ut, utr, usi)
  else
    (f_X1_get unow p0 (0 : Int32)).bind fun r3 =>
    (f_X1_set utr p0 (0 : Int32) (r3 + p1)).bind fun s5 =>
    (f_X1_get unow p0 (1 : Int32)).bind fun r7 =>
    (f_X1_set s5 p0 (1 : Int32) (r7 + p2)).bind fun s9 =>
    (f_X5_look usi s9).bind fun s11 =>
    (f_X5_isContent s11 s9 p0).bind fun r13 =>
    if r13 = 0 then
      some ((0 : Int32), (Pl_set_dy (Pl_set_dx ut p1) p2), s9, s11)
    else
      (f_X5_contentPieces s11 s9).bind fun r15 =>
      if r15 < p3 then
        some ((0 : Int32), (Pl_set_dy (Pl_set_dx ut p1) p2), s9, s11)
      else
        some ((1 : Int32), (Pl_set_dy (Pl_set_dx ut p1) p2), s9, s11)
def b_X3_findShift_32 (unow : LyS) (p0 : Int32) (x6 : Int32) (r3 : Int32) : Int32 × PlS × LyS × SiS → Option ((Int32 × PlS × LyS × SiS) ⊕ (Int32 × PlS × LyS × SiS ⊕ (Int32 × PlS × LyS × SiS)))
  | (x10, s11, s12, s13) =>
  if x6 < x10 then
    some (.inr (.inr (x10, s11, s12, s13)))
  else
    x_nm (x6 - (x_abs x10)) fun x14 =>
    (f_X3_reaches s11 unow s12 s13 p0 x10 (-x14) r3).bind fun (r15, s16, s17, s18) =>
    if r15 = 0 then
      if x14 ≤ 0 then
        some (.inl ((x10 + (1 : Int32)), s16, s17, s18))
      else
        (f_X3_reaches s16 unow s17 s18 p0 x10 x14 r3).bind fun (r20, s21, s22, s23) =>
        if r20 = 0 then
          some (.inl ((x10 + (1 : Int32)), s21, s22, s23))
        else
          some (.inr (.inl ((1 : Int32), s21, s22, s23)))
    else
      some (.inr (.inl ((1 : Int32), s16, s17, s18)))
def b_X3_findShift_21 (unow : LyS) (p0 : Int32) (p2 : Int32) (r3 : Int32) : Int32 × PlS × LyS × SiS → Option ((Int32 × PlS × LyS × SiS) ⊕ (Int32 × PlS × LyS × SiS ⊕ (Int32 × PlS × LyS × SiS)))
  | (x6, s7, s8, s9) =>
  if p2 < x6 then
    some (.inr (.inr (x6, s7, s8, s9)))
  else
    (x_loop (b_X3_findShift_32 unow p0 x6 r3) x_fuel ((-x6), s7, s8, s9)).bind fun z_ => Sum.elim (fun r_ => some (.inr (.inl r_))) (fun (x25, s26, s27, s28) =>
    some (.inl ((x6 + (1 : Int32)), s26, s27, s28))) z_
def f_X3_findShift (ut : PlS) (unow : LyS) (utr : LyS) (usi : SiS) (p0 : Int32) (p1 : Int32) (p2 : Int32) : Option (Int32 × PlS × LyS × SiS) :=
  (f_X1_take utr unow).bind fun s1 =>
  (f_X3_contentPiecesNeeded unow s1 usi p1).bind fun (r3, s4) =>
  (x_loop (b_X3_findShift_21 unow p0 p2 r3) x_fuel ((0 : Int32), ut, s1, s4)).bind fun z_ => Sum.elim (fun r_ => some r_) (fun (x29, s30, s31, s32) =>
  some ((0 : Int32), s30, s31, s32)) z_
def b_X3_lowestLayer_13 (unow : LyS) (p0 : Int32) : Int32 × LyS × SiS → Option ((Int32 × LyS × SiS) ⊕ (Int32 × LyS × SiS ⊕ (Int32 × LyS × SiS)))
  | (x3, s4, s5) =>
  (f_X1_pieces unow).bind fun r6 =>
  if r6 ≤ x3 then
    some (.inr (.inr (x3, s4, s5)))
  else
    (f_X1_putIntoLayer s4 p0 x3).bind fun (r8, s9) =>
    (f_X5_look s5 s9).bind fun s11 =>
    (f_X5_isContent s11 s9 p0).bind fun r13 =>
    if r13 = 0 then
      some (.inl ((x3 + (1 : Int32)), s9, s11))
    else
      some (.inr (.inl (x3, s9, s11)))
def f_X3_lowestLayer (unow : LyS) (utr : LyS) (usi : SiS) (p0 : Int32) : Option (Int32 × LyS × SiS) :=
  (f_X1_take utr unow).bind fun s1 =>
  (x_loop (b_X3_lowestLayer_13 unow p0) x_fuel ((0 : Int32), s1, usi)).bind fun z_ => Sum.elim (fun r_ => some r_) (fun (x15, s16, s17) =>
  some ((-109 : Int32), s16, s17)) z_
def b_X3_worstPiece_7 (unow : LyS) : Int32 × Int32 × Int32 × LyS × SiS → Option ((Int32 × Int32 × Int32 × LyS × SiS) ⊕ (Int32 × Int32 × Int32 × LyS × SiS))
  | (x1, x2, x3, s4, s5) =>
  (f_X1_pieces unow).bind fun r6 =>
  if r6 ≤ x3 then
    some (.inr (x1, x2, x3, s4, s5))
  else
    (f_X1_take s4 unow).bind fun s8 =>
    (f_X1_remove s8 x3).bind fun s10 =>
    (f_X5_look s5 s10).bind fun s12 =>
    (f_X5_contentPieces s12 s10).bind fun r14 =>
    if r14 ≤ x2 then
      some (.inl (x1, x2, (x3 + (1 : Int32)), s10, s12))
    else
      some (.inl (x3, r14, (x3 + (1 : Int32)), s10, s12))
def f_X3_worstPiece (unow : LyS) (utr : LyS) (usi : SiS) : Option (Int32 × LyS × SiS) :=
  (x_loop (b_X3_worstPiece_7 unow) x_fuel ((-109 : Int32), (-1 : Int32), (0 : Int32), utr, usi)).bind fun (x16, x17, x18, s19, s20) =>
  some (x16, s19, s20)
def f_X6_length (ut : TxS) : Option (Int32) :=
  some (Tx_len ut)
def f_X6_isFull (ut : TxS) : Option (Int32) :=
  if (Tx_len ut) < (120 : Int32) then
    some (0 : Int32)
  else
    some (1 : Int32)
def f_X6_add (ut : TxS) (p0 : Int32) : Option (TxS) :=
  (f_X7_put 120 (Tx_chars ut) (Tx_len ut) p0).bind fun g1 =>
  x_nm ((Tx_len ut) + (1 : Int32)) fun x3 =>
  some (Tx_set_len (Tx_set_chars ut g1) x3)
def f_X7_setPage (unow : LyS) (usi : SiS) (uhi : HiS) (uh0 : LyS) (uh1 : LyS) (uh2 : LyS) (uh3 : LyS) (uh4 : LyS) (p0 : Int32) (p1 : Int32) : Option (Int32 × LyS × SiS × HiS × LyS × LyS × LyS × LyS × LyS) :=
  (f_X7_isWithin p0 (4 : Int32) (24 : Int32)).bind fun r1 =>
  if r1 = 0 then
    some ((-101 : Int32), unow, usi, uhi, uh0, uh1, uh2, uh3, uh4)
  else
    (f_X7_isWithin p1 (4 : Int32) (24 : Int32)).bind fun r3 =>
    if r3 = 0 then
      some ((-101 : Int32), unow, usi, uhi, uh0, uh1, uh2, uh3, uh4)
    else
      (f_X0_record uhi uh0 uh1 uh2 uh3 uh4 unow).bind fun (s5, s6, s7, s8, s9, s10) =>
      (f_X1_resize unow p0 p1).bind fun s12 =>
      (f_X5_look usi s12).bind fun s14 =>
      (f_X5_contentPieces s14 s12).bind fun r16 =>
      some (r16, s12, s14, s5, s6, s7, s8, s9, s10)
def f_X7_addPiece (unow : LyS) (uhi : HiS) (uh0 : LyS) (uh1 : LyS) (uh2 : LyS) (uh3 : LyS) (uh4 : LyS) (p0 : Int32) (p1 : Int32) (p2 : Int32) (p3 : Int32) (p4 : Int32) : Option (Int32 × LyS × HiS × LyS × LyS × LyS × LyS × LyS) :=
  (f_X7_fits (0 : Int32) p0).bind fun r1 =>
  if r1 = 0 then
    some ((-101 : Int32), unow, uhi, uh0, uh1, uh2, uh3, uh4)
  else
    (f_X7_fits (1 : Int32) p1).bind fun r3 =>
    if r3 = 0 then
      some ((-101 : Int32), unow, uhi, uh0, uh1, uh2, uh3, uh4)
    else
      (f_X7_fits (2 : Int32) p2).bind fun r5 =>
      if r5 = 0 then
        some ((-101 : Int32), unow, uhi, uh0, uh1, uh2, uh3, uh4)
      else
        (f_X7_fits (3 : Int32) p3).bind fun r7 =>
        if r7 = 0 then
          some ((-101 : Int32), unow, uhi, uh0, uh1, uh2, uh3, uh4)
        else
          (f_X7_fits (4 : Int32) p4).bind fun r9 =>
          if r9 = 0 then
            some ((-101 : Int32), unow, uhi, uh0, uh1, uh2, uh3, uh4)
          else
            (f_X1_isFull unow).bind fun r11 =>
            if r11 = 0 then
              (f_X0_record uhi uh0 uh1 uh2 uh3 uh4 unow).bind fun (s13, s14, s15, s16, s17, s18) =>
              (f_X1_addBlank unow).bind fun (r20, s21) =>
              (f_X1_set s21 r20 (0 : Int32) p0).bind fun s23 =>
              (f_X1_set s23 r20 (1 : Int32) p1).bind fun s25 =>
              (f_X1_set s25 r20 (2 : Int32) p2).bind fun s27 =>
              (f_X1_set s27 r20 (3 : Int32) p3).bind fun s29 =>
              (f_X1_set s29 r20 (4 : Int32) p4).bind fun s31 =>
              some (r20, s31, s13, s14, s15, s16, s17, s18)
            else
              some ((-103 : Int32), unow, uhi, uh0, uh1, uh2, uh3, uh4)
def f_X7_removePiece (unow : LyS) (uhi : HiS) (uh0 : LyS) (uh1 : LyS) (uh2 : LyS) (uh3 : LyS) (uh4 : LyS) (p0 : Int32) : Option (Int32 × LyS × HiS × LyS × LyS × LyS × LyS × LyS) :=
  (f_X1_has unow p0).bind fun r1 =>
  if r1 = 0 then
    some ((-101 : Int32), unow, uhi, uh0, uh1, uh2, uh3, uh4)
  else
    (f_X0_record uhi uh0 uh1 uh2 uh3 uh4 unow).bind fun (s3, s4, s5, s6, s7, s8) =>
    (f_X1_remove unow p0).bind fun s10 =>
    (f_X1_pieces s10).bind fun r12 =>
    some (r12, s10, s3, s4, s5, s6, s7, s8)
def f_X7_setProperty (unow : LyS) (uhi : HiS) (uh0 : LyS) (uh1 : LyS) (uh2 : LyS) (uh3 : LyS) (uh4 : LyS) (p0 : Int32) (p1 : Int32) (p2 : Int32) : Option (Int32 × LyS × HiS × LyS × LyS × LyS × LyS × LyS) :=
  (f_X1_has unow p0).bind fun r1 =>
  if r1 = 0 then
    some ((-101 : Int32), unow, uhi, uh0, uh1, uh2, uh3, uh4)
  else
    (f_X7_fits p1 p2).bind fun r3 =>
    if r3 = 0 then
      some ((-101 : Int32), unow, uhi, uh0, uh1, uh2, uh3, uh4)
    else
      (f_X0_record uhi uh0 uh1 uh2 uh3 uh4 unow).bind fun (s5, s6, s7, s8, s9, s10) =>
      (f_X1_get unow p0 p1).bind fun r12 =>
      (f_X1_set unow p0 p1 p2).bind fun s14 =>
      some (r12, s14, s5, s6, s7, s8, s9, s10)
def f_X7_setShare (unow : LyS) (uhi : HiS) (uh0 : LyS) (uh1 : LyS) (uh2 : LyS) (uh3 : LyS) (uh4 : LyS) (p0 : Int32) (p1 : Int32) : Option (Int32 × LyS × HiS × LyS × LyS × LyS × LyS × LyS) :=
  (f_X7_setProperty unow uhi uh0 uh1 uh2 uh3 uh4 p0 (4 : Int32) p1).bind fun (r1, s2, s3, s4, s5, s6, s7, s8) =>
  some (r1, s2, s3, s4, s5, s6, s7, s8)
def f_X7_setFrame (unow : LyS) (uhi : HiS) (uh0 : LyS) (uh1 : LyS) (uh2 : LyS) (uh3 : LyS) (uh4 : LyS) (p0 : Int32) (p1 : Int32) : Option (Int32 × LyS × HiS × LyS × LyS × LyS × LyS × LyS) :=
  (f_X7_setProperty unow uhi uh0 uh1 uh2 uh3 uh4 p0 (5 : Int32) p1).bind fun (r1, s2, s3, s4, s5, s6, s7, s8) =>
  some (r1, s2, s3, s4, s5, s6, s7, s8)
def f_X7_shift (unow : LyS) (uhi : HiS) (uh0 : LyS) (uh1 : LyS) (uh2 : LyS) (uh3 : LyS) (uh4 : LyS) (p0 : Int32) (p1 : Int32) (p2 : Int32) : Option (Int32 × LyS × HiS × LyS × LyS × LyS × LyS × LyS) :=
  (f_X1_has unow p0).bind fun r1 =>
  if r1 = 0 then
    some ((-101 : Int32), unow, uhi, uh0, uh1, uh2, uh3, uh4)
  else
    (f_X7_isWithin p1 (-60 : Int32) (60 : Int32)).bind fun r3 =>
    if r3 = 0 then
      some ((-101 : Int32), unow, uhi, uh0, uh1, uh2, uh3, uh4)
    else
      (f_X7_isWithin p2 (-60 : Int32) (60 : Int32)).bind fun r5 =>
      if r5 = 0 then
        some ((-101 : Int32), unow, uhi, uh0, uh1, uh2, uh3, uh4)
      else
        (f_X1_canMove unow p0 p1 p2).bind fun r7 =>
        if r7 = 0 then
          some ((-102 : Int32), unow, uhi, uh0, uh1, uh2, uh3, uh4)
        else
          (f_X0_record uhi uh0 uh1 uh2 uh3 uh4 unow).bind fun (s9, s10, s11, s12, s13, s14) =>
          (f_X1_move unow p0 p1 p2).bind fun (r16, s17) =>
          some (r16, s17, s9, s10, s11, s12, s13, s14)
def f_X7_setLayer (unow : LyS) (uhi : HiS) (uh0 : LyS) (uh1 : LyS) (uh2 : LyS) (uh3 : LyS) (uh4 : LyS) (p0 : Int32) (p1 : Int32) : Option (Int32 × LyS × HiS × LyS × LyS × LyS × LyS × LyS) :=
  (f_X1_has unow p0).bind fun r1 =>
  if r1 = 0 then
    some ((-101 : Int32), unow, uhi, uh0, uh1, uh2, uh3, uh4)
  else
    (f_X1_has unow p1).bind fun r3 =>
    if r3 = 0 then
      some ((-101 : Int32), unow, uhi, uh0, uh1, uh2, uh3, uh4)
    else
      (f_X0_record uhi uh0 uh1 uh2 uh3 uh4 unow).bind fun (s5, s6, s7, s8, s9, s10) =>
      (f_X1_putIntoLayer unow p0 p1).bind fun (r12, s13) =>
      some (r12, s13, s5, s6, s7, s8, s9, s10)
def b_X7_makeCheapestShift_21 (unow : LyS) (s1 : SiS) : Int32 × Int32 × Int32 × Int32 × Int32 × PlS × LyS × SiS → Option ((Int32 × Int32 × Int32 × Int32 × Int32 × PlS × LyS × SiS) ⊕ (Int32 × Int32 × Int32 × Int32 × Int32 × PlS × LyS × SiS))
  | (x3, x4, x5, x6, x7, s8, s9, s10) =>
  (f_X1_pieces unow).bind fun r11 =>
  if r11 ≤ x7 then
    some (.inr (x3, x4, x5, x6, x7, s8, s9, s10))
  else
    (f_X5_isContent s1 unow x7).bind fun r13 =>
    if r13 = 0 then
      (f_X3_findShift s8 unow s9 s10 x7 (1 : Int32) x6).bind fun (r15, s16, s17, s18) =>
      if r15 = 0 then
        some (.inl (x3, x4, x5, x6, (x7 + (1 : Int32)), s16, s17, s18))
      else
        (f_X3_dx s16).bind fun r20 =>
        (f_X3_dy s16).bind fun r22 =>
        (f_X3_cost s16).bind fun r24 =>
        x_nm (r24 - (1 : Int32)) fun x26 =>
        some (.inl (x7, r20, r22, x26, (x7 + (1 : Int32)), s16, s17, s18))
    else
      some (.inl (x3, x4, x5, x6, (x7 + (1 : Int32)), s8, s9, s10))
def f_X7_makeCheapestShift (unow : LyS) (usi : SiS) (upl : PlS) (utr : LyS) (ups : SiS) : Option (Int32 × LyS × SiS × PlS × LyS × SiS) :=
  (f_X5_look usi unow).bind fun s1 =>
  (x_loop (b_X7_makeCheapestShift_21 unow s1) x_fuel ((-109 : Int32), (0 : Int32), (0 : Int32), (8 : Int32), (0 : Int32), upl, utr, ups)).bind fun (x27, x28, x29, x30, x31, s32, s33, s34) =>
  if x27 = (-109 : Int32) then
    some ((0 : Int32), unow, s1, s32, s33, s34)
  else
    (f_X1_move unow x27 x28 x29).bind fun (r35, s36) =>
    some ((1 : Int32), s36, s1, s32, s33, s34)
def b_X7_arrange_40 : Int32 × LyS × SiS × PlS × LyS × SiS → Option ((Int32 × LyS × SiS × PlS × LyS × SiS) ⊕ (Int32 × LyS × SiS × PlS × LyS × SiS))
  | (x14, s15, s16, s17, s18, s19) =>
  if (12 : Int32) ≤ x14 then
    some (.inr (x14, s15, s16, s17, s18, s19))
  else
    (f_X7_makeCheapestShift s15 s16 s17 s18 s19).bind fun (r20, s21, s22, s23, s24, s25) =>
    if r20 = 0 then
      some (.inr (x14, s21, s22, s23, s24, s25))
    else
      some (.inl ((x14 + (1 : Int32)), s21, s22, s23, s24, s25))
def f_X7_arrange (unow : LyS) (usi : SiS) (upl : PlS) (utr : LyS) (ups : SiS) (uhi : HiS) (uh0 : LyS) (uh1 : LyS) (uh2 : LyS) (uh3 : LyS) (uh4 : LyS) : Option (Int32 × LyS × SiS × PlS × LyS × SiS × HiS × LyS × LyS × LyS × LyS × LyS) :=
  (f_X5_look usi unow).bind fun s1 =>
  (f_X5_contentPieces s1 unow).bind fun r3 =>
  (f_X1_pieces unow).bind fun r5 =>
  if r3 = r5 then
    some ((-102 : Int32), unow, s1, upl, utr, ups, uhi, uh0, uh1, uh2, uh3, uh4)
  else
    (f_X0_record uhi uh0 uh1 uh2 uh3 uh4 unow).bind fun (s7, s8, s9, s10, s11, s12) =>
    (x_loop (b_X7_arrange_40) x_fuel ((0 : Int32), unow, s1, upl, utr, ups)).bind fun (x27, s28, s29, s30, s31, s32) =>
    some (x27, s28, s29, s30, s31, s32, s7, s8, s9, s10, s11, s12)
def f_X7_append (utx : TxS) (p0 : Int32) : Option (Int32 × TxS) :=
  (f_X7_isWithin p0 (1 : Int32) (255 : Int32)).bind fun r1 =>
  if r1 = 0 then
    some ((-101 : Int32), utx)
  else
    (f_X6_isFull utx).bind fun r3 =>
    if r3 = 0 then
      (f_X6_add utx p0).bind fun s5 =>
      (f_X6_length s5).bind fun r7 =>
      some (r7, s5)
    else
      some ((-103 : Int32), utx)
def f_X7_undo (unow : LyS) (uhi : HiS) (uh0 : LyS) (uh1 : LyS) (uh2 : LyS) (uh3 : LyS) (uh4 : LyS) : Option (Int32 × LyS × HiS) :=
  (f_X0_size uhi).bind fun r1 =>
  if r1 = 0 then
    some ((-102 : Int32), unow, uhi)
  else
    (f_X0_restore uhi uh0 uh1 uh2 uh3 uh4 unow).bind fun (s3, s4) =>
    (f_X0_size s3).bind fun r6 =>
    some (r6, s4, s3)
def f_X7_count (unow : LyS) (usi : SiS) (uhi : HiS) (utx : TxS) (p0 : Int32) : Option (Int32 × SiS) :=
  (f_X5_look usi unow).bind fun s1 =>
  if p0 = (0 : Int32) then
    (f_X1_pieces unow).bind fun r3 =>
    some (r3, s1)
  else
  if p0 = (1 : Int32) then
    (f_X1_columns unow).bind fun r5 =>
    some (r5, s1)
  else
  if p0 = (2 : Int32) then
    (f_X1_rows unow).bind fun r7 =>
    some (r7, s1)
  else
  if p0 = (3 : Int32) then
    (f_X5_contentPieces s1 unow).bind fun r9 =>
    some (r9, s1)
  else
  if p0 = (4 : Int32) then
    (f_X5_unseenPieces s1 unow).bind fun r11 =>
    some (r11, s1)
  else
  if p0 = (5 : Int32) then
    (f_X5_wholeFrames s1 unow).bind fun r13 =>
    some (r13, s1)
  else
  if p0 = (6 : Int32) then
    (f_X5_pageCells s1 unow).bind fun r15 =>
    some (r15, s1)
  else
  if p0 = (7 : Int32) then
    (f_X1_cost unow).bind fun r17 =>
    some (r17, s1)
  else
  if p0 = (8 : Int32) then
    (f_X0_size uhi).bind fun r19 =>
    some (r19, s1)
  else
  if p0 = (9 : Int32) then
    (f_X6_length utx).bind fun r21 =>
    some (r21, s1)
  else
  some ((-101 : Int32), s1)
def f_X7_piece (unow : LyS) (usi : SiS) (upa : PaS) (p0 : Int32) (p1 : Int32) : Option (Int32 × SiS × PaS) :=
  (f_X1_has unow p0).bind fun r1 =>
  if r1 = 0 then
    some ((-101 : Int32), usi, upa)
  else
    (f_X7_isWithin p1 (0 : Int32) (5 : Int32)).bind fun r3 =>
    if r3 = 0 then
      (f_X5_look usi unow).bind fun s5 =>
      if p1 = (6 : Int32) then
        (f_X1_layerOf unow p0).bind fun r7 =>
        some (r7, s5, upa)
      else
      if p1 = (7 : Int32) then
        (f_X5_cells s5 p0).bind fun r9 =>
        some (r9, s5, upa)
      else
      if p1 = (8 : Int32) then
        (f_X5_isContent s5 unow p0).bind fun r11 =>
        if r11 = 0 then
          some ((0 : Int32), s5, upa)
        else
          some ((1 : Int32), s5, upa)
      else
      if p1 = (9 : Int32) then
        (f_X2_split upa s5 unow p0).bind fun s13 =>
        (f_X2_number s13).bind fun r15 =>
        some (r15, s5, s13)
      else
      if p1 = (10 : Int32) then
        (f_X2_split upa s5 unow p0).bind fun s17 =>
        (f_X2_largest s17).bind fun r19 =>
        some (r19, s5, s17)
      else
      if p1 = (11 : Int32) then
        (f_X5_cutStrips s5 unow p0).bind fun r21 =>
        some (r21, s5, upa)
      else
      if p1 = (12 : Int32) then
        (f_X1_cellsOutside unow p0).bind fun r23 =>
        some (r23, s5, upa)
      else
      some ((-101 : Int32), s5, upa)
    else
      (f_X1_get unow p0 p1).bind fun r25 =>
      some (r25, usi, upa)
def f_X7_seen (unow : LyS) (p0 : Int32) (p1 : Int32) : Option (Int32) :=
  (f_X1_hasCell unow p0 p1).bind fun r1 =>
  if r1 = 0 then
    some (-101 : Int32)
  else
    (f_X1_coveringPiece unow p0 p1 (0 : Int32)).bind fun r3 =>
    if r3 = (-109 : Int32) then
      some (-1 : Int32)
    else
      some r3
def f_X7_inLayer (unow : LyS) (p0 : Int32) : Option (Int32) :=
  (f_X1_has unow p0).bind fun r1 =>
  if r1 = 0 then
    some (-101 : Int32)
  else
    (f_X1_pieceIn unow p0).bind fun r3 =>
    some r3
def f_X7_covering (unow : LyS) (p0 : Int32) (p1 : Int32) (p2 : Int32) : Option (Int32) :=
  (f_X1_hasCell unow p0 p1).bind fun r1 =>
  if r1 = 0 then
    some (-101 : Int32)
  else
    if 0 ≤ p2 then
      (f_X1_coveringPiece unow p0 p1 p2).bind fun r3 =>
      some r3
    else
      some (-101 : Int32)
def f_X7_edge (unow : LyS) (usi : SiS) (p0 : Int32) (p1 : Int32) : Option (Int32 × SiS) :=
  ((
    if p1 = (-1 : Int32) then
      some (1 : Int32)
    else
      if p1 = (-2 : Int32) then
        some (1 : Int32)
      else
        (f_X1_has unow p1).bind fun r2 =>
        if r2 = 0 then
          some (0 : Int32)
        else
          some (1 : Int32) : Option (Int32))).bind fun x1 =>
  (f_X1_has unow p0).bind fun r4 =>
  if r4 = 0 then
    some ((-101 : Int32), usi)
  else
    if x1 = 0 then
      some ((-101 : Int32), usi)
    else
      if p0 = p1 then
        some ((-101 : Int32), usi)
      else
        (f_X5_look usi unow).bind fun s6 =>
        if p1 = (-2 : Int32) then
          (f_X5_borderEdge s6 unow p0).bind fun r8 =>
          some (r8, s6)
        else
          (f_X5_edgeBetween s6 unow p0 p1).bind fun r10 =>
          some (r10, s6)
def f_X7_hides (unow : LyS) (usi : SiS) (p0 : Int32) (p1 : Int32) : Option (Int32 × SiS) :=
  (f_X1_has unow p0).bind fun r1 =>
  if r1 = 0 then
    some ((-101 : Int32), usi)
  else
    (f_X1_has unow p1).bind fun r3 =>
    if r3 = 0 then
      some ((-101 : Int32), usi)
    else
      if p0 = p1 then
        some ((-101 : Int32), usi)
      else
        (f_X5_look usi unow).bind fun s5 =>
        (f_X5_hiddenCells s5 unow p0 p1).bind fun r7 =>
        some (r7, s5)
def b_X7_byShare_16 (unow : LyS) (p0 : Int32) (s1 : SiS) : Int32 → Option ((Int32) ⊕ (Int32 × SiS ⊕ (Int32)))
  | x3 =>
  (f_X1_pieces unow).bind fun r4 =>
  if r4 ≤ x3 then
    some (.inr (.inr x3))
  else
    (f_X5_rankByShare s1 unow x3).bind fun r6 =>
    if r6 = p0 then
      some (.inr (.inl (x3, s1)))
    else
      some (.inl (x3 + (1 : Int32)))
def f_X7_byShare (unow : LyS) (usi : SiS) (p0 : Int32) : Option (Int32 × SiS) :=
  if 0 ≤ p0 then
    (f_X5_look usi unow).bind fun s1 =>
    (x_loop (b_X7_byShare_16 unow p0 s1) x_fuel (0 : Int32)).bind fun z_ => Sum.elim (fun r_ => some r_) (fun x8 =>
    some ((-109 : Int32), s1)) z_
  else
    some ((-101 : Int32), usi)
def f_X7_leastShift (unow : LyS) (upl : PlS) (utr : LyS) (ups : SiS) (p0 : Int32) (p1 : Int32) (p2 : Int32) : Option (Int32 × PlS × LyS × SiS) :=
  (f_X1_has unow p0).bind fun r1 =>
  if r1 = 0 then
    some ((-101 : Int32), upl, utr, ups)
  else
    (f_X7_isWithin p1 (0 : Int32) (2 : Int32)).bind fun r3 =>
    if r3 = 0 then
      some ((-101 : Int32), upl, utr, ups)
    else
      (f_X7_isWithin p2 (0 : Int32) (2 : Int32)).bind fun r5 =>
      if r5 = 0 then
        some ((-101 : Int32), upl, utr, ups)
      else
        (f_X3_findShift upl unow utr ups p0 p1 (8 : Int32)).bind fun (r7, s8, s9, s10) =>
        if r7 = 0 then
          some ((-109 : Int32), s8, s9, s10)
        else
          if p2 = 0 then
            (f_X3_cost s8).bind fun r12 =>
            some (r12, s8, s9, s10)
          else
            if p2 = (1 : Int32) then
              (f_X3_dx s8).bind fun r14 =>
              some (r14, s8, s9, s10)
            else
              (f_X3_dy s8).bind fun r16 =>
              some (r16, s8, s9, s10)
def f_X7_layerFor (unow : LyS) (utr : LyS) (ups : SiS) (p0 : Int32) : Option (Int32 × LyS × SiS) :=
  (f_X1_has unow p0).bind fun r1 =>
  if r1 = 0 then
    some ((-101 : Int32), utr, ups)
  else
    (f_X3_lowestLayer unow utr ups p0).bind fun (r3, s4, s5) =>
    some (r3, s4, s5)
def f_X7_worst (unow : LyS) (utr : LyS) (ups : SiS) : Option (Int32 × LyS × SiS) :=
  (f_X3_worstPiece unow utr ups).bind fun (r1, s2, s3) =>
  some (r1, s2, s3)
