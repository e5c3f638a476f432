def f_L_low (p0 : Int32) (p1 : Int32) : Option (Int32) :=
  (x_rem (p0 &&& (2147483647 : Int32)) p1).bind fun v1 =>
  some v1
def f_L_lot (X : xCtx) (p1 : Int32) : Option (Int32) :=
  if (nI (xSn X)) ≤ p1 then
    some (((1640617399 : Int32) * (p1 + (1787 : Int32))) + (1601 : Int32))
  else
    (x_ld (xSn X) (xSf X) p1).bind fun v1 =>
    some v1
def g_L_sound_145 (unow : LyS) (x18 : Int32) (x51 : Int32) (s52 : SiS) : Option (Int32 × SiS) :=
      if x51 = x18 then
        some ((0 : Int32), s52)
      else
        (f_X7_hides unow s52 x51 x18).bind fun (r56, s57) =>
        some (r56, s57)
def g_L_sound_169 (unow : LyS) (x18 : Int32) (x51 : Int32) (s55 : SiS) : Option (Int32 × SiS) :=
      if x51 = x18 then
        some ((0 : Int32), s55)
      else
        (f_X7_edge unow s55 x18 x51).bind fun (r62, s63) =>
        some (r62, s63)
def b_L_sound_118 (unow : LyS) (r1 : Int32) (x18 : Int32) : Int32 × Int32 × Int32 × SiS × PaS → Option ((Int32 × Int32 × Int32 × SiS × PaS) ⊕ (Int32 × SiS × PaS ⊕ (Int32 × Int32 × Int32 × SiS × PaS)))
  | (x49, x50, x51, s52, s53) =>
  if r1 ≤ x51 then
    some (.inr (.inr (x49, x50, x51, s52, s53)))
  else
    (g_L_sound_145 unow x18 x51 s52).bind fun (x54, s55) =>
    x_nm (x49 + x54) fun x59 =>
    (g_L_sound_169 unow x18 x51 s55).bind fun (x60, s61) =>
    x_nm (x50 + x60) fun x65 =>
    if x51 = x18 then
      some (.inl (x59, x65, (x51 + (1 : Int32)), s61, s53))
    else
      (f_X7_edge unow s61 x18 x51).bind fun (r66, s67) =>
      (f_X7_edge unow s67 x51 x18).bind fun (r69, s70) =>
      if r66 = r69 then
        (f_X7_hides unow s70 x51 x18).bind fun (r72, s73) =>
        if r72 ≤ 0 then
          some (.inl (x59, x65, (x51 + (1 : Int32)), s73, s53))
        else
          (f_X7_piece unow s73 s53 x51 (6 : Int32)).bind fun (r75, s76, s77) =>
          (f_X7_piece unow s76 s77 x18 (6 : Int32)).bind fun (r79, s80, s81) =>
          if r79 ≤ r75 then
            some (.inl (x59, x65, (x51 + (1 : Int32)), s80, s81))
          else
            some (.inr (.inl ((0 : Int32), s80, s81)))
      else
        some (.inr (.inl ((0 : Int32), s70, s53)))
def g_L_sound_299 (unow : LyS) (x18 : Int32) (r96 : Int32) (s97 : SiS) (s98 : PaS) : Option (Int32 × SiS × PaS) :=
      if r96 ≤ 0 then
        some ((0 : Int32), s97, s98)
      else
        (f_X7_piece unow s97 s98 x18 (11 : Int32)).bind fun (r103, s104, s105) =>
        if r103 = 0 then
          some ((1 : Int32), s104, s105)
        else
          some ((0 : Int32), s104, s105)
def g_L_sound_529 (unow : LyS) (r127 : Int32) (r1 : Int32) (x18 : Int32) (r21 : Int32) (x33 : Int32) (x83 : Int32) (s128 : SiS) (s129 : PaS) : Option (Int32 × SiS × PaS ⊕ (SiS × PaS)) :=
                                if r127 = (r1 - (1 : Int32)) then
                                  if x83 = 0 then
                                    (f_X7_piece unow s128 s129 x18 (12 : Int32)).bind fun (r135, s136, s137) =>
                                    if r21 = (x33 - r135) then
                                      some (.inr (s136, s137))
                                    else
                                      some (.inl ((0 : Int32), s136, s137))
                                  else
                                    some (.inl ((0 : Int32), s128, s129))
                                else
                                  some (.inr (s128, s129))
def g_L_sound_550 (unow : LyS) (x18 : Int32) (r139 : Int32) (s140 : SiS) (s141 : PaS) : Option (Int32 × SiS × PaS ⊕ (SiS × PaS)) :=
                                if r139 = 0 then
                                  (f_X7_piece unow s140 s141 x18 (11 : Int32)).bind fun (r145, s146, s147) =>
                                  if r145 = 0 then
                                    some (.inr (s146, s147))
                                  else
                                    some (.inl ((0 : Int32), s146, s147))
                                else
                                  some (.inr (s140, s141))
def g_L_sound_578 (unow : LyS) (x18 : Int32) (r21 : Int32) (x33 : Int32) (r149 : Int32) (s150 : SiS) (s151 : PaS) : Option (Int32 × SiS × PaS ⊕ (SiS × PaS)) :=
                                if r149 ≤ 0 then
                                  some (.inr (s150, s151))
                                else
                                  if r21 = x33 then
                                    (f_X7_piece unow s150 s151 x18 (11 : Int32)).bind fun (r155, s156, s157) =>
                                    if r155 = 0 then
                                      some (.inr (s156, s157))
                                    else
                                      some (.inl ((0 : Int32), s156, s157))
                                  else
                                    some (.inr (s150, s151))
def b_L_sound_41 (unow : LyS) (r1 : Int32) : Int32 × Int32 × Int32 × Int32 × Int32 × Int32 × SiS × PaS → Option ((Int32 × Int32 × Int32 × Int32 × Int32 × Int32 × SiS × PaS) ⊕ (Int32 × SiS × PaS ⊕ (Int32 × Int32 × Int32 × Int32 × Int32 × Int32 × SiS × PaS)))
  | (x13, x14, x15, x16, x17, x18, s19, s20) =>
  if r1 ≤ x18 then
    some (.inr (.inr (x13, x14, x15, x16, x17, x18, s19, s20)))
  else
    (f_X7_piece unow s19 s20 x18 (7 : Int32)).bind fun (r21, s22, s23) =>
    (f_X7_piece unow s22 s23 x18 (2 : Int32)).bind fun (r25, s26, s27) =>
    (f_X7_piece unow s26 s27 x18 (3 : Int32)).bind fun (r29, s30, s31) =>
    x_nm (r25 * r29) fun x33 =>
    (f_X7_piece unow s30 s31 x18 (9 : Int32)).bind fun (r34, s35, s36) =>
    (f_X7_piece unow s35 s36 x18 (10 : Int32)).bind fun (r38, s39, s40) =>
    (f_X7_edge unow s39 x18 (-1 : Int32)).bind fun (r42, s43) =>
    (f_X7_edge unow s43 x18 (-2 : Int32)).bind fun (r45, s46) =>
    x_nm (r42 + r45) fun x48 =>
    (x_loop (b_L_sound_118 unow r1 x18) x_fuel ((0 : Int32), x48, (0 : Int32), s46, s40)).bind fun z_ => Sum.elim (fun r_ => some (.inr (.inl r_))) (fun (x83, x84, x85, s86, s87) =>
    x_nm (x13 + r21) fun x88 =>
    (f_X7_piece unow s86 s87 x18 (8 : Int32)).bind fun (r89, s90, s91) =>
    x_nm (x14 + r89) fun x93 =>
    ((
      if r21 = 0 then
        some (1 : Int32)
      else
        some (0 : Int32) : Option (Int32))).bind fun x94 =>
    x_nm (x15 + x94) fun x95 =>
    (f_X7_piece unow s90 s91 x18 (5 : Int32)).bind fun (r96, s97, s98) =>
    (g_L_sound_299 unow x18 r96 s97 s98).bind fun (x100, s101, s102) =>
    x_nm (x16 + x100) fun x107 =>
    (f_X7_piece unow s101 s102 x18 (12 : Int32)).bind fun (r108, s109, s110) =>
    if ((r21 + x83) + r108) = x33 then
      (x_rem (((4 : Int32) * r21) - x84) (2 : Int32)).bind fun v112 =>
      if v112 = 0 then
        if ((4 : Int32) * r21) < x84 then
          some (.inr (.inl ((0 : Int32), s109, s110)))
        else
          (f_X7_piece unow s109 s110 x18 (8 : Int32)).bind fun (r113, s114, s115) =>
          ((
            if r113 = (1 : Int32) then
              some (1 : Int32)
            else
              some (0 : Int32) : Option (Int32))).bind fun x117 =>
          (f_X7_piece unow s114 s115 x18 (4 : Int32)).bind fun (r118, s119, s120) =>
          ((
            if ((100 : Int32) * r21) < (r118 * x33) then
              some (0 : Int32)
            else
              some (1 : Int32) : Option (Int32))).bind fun x122 =>
          if x117 = x122 then
            ((
              if r34 = 0 then
                some (1 : Int32)
              else
                some (0 : Int32) : Option (Int32))).bind fun x123 =>
            ((
              if r21 = 0 then
                some (1 : Int32)
              else
                some (0 : Int32) : Option (Int32))).bind fun x124 =>
            if x123 = x124 then
              ((
                if r38 = 0 then
                  some (1 : Int32)
                else
                  some (0 : Int32) : Option (Int32))).bind fun x125 =>
              ((
                if r34 = 0 then
                  some (1 : Int32)
                else
                  some (0 : Int32) : Option (Int32))).bind fun x126 =>
              if x125 = x126 then
                if r21 < r38 then
                  some (.inr (.inl ((0 : Int32), s119, s120)))
                else
                  if (r38 * r34) < r21 then
                    some (.inr (.inl ((0 : Int32), s119, s120)))
                  else
                    if r34 ≤ r21 then
                      (f_X7_piece unow s119 s120 x18 (6 : Int32)).bind fun (r127, s128, s129) =>
                      if r127 < 0 then
                        some (.inr (.inl ((0 : Int32), s128, s129)))
                      else
                        if r1 ≤ r127 then
                          some (.inr (.inl ((0 : Int32), s128, s129)))
                        else
                          if ((x17 >>> (r127 &&& 31)) &&& (1 : Int32)) = (1 : Int32) then
                            some (.inr (.inl ((0 : Int32), s128, s129)))
                          else
                            (f_X7_inLayer unow r127).bind fun r131 =>
                            if r131 = x18 then
                              (g_L_sound_529 unow r127 r1 x18 r21 x33 x83 s128 s129).bind fun z_ => Sum.elim (fun r_ => some (.inr (.inl r_))) (fun (s133, s134) =>
                              (f_X7_piece unow s133 s134 x18 (5 : Int32)).bind fun (r139, s140, s141) =>
                              (g_L_sound_550 unow x18 r139 s140 s141).bind fun z_ => Sum.elim (fun r_ => some (.inr (.inl r_))) (fun (s143, s144) =>
                              (f_X7_piece unow s143 s144 x18 (5 : Int32)).bind fun (r149, s150, s151) =>
                              (g_L_sound_578 unow x18 r21 x33 r149 s150 s151).bind fun z_ => Sum.elim (fun r_ => some (.inr (.inl r_))) (fun (s153, s154) =>
                              (f_X7_piece unow s153 s154 x18 (5 : Int32)).bind fun (r159, s160, s161) =>
                              if r159 ≤ 0 then
                                x_nm (x17 ||| ((1 : Int32) <<< (r127 &&& 31))) fun x163 =>
                                some (.inl (x88, x93, x95, x107, x163, (x18 + (1 : Int32)), s160, s161))
                              else
                                if r21 = 0 then
                                  (f_X7_piece unow s160 s161 x18 (11 : Int32)).bind fun (r164, s165, s166) =>
                                  if r164 = (15 : Int32) then
                                    x_nm (x17 ||| ((1 : Int32) <<< (r127 &&& 31))) fun x168 =>
                                    some (.inl (x88, x93, x95, x107, x168, (x18 + (1 : Int32)), s165, s166))
                                  else
                                    some (.inr (.inl ((0 : Int32), s165, s166)))
                                else
                                  x_nm (x17 ||| ((1 : Int32) <<< (r127 &&& 31))) fun x169 =>
                                  some (.inl (x88, x93, x95, x107, x169, (x18 + (1 : Int32)), s160, s161))) z_) z_) z_
                            else
                              some (.inr (.inl ((0 : Int32), s128, s129)))
                    else
                      some (.inr (.inl ((0 : Int32), s119, s120)))
              else
                some (.inr (.inl ((0 : Int32), s119, s120)))
            else
              some (.inr (.inl ((0 : Int32), s119, s120)))
          else
            some (.inr (.inl ((0 : Int32), s119, s120)))
      else
        some (.inr (.inl ((0 : Int32), s109, s110)))
    else
      some (.inr (.inl ((0 : Int32), s109, s110)))) z_
def f_L_sound (unow : LyS) (usi : SiS) (upa : PaS) (uhi : HiS) (utx : TxS) : Option (Int32 × SiS × PaS) :=
  (f_X7_count unow usi uhi utx (0 : Int32)).bind fun (r1, s2) =>
  (f_X7_count unow s2 uhi utx (1 : Int32)).bind fun (r4, s5) =>
  (f_X7_count unow s5 uhi utx (2 : Int32)).bind fun (r7, s8) =>
  (f_X7_count unow s8 uhi utx (6 : Int32)).bind fun (r10, s11) =>
  (x_loop (b_L_sound_41 unow r1) x_fuel (r10, (0 : Int32), (0 : Int32), (0 : Int32), (0 : Int32), (0 : Int32), s11, upa)).bind fun z_ => Sum.elim (fun r_ => some r_) (fun (x170, x171, x172, x173, x174, x175, s176, s177) =>
  if x170 = (r4 * r7) then
    (f_X7_count unow s176 uhi utx (3 : Int32)).bind fun (r178, s179) =>
    if r178 = x171 then
      (f_X7_count unow s179 uhi utx (4 : Int32)).bind fun (r181, s182) =>
      if r181 = x172 then
        (f_X7_count unow s182 uhi utx (5 : Int32)).bind fun (r184, s185) =>
        if r184 = x173 then
          (f_X7_inLayer unow r1).bind fun r187 =>
          if r187 = (-101 : Int32) then
            (f_X7_piece unow s185 s177 r1 (0 : Int32)).bind fun (r189, s190, s191) =>
            if r189 = (-101 : Int32) then
              some ((1 : Int32), s190, s191)
            else
              some ((0 : Int32), s190, s191)
          else
            some ((0 : Int32), s185, s177)
        else
          some ((0 : Int32), s185, s177)
      else
        some ((0 : Int32), s182, s177)
    else
      some ((0 : Int32), s179, s177)
  else
    some ((0 : Int32), s176, s177)) z_
def g_L_cells_110 (r17 : Int32) (r19 : Int32) (s13 : SiS) (s14 : PaS) : Option (Int32 × SiS × PaS ⊕ (Unit)) :=
        if r17 = (-109 : Int32) then
          if r19 = (-109 : Int32) then
            some (.inr ())
          else
            some (.inl ((0 : Int32), s13, s14))
        else
          some (.inr ())
def g_L_cells_134 (unow : LyS) (r17 : Int32) (r19 : Int32) (s13 : SiS) (s14 : PaS) : Option (Int32 × SiS × PaS ⊕ (SiS × PaS)) :=
        if r19 < 0 then
          some (.inr (s13, s14))
        else
          (f_X7_piece unow s13 s14 r19 (6 : Int32)).bind fun (r26, s27, s28) =>
          (f_X7_piece unow s27 s28 r17 (6 : Int32)).bind fun (r30, s31, s32) =>
          if r30 ≤ r26 then
            some (.inl ((0 : Int32), s31, s32))
          else
            some (.inr (s31, s32))
def b_L_cells_26 (unow : LyS) (uhi : HiS) (utx : TxS) (r4 : Int32) (x8 : Int32) : Int32 × Int32 × SiS × PaS → Option ((Int32 × Int32 × SiS × PaS) ⊕ (Int32 × SiS × PaS ⊕ (Int32 × Int32 × SiS × PaS)))
  | (x11, x12, s13, s14) =>
  if r4 ≤ x12 then
    some (.inr (.inr (x11, x12, s13, s14)))
  else
    (f_X7_seen unow x8 x12).bind fun r15 =>
    (f_X7_covering unow x8 x12 (0 : Int32)).bind fun r17 =>
    (f_X7_covering unow x8 x12 (1 : Int32)).bind fun r19 =>
    ((
      if r15 = (-1 : Int32) then
        some (1 : Int32)
      else
        some (0 : Int32) : Option (Int32))).bind fun x21 =>
    x_nm (x11 + x21) fun x22 =>
    ((
      if r17 = (-109 : Int32) then
        some (-1 : Int32)
      else
        some r17 : Option (Int32))).bind fun x23 =>
    if r15 = x23 then
      (g_L_cells_110 r17 r19 s13 s14).bind fun z_ => Sum.elim (fun r_ => some (.inr (.inl r_))) (fun _ =>
      (g_L_cells_134 unow r17 r19 s13 s14).bind fun z_ => Sum.elim (fun r_ => some (.inr (.inl r_))) (fun (s24, s25) =>
      (f_X7_count unow s24 uhi utx (0 : Int32)).bind fun (r34, s35) =>
      (f_X7_covering unow x8 x12 r34).bind fun r37 =>
      if r37 = (-109 : Int32) then
        some (.inl (x22, (x12 + (1 : Int32)), s35, s25))
      else
        some (.inr (.inl ((0 : Int32), s35, s25)))) z_) z_
    else
      some (.inr (.inl ((0 : Int32), s13, s14)))
def b_L_cells_17 (unow : LyS) (uhi : HiS) (utx : TxS) (r4 : Int32) (r1 : Int32) : Int32 × Int32 × SiS × PaS → Option ((Int32 × Int32 × SiS × PaS) ⊕ (Int32 × SiS × PaS ⊕ (Int32 × Int32 × SiS × PaS)))
  | (x7, x8, s9, s10) =>
  if r1 ≤ x8 then
    some (.inr (.inr (x7, x8, s9, s10)))
  else
    (x_loop (b_L_cells_26 unow uhi utx r4 x8) x_fuel (x7, (0 : Int32), s9, s10)).bind fun z_ => Sum.elim (fun r_ => some (.inr (.inl r_))) (fun (x39, x40, s41, s42) =>
    some (.inl (x39, (x8 + (1 : Int32)), s41, s42))) z_
def f_L_cells (unow : LyS) (usi : SiS) (upa : PaS) (uhi : HiS) (utx : TxS) : Option (Int32 × SiS × PaS) :=
  (f_X7_count unow usi uhi utx (1 : Int32)).bind fun (r1, s2) =>
  (f_X7_count unow s2 uhi utx (2 : Int32)).bind fun (r4, s5) =>
  (x_loop (b_L_cells_17 unow uhi utx r4 r1) x_fuel ((0 : Int32), (0 : Int32), s5, upa)).bind fun z_ => Sum.elim (fun r_ => some r_) (fun (x43, x44, s45, s46) =>
  (f_X7_count unow s45 uhi utx (6 : Int32)).bind fun (r47, s48) =>
  if x43 = r47 then
    (f_X7_seen unow r1 (0 : Int32)).bind fun r50 =>
    if r50 = (-101 : Int32) then
      (f_X7_seen unow (0 : Int32) r4).bind fun r52 =>
      if r52 = (-101 : Int32) then
        (f_X7_covering unow (-1 : Int32) (0 : Int32) (0 : Int32)).bind fun r54 =>
        if r54 = (-101 : Int32) then
          some ((1 : Int32), s48, s46)
        else
          some ((0 : Int32), s48, s46)
      else
        some ((0 : Int32), s48, s46)
    else
      some ((0 : Int32), s48, s46)
  else
    some ((0 : Int32), s48, s46)) z_
def g_L_shares_97 (unow : LyS) (r9 : Int32) (x6 : Int32) (s21 : SiS) : Option (Int32 × SiS) :=
            if x6 = 0 then
              some (r9, s21)
            else
              (f_X7_byShare unow s21 (x6 - (1 : Int32))).bind fun (r27, s28) =>
              some (r27, s28)
def g_L_shares_137 (unow : LyS) (x25 : Int32) (x5 : Int32) (x6 : Int32) (r9 : Int32) (v24 : Int32) (s26 : SiS) (s22 : PaS) : Option (Int32 × SiS × PaS ⊕ (SiS × PaS)) :=
              if x6 ≤ 0 then
                some (.inr (s26, s22))
              else
                if v24 = x5 then
                  (f_X7_piece unow s26 s22 x25 (6 : Int32)).bind fun (r32, s33, s34) =>
                  (f_X7_piece unow s33 s34 r9 (6 : Int32)).bind fun (r36, s37, s38) =>
                  if r32 ≤ r36 then
                    some (.inr (s37, s38))
                  else
                    some (.inl ((0 : Int32), s37, s38))
                else
                  some (.inr (s26, s22))
def b_L_shares_13 (unow : LyS) (r1 : Int32) : Int32 × Int32 × Int32 × SiS × PaS → Option ((Int32 × Int32 × Int32 × SiS × PaS) ⊕ (Int32 × SiS × PaS ⊕ (Int32 × Int32 × Int32 × SiS × PaS)))
  | (x4, x5, x6, s7, s8) =>
  if r1 ≤ x6 then
    some (.inr (.inr (x4, x5, x6, s7, s8)))
  else
    (f_X7_byShare unow s7 x6).bind fun (r9, s10) =>
    if r9 < 0 then
      some (.inr (.inl ((0 : Int32), s10, s8)))
    else
      if r1 ≤ r9 then
        some (.inr (.inl ((0 : Int32), s10, s8)))
      else
        if ((x4 >>> (r9 &&& 31)) &&& (1 : Int32)) = (1 : Int32) then
          some (.inr (.inl ((0 : Int32), s10, s8)))
        else
          (f_X7_piece unow s10 s8 r9 (7 : Int32)).bind fun (r12, s13, s14) =>
          (f_X7_piece unow s13 s14 r9 (2 : Int32)).bind fun (r16, s17, s18) =>
          (f_X7_piece unow s17 s18 r9 (3 : Int32)).bind fun (r20, s21, s22) =>
          (x_div ((100 : Int32) * r12) (r16 * r20)).bind fun v24 =>
          (g_L_shares_97 unow r9 x6 s21).bind fun (x25, s26) =>
          if v24 < x5 then
            some (.inr (.inl ((0 : Int32), s26, s22)))
          else
            (g_L_shares_137 unow x25 x5 x6 r9 v24 s26 s22).bind fun z_ => Sum.elim (fun r_ => some (.inr (.inl r_))) (fun (s30, s31) =>
            x_nm (x4 ||| ((1 : Int32) <<< (r9 &&& 31))) fun x40 =>
            some (.inl (x40, v24, (x6 + (1 : Int32)), s30, s31))) z_
def f_L_shares (unow : LyS) (usi : SiS) (upa : PaS) (uhi : HiS) (utx : TxS) : Option (Int32 × SiS × PaS) :=
  (f_X7_count unow usi uhi utx (0 : Int32)).bind fun (r1, s2) =>
  (x_loop (b_L_shares_13 unow r1) x_fuel ((0 : Int32), (-1 : Int32), (0 : Int32), s2, upa)).bind fun z_ => Sum.elim (fun r_ => some r_) (fun (x41, x42, x43, s44, s45) =>
  (f_X7_byShare unow s44 r1).bind fun (r46, s47) =>
  if r46 = (-109 : Int32) then
    (f_X7_byShare unow s47 (-1 : Int32)).bind fun (r49, s50) =>
    if r49 = (-101 : Int32) then
      some ((1 : Int32), s50, s45)
    else
      some ((0 : Int32), s50, s45)
  else
    some ((0 : Int32), s47, s45)) z_
def g_L_plans_196 (p1 : Int32) (x16 : Int32) (r29 : Int32) (s17 : LyS) (s18 : SiS) (s19 : PaS) (s40 : PlS) (s41 : LyS) (s42 : SiS) (s23 : HiS) (s24 : LyS) (s25 : LyS) (s26 : LyS) (s27 : LyS) (s28 : LyS) : Option (Int32 × LyS × SiS × PaS × PlS × LyS × SiS × HiS × LyS × LyS × LyS × LyS × LyS ⊕ (SiS × PaS)) :=
              if x16 = 0 then
                ((
                  if r29 = 0 then
                    some (1 : Int32)
                  else
                    some (0 : Int32) : Option (Int32))).bind fun x53 =>
                (f_X7_piece s17 s18 s19 p1 (8 : Int32)).bind fun (r54, s55, s56) =>
                ((
                  if r54 = (1 : Int32) then
                    some (1 : Int32)
                  else
                    some (0 : Int32) : Option (Int32))).bind fun x58 =>
                if x53 = x58 then
                  some (.inr (s55, s56))
                else
                  some (.inl ((0 : Int32), s17, s55, s56, s40, s41, s42, s23, s24, s25, s26, s27, s28))
              else
                some (.inr (s18, s19))
def g_L_plans_218 (p1 : Int32) (x16 : Int32) (r29 : Int32) (s17 : LyS) (s51 : SiS) (s52 : PaS) (s40 : PlS) (s41 : LyS) (s42 : SiS) (s23 : HiS) (s24 : LyS) (s25 : LyS) (s26 : LyS) (s27 : LyS) (s28 : LyS) : Option (Int32 × LyS × SiS × PaS × PlS × LyS × SiS × HiS × LyS × LyS × LyS × LyS × LyS ⊕ (SiS × PaS)) :=
              if x16 = (1 : Int32) then
                (f_X7_piece s17 s51 s52 p1 (8 : Int32)).bind fun (r61, s62, s63) =>
                if r61 = (1 : Int32) then
                  if r29 = 0 then
                    some (.inr (s62, s63))
                  else
                    some (.inl ((0 : Int32), s17, s62, s63, s40, s41, s42, s23, s24, s25, s26, s27, s28))
                else
                  some (.inr (s62, s63))
              else
                some (.inr (s51, s52))
def g_L_plans_251 (r9 : Int32) (r12 : Int32) (x16 : Int32) (r29 : Int32) (s17 : LyS) (s59 : SiS) (s60 : PaS) (s40 : PlS) (s41 : LyS) (s42 : SiS) (s23 : HiS) (s24 : LyS) (s25 : LyS) (s26 : LyS) (s27 : LyS) (s28 : LyS) : Option (Int32 × LyS × SiS × PaS × PlS × LyS × SiS × HiS × LyS × LyS × LyS × LyS × LyS ⊕ (Unit)) :=
              if x16 = (2 : Int32) then
                ((
                  if r29 = 0 then
                    some (1 : Int32)
                  else
                    some (0 : Int32) : Option (Int32))).bind fun x65 =>
                ((
                  if r9 = r12 then
                    some (1 : Int32)
                  else
                    some (0 : Int32) : Option (Int32))).bind fun x66 =>
                if x65 = x66 then
                  some (.inr ())
                else
                  some (.inl ((0 : Int32), s17, s59, s60, s40, s41, s42, s23, s24, s25, s26, s27, s28))
              else
                some (.inr ())
def g_L_plans_304 (utx : TxS) (r9 : Int32) (x16 : Int32) (s71 : LyS) (s80 : SiS) (s81 : PaS) (s40 : PlS) (s41 : LyS) (s42 : SiS) (s72 : HiS) (s73 : LyS) (s74 : LyS) (s75 : LyS) (s76 : LyS) (s77 : LyS) : Option (Int32 × LyS × SiS × PaS × PlS × LyS × SiS × HiS × LyS × LyS × LyS × LyS × LyS ⊕ (SiS)) :=
                  if x16 = (1 : Int32) then
                    (f_X7_count s71 s80 s72 utx (3 : Int32)).bind fun (r84, s85) =>
                    if r84 < r9 then
                      some (.inl ((0 : Int32), s71, s85, s81, s40, s41, s42, s72, s73, s74, s75, s76, s77))
                    else
                      some (.inr s85)
                  else
                    some (.inr s80)
def g_L_plans_320 (utx : TxS) (r12 : Int32) (x16 : Int32) (s71 : LyS) (s83 : SiS) (s81 : PaS) (s40 : PlS) (s41 : LyS) (s42 : SiS) (s72 : HiS) (s73 : LyS) (s74 : LyS) (s75 : LyS) (s76 : LyS) (s77 : LyS) : Option (Int32 × LyS × SiS × PaS × PlS × LyS × SiS × HiS × LyS × LyS × LyS × LyS × LyS ⊕ (SiS)) :=
                  if x16 = (2 : Int32) then
                    (f_X7_count s71 s83 s72 utx (3 : Int32)).bind fun (r88, s89) =>
                    if r88 = r12 then
                      some (.inr s89)
                    else
                      some (.inl ((0 : Int32), s71, s89, s81, s40, s41, s42, s72, s73, s74, s75, s76, s77))
                  else
                    some (.inr s83)
def b_L_plans_34 (utx : TxS) (p1 : Int32) (r12 : Int32) (r9 : Int32) : Int32 × Int32 × LyS × SiS × PaS × PlS × LyS × SiS × HiS × LyS × LyS × LyS × LyS × LyS → Option ((Int32 × Int32 × LyS × SiS × PaS × PlS × LyS × SiS × HiS × LyS × LyS × LyS × LyS × LyS) ⊕ (Int32 × LyS × SiS × PaS × PlS × LyS × SiS × HiS × LyS × LyS × LyS × LyS × LyS ⊕ (Int32 × Int32 × LyS × SiS × PaS × PlS × LyS × SiS × HiS × LyS × LyS × LyS × LyS × LyS)))
  | (x15, x16, s17, s18, s19, s20, s21, s22, s23, s24, s25, s26, s27, s28) =>
  if (3 : Int32) ≤ x16 then
    some (.inr (.inr (x15, x16, s17, s18, s19, s20, s21, s22, s23, s24, s25, s26, s27, s28)))
  else
    (f_X7_leastShift s17 s20 s21 s22 p1 x16 (0 : Int32)).bind fun (r29, s30, s31, s32) =>
    (f_X7_leastShift s17 s30 s31 s32 p1 x16 (1 : Int32)).bind fun (r34, s35, s36, s37) =>
    (f_X7_leastShift s17 s35 s36 s37 p1 x16 (2 : Int32)).bind fun (r39, s40, s41, s42) =>
    if r29 = (-109 : Int32) then
      if r34 = (-109 : Int32) then
        if r39 = (-109 : Int32) then
          if (2 : Int32) ≤ x16 then
            some (.inl (x15, (x16 + (1 : Int32)), s17, s18, s19, s40, s41, s42, s23, s24, s25, s26, s27, s28))
          else
            (f_X7_leastShift s17 s40 s41 s42 p1 (x16 + (1 : Int32)) (0 : Int32)).bind fun (r44, s45, s46, s47) =>
            if r44 = (-109 : Int32) then
              some (.inl (x15, (x16 + (1 : Int32)), s17, s18, s19, s45, s46, s47, s23, s24, s25, s26, s27, s28))
            else
              some (.inr (.inl ((0 : Int32), s17, s18, s19, s45, s46, s47, s23, s24, s25, s26, s27, s28)))
        else
          some (.inr (.inl ((0 : Int32), s17, s18, s19, s40, s41, s42, s23, s24, s25, s26, s27, s28)))
      else
        some (.inr (.inl ((0 : Int32), s17, s18, s19, s40, s41, s42, s23, s24, s25, s26, s27, s28)))
    else
      if r29 < x15 then
        some (.inr (.inl ((0 : Int32), s17, s18, s19, s40, s41, s42, s23, s24, s25, s26, s27, s28)))
      else
        if (8 : Int32) < r29 then
          some (.inr (.inl ((0 : Int32), s17, s18, s19, s40, s41, s42, s23, s24, s25, s26, s27, s28)))
        else
          ((
            if 0 ≤ r34 then
              some r34
            else
              some (-r34) : Option (Int32))).bind fun x49 =>
          ((
            if 0 ≤ r39 then
              some r39
            else
              some (-r39) : Option (Int32))).bind fun x50 =>
          if r29 = (x49 + x50) then
            (g_L_plans_196 p1 x16 r29 s17 s18 s19 s40 s41 s42 s23 s24 s25 s26 s27 s28).bind fun z_ => Sum.elim (fun r_ => some (.inr (.inl r_))) (fun (s51, s52) =>
            (g_L_plans_218 p1 x16 r29 s17 s51 s52 s40 s41 s42 s23 s24 s25 s26 s27 s28).bind fun z_ => Sum.elim (fun r_ => some (.inr (.inl r_))) (fun (s59, s60) =>
            (g_L_plans_251 r9 r12 x16 r29 s17 s59 s60 s40 s41 s42 s23 s24 s25 s26 s27 s28).bind fun z_ => Sum.elim (fun r_ => some (.inr (.inl r_))) (fun _ =>
            (f_X7_count s17 s59 s23 utx (7 : Int32)).bind fun (r67, s68) =>
            (f_X7_shift s17 s23 s24 s25 s26 s27 s28 p1 r34 r39).bind fun (r70, s71, s72, s73, s74, s75, s76, s77) =>
            if r70 = r29 then
              (f_X7_piece s71 s68 s60 p1 (8 : Int32)).bind fun (r79, s80, s81) =>
              if r79 = (1 : Int32) then
                (g_L_plans_304 utx r9 x16 s71 s80 s81 s40 s41 s42 s72 s73 s74 s75 s76 s77).bind fun z_ => Sum.elim (fun r_ => some (.inr (.inl r_))) (fun s83 =>
                (g_L_plans_320 utx r12 x16 s71 s83 s81 s40 s41 s42 s72 s73 s74 s75 s76 s77).bind fun z_ => Sum.elim (fun r_ => some (.inr (.inl r_))) (fun s87 =>
                (f_X7_count s71 s87 s72 utx (7 : Int32)).bind fun (r91, s92) =>
                if r91 = (r67 + r29) then
                  (f_X7_undo s71 s72 s73 s74 s75 s76 s77).bind fun (r94, s95, s96) =>
                  if r94 < 0 then
                    some (.inr (.inl ((0 : Int32), s95, s92, s81, s40, s41, s42, s96, s73, s74, s75, s76, s77)))
                  else
                    (f_X7_count s95 s92 s96 utx (7 : Int32)).bind fun (r98, s99) =>
                    if r98 = r67 then
                      (f_X7_count s95 s99 s96 utx (3 : Int32)).bind fun (r101, s102) =>
                      if r101 = r9 then
                        some (.inl (r29, (x16 + (1 : Int32)), s95, s102, s81, s40, s41, s42, s96, s73, s74, s75, s76, s77))
                      else
                        some (.inr (.inl ((0 : Int32), s95, s102, s81, s40, s41, s42, s96, s73, s74, s75, s76, s77)))
                    else
                      some (.inr (.inl ((0 : Int32), s95, s99, s81, s40, s41, s42, s96, s73, s74, s75, s76, s77)))
                else
                  some (.inr (.inl ((0 : Int32), s71, s92, s81, s40, s41, s42, s72, s73, s74, s75, s76, s77)))) z_) z_
              else
                some (.inr (.inl ((0 : Int32), s71, s80, s81, s40, s41, s42, s72, s73, s74, s75, s76, s77)))
            else
              some (.inr (.inl ((0 : Int32), s71, s68, s60, s40, s41, s42, s72, s73, s74, s75, s76, s77)))) z_) z_) z_
          else
            some (.inr (.inl ((0 : Int32), s17, s18, s19, s40, s41, s42, s23, s24, s25, s26, s27, s28)))
def g_L_plans_417 (p1 : Int32) (r1 : Int32) (r5 : Int32) (s106 : LyS) (s107 : SiS) (s108 : PaS) (s109 : PlS) (s110 : LyS) (s111 : SiS) (s112 : HiS) (s113 : LyS) (s114 : LyS) (s115 : LyS) (s116 : LyS) (s117 : LyS) : Option (Int32 × LyS × SiS × PaS × PlS × LyS × SiS × HiS × LyS × LyS × LyS × LyS × LyS ⊕ (LyS × SiS × PaS × HiS × LyS × LyS × LyS × LyS × LyS)) :=
    if r1 = (-109 : Int32) then
      some (.inr (s106, s107, s108, s112, s113, s114, s115, s116, s117))
    else
      (f_X7_setLayer s106 s112 s113 s114 s115 s116 s117 p1 r1).bind fun (r127, s128, s129, s130, s131, s132, s133, s134) =>
      if r127 = r5 then
        (f_X7_piece s128 s107 s108 p1 (8 : Int32)).bind fun (r136, s137, s138) =>
        if r136 = (1 : Int32) then
          (f_X7_undo s128 s129 s130 s131 s132 s133 s134).bind fun (r140, s141, s142) =>
          if r140 < 0 then
            some (.inl ((0 : Int32), s141, s137, s138, s109, s110, s111, s142, s130, s131, s132, s133, s134))
          else
            (f_X7_piece s141 s137 s138 p1 (6 : Int32)).bind fun (r144, s145, s146) =>
            if r144 = r5 then
              some (.inr (s141, s145, s146, s142, s130, s131, s132, s133, s134))
            else
              some (.inl ((0 : Int32), s141, s145, s146, s109, s110, s111, s142, s130, s131, s132, s133, s134))
        else
          some (.inl ((0 : Int32), s128, s137, s138, s109, s110, s111, s129, s130, s131, s132, s133, s134))
      else
        some (.inl ((0 : Int32), s128, s107, s108, s109, s110, s111, s129, s130, s131, s132, s133, s134))
def g_L_plans_439 (r1 : Int32) (r5 : Int32) (r148 : Int32) (s118 : LyS) (s149 : SiS) (s150 : PaS) (s109 : PlS) (s110 : LyS) (s111 : SiS) (s121 : HiS) (s122 : LyS) (s123 : LyS) (s124 : LyS) (s125 : LyS) (s126 : LyS) : Option (Int32 × LyS × SiS × PaS × PlS × LyS × SiS × HiS × LyS × LyS × LyS × LyS × LyS ⊕ (Unit)) :=
    if r148 = (1 : Int32) then
      if r1 = (-109 : Int32) then
        some (.inl ((0 : Int32), s118, s149, s150, s109, s110, s111, s121, s122, s123, s124, s125, s126))
      else
        if r5 < r1 then
          some (.inl ((0 : Int32), s118, s149, s150, s109, s110, s111, s121, s122, s123, s124, s125, s126))
        else
          some (.inr ())
    else
      some (.inr ())
def g_L_plans_460 (p1 : Int32) (r1 : Int32) (r5 : Int32) (r12 : Int32) (s118 : LyS) (s149 : SiS) (s150 : PaS) (s109 : PlS) (s110 : LyS) (s111 : SiS) (s121 : HiS) (s122 : LyS) (s123 : LyS) (s124 : LyS) (s125 : LyS) (s126 : LyS) : Option (Int32 × LyS × SiS × PaS × PlS × LyS × SiS × HiS × LyS × LyS × LyS × LyS × LyS ⊕ (LyS × HiS × LyS × LyS × LyS × LyS × LyS)) :=
    if r1 = (-109 : Int32) then
      (f_X7_setLayer s118 s121 s122 s123 s124 s125 s126 p1 (r12 - (1 : Int32))).bind fun (r159, s160, s161, s162, s163, s164, s165, s166) =>
      if r159 = r5 then
        some (.inr (s160, s161, s162, s163, s164, s165, s166))
      else
        some (.inl ((0 : Int32), s160, s149, s150, s109, s110, s111, s161, s162, s163, s164, s165, s166))
    else
      some (.inr (s118, s121, s122, s123, s124, s125, s126))
def f_L_plans (unow : LyS) (usi : SiS) (upa : PaS) (upl : PlS) (utr : LyS) (ups : SiS) (uhi : HiS) (uh0 : LyS) (uh1 : LyS) (uh2 : LyS) (uh3 : LyS) (uh4 : LyS) (utx : TxS) (p1 : Int32) : Option (Int32 × LyS × SiS × PaS × PlS × LyS × SiS × HiS × LyS × LyS × LyS × LyS × LyS) :=
  (f_X7_layerFor unow utr ups p1).bind fun (r1, s2, s3) =>
  (f_X7_piece unow usi upa p1 (6 : Int32)).bind fun (r5, s6, s7) =>
  (f_X7_count unow s6 uhi utx (3 : Int32)).bind fun (r9, s10) =>
  (f_X7_count unow s10 uhi utx (0 : Int32)).bind fun (r12, s13) =>
  (x_loop (b_L_plans_34 utx p1 r12 r9) x_fuel ((0 : Int32), (0 : Int32), unow, s13, s7, upl, s2, s3, uhi, uh0, uh1, uh2, uh3, uh4)).bind fun z_ => Sum.elim (fun r_ => some r_) (fun (x104, x105, s106, s107, s108, s109, s110, s111, s112, s113, s114, s115, s116, s117) =>
  (g_L_plans_417 p1 r1 r5 s106 s107 s108 s109 s110 s111 s112 s113 s114 s115 s116 s117).bind fun z_ => Sum.elim (fun r_ => some r_) (fun (s118, s119, s120, s121, s122, s123, s124, s125, s126) =>
  (f_X7_piece s118 s119 s120 p1 (8 : Int32)).bind fun (r148, s149, s150) =>
  (g_L_plans_439 r1 r5 r148 s118 s149 s150 s109 s110 s111 s121 s122 s123 s124 s125 s126).bind fun z_ => Sum.elim (fun r_ => some r_) (fun _ =>
  (g_L_plans_460 p1 r1 r5 r12 s118 s149 s150 s109 s110 s111 s121 s122 s123 s124 s125 s126).bind fun z_ => Sum.elim (fun r_ => some r_) (fun (s152, s153, s154, s155, s156, s157, s158) =>
  if r1 = (-109 : Int32) then
    (f_X7_piece s152 s149 s150 p1 (8 : Int32)).bind fun (r168, s169, s170) =>
    if r168 = 0 then
      (f_X7_undo s152 s153 s154 s155 s156 s157 s158).bind fun (r172, s173, s174) =>
      if r172 < 0 then
        some ((0 : Int32), s173, s169, s170, s109, s110, s111, s174, s154, s155, s156, s157, s158)
      else
        some ((1 : Int32), s173, s169, s170, s109, s110, s111, s174, s154, s155, s156, s157, s158)
    else
      some ((0 : Int32), s152, s169, s170, s109, s110, s111, s153, s154, s155, s156, s157, s158)
  else
    some ((1 : Int32), s152, s149, s150, s109, s110, s111, s153, s154, s155, s156, s157, s158)) z_) z_) z_) z_
def b_L_arranges_126 (utx : TxS) (r13 : Int32) (r4 : Int32) (s14 : LyS) (s19 : HiS) (s20 : LyS) (s21 : LyS) (s22 : LyS) (s23 : LyS) (s24 : LyS) : Int32 × SiS × PaS × PlS × LyS × SiS → Option ((Int32 × SiS × PaS × PlS × LyS × SiS) ⊕ (Int32 × LyS × SiS × PaS × PlS × LyS × SiS × HiS × LyS × LyS × LyS × LyS × LyS ⊕ (Int32 × SiS × PaS × PlS × LyS × SiS)))
  | (x41, s42, s43, s44, s45, s46) =>
  if r4 ≤ x41 then
    some (.inr (.inr (x41, s42, s43, s44, s45, s46)))
  else
    if (12 : Int32) ≤ r13 then
      some (.inr (.inr (x41, s42, s43, s44, s45, s46)))
    else
      (f_X7_count s14 s42 s19 utx (3 : Int32)).bind fun (r47, s48) =>
      if r4 ≤ r47 then
        some (.inr (.inr (x41, s48, s43, s44, s45, s46)))
      else
        (f_X7_piece s14 s48 s43 x41 (8 : Int32)).bind fun (r50, s51, s52) =>
        if r50 = 0 then
          (f_X7_leastShift s14 s44 s45 s46 x41 (1 : Int32) (0 : Int32)).bind fun (r54, s55, s56, s57) =>
          if r54 = (-109 : Int32) then
            some (.inl ((x41 + (1 : Int32)), s51, s52, s55, s56, s57))
          else
            some (.inr (.inl ((0 : Int32), s14, s51, s52, s55, s56, s57, s19, s20, s21, s22, s23, s24)))
        else
          some (.inl ((x41 + (1 : Int32)), s51, s52, s44, s45, s46))
def f_L_arranges (unow : LyS) (usi : SiS) (upa : PaS) (upl : PlS) (utr : LyS) (ups : SiS) (uhi : HiS) (uh0 : LyS) (uh1 : LyS) (uh2 : LyS) (uh3 : LyS) (uh4 : LyS) (utx : TxS) : Option (Int32 × LyS × SiS × PaS × PlS × LyS × SiS × HiS × LyS × LyS × LyS × LyS × LyS) :=
  (f_X7_count unow usi uhi utx (3 : Int32)).bind fun (r1, s2) =>
  (f_X7_count unow s2 uhi utx (0 : Int32)).bind fun (r4, s5) =>
  (f_X7_count unow s5 uhi utx (7 : Int32)).bind fun (r7, s8) =>
  (f_X7_count unow s8 uhi utx (8 : Int32)).bind fun (r10, s11) =>
  (f_X7_arrange unow s11 upl utr ups uhi uh0 uh1 uh2 uh3 uh4).bind fun (r13, s14, s15, s16, s17, s18, s19, s20, s21, s22, s23, s24) =>
  if r1 = r4 then
    if r13 = (-102 : Int32) then
      (f_X7_count s14 s15 s19 utx (8 : Int32)).bind fun (r26, s27) =>
      if r26 = r10 then
        some ((1 : Int32), s14, s27, upa, s16, s17, s18, s19, s20, s21, s22, s23, s24)
      else
        some ((0 : Int32), s14, s27, upa, s16, s17, s18, s19, s20, s21, s22, s23, s24)
    else
      some ((0 : Int32), s14, s15, upa, s16, s17, s18, s19, s20, s21, s22, s23, s24)
  else
    if r13 < 0 then
      some ((0 : Int32), s14, s15, upa, s16, s17, s18, s19, s20, s21, s22, s23, s24)
    else
      if (12 : Int32) < r13 then
        some ((0 : Int32), s14, s15, upa, s16, s17, s18, s19, s20, s21, s22, s23, s24)
      else
        (f_X7_count s14 s15 s19 utx (3 : Int32)).bind fun (r29, s30) =>
        if r29 < r1 then
          some ((0 : Int32), s14, s30, upa, s16, s17, s18, s19, s20, s21, s22, s23, s24)
        else
          (f_X7_count s14 s30 s19 utx (7 : Int32)).bind fun (r32, s33) =>
          if r32 < (r7 + r13) then
            some ((0 : Int32), s14, s33, upa, s16, s17, s18, s19, s20, s21, s22, s23, s24)
          else
            (f_X7_count s14 s33 s19 utx (7 : Int32)).bind fun (r35, s36) =>
            if (r7 + ((8 : Int32) * r13)) < r35 then
              some ((0 : Int32), s14, s36, upa, s16, s17, s18, s19, s20, s21, s22, s23, s24)
            else
              (f_X7_count s14 s36 s19 utx (0 : Int32)).bind fun (r38, s39) =>
              if r38 = r4 then
                (x_loop (b_L_arranges_126 utx r13 r4 s14 s19 s20 s21 s22 s23 s24) x_fuel ((0 : Int32), s39, upa, s16, s17, s18)).bind fun z_ => Sum.elim (fun r_ => some r_) (fun (x59, s60, s61, s62, s63, s64) =>
                (f_L_sound s14 s60 s61 s19 utx).bind fun (r65, s66, s67) =>
                if r65 = 0 then
                  some ((0 : Int32), s14, s66, s67, s62, s63, s64, s19, s20, s21, s22, s23, s24)
                else
                  (f_X7_undo s14 s19 s20 s21 s22 s23 s24).bind fun (r69, s70, s71) =>
                  if r69 < 0 then
                    some ((0 : Int32), s70, s66, s67, s62, s63, s64, s71, s20, s21, s22, s23, s24)
                  else
                    (f_X7_count s70 s66 s71 utx (3 : Int32)).bind fun (r73, s74) =>
                    if r73 = r1 then
                      (f_X7_count s70 s74 s71 utx (7 : Int32)).bind fun (r76, s77) =>
                      if r76 = r7 then
                        some ((1 : Int32), s70, s77, s67, s62, s63, s64, s71, s20, s21, s22, s23, s24)
                      else
                        some ((0 : Int32), s70, s77, s67, s62, s63, s64, s71, s20, s21, s22, s23, s24)
                    else
                      some ((0 : Int32), s70, s74, s67, s62, s63, s64, s71, s20, s21, s22, s23, s24)) z_
              else
                some ((0 : Int32), s14, s39, upa, s16, s17, s18, s19, s20, s21, s22, s23, s24)
def g_L_refuses_186 (r1 : Int32) (r10 : Int32) (s11 : LyS) (s12 : SiS) (s13 : HiS) (s14 : LyS) (s15 : LyS) (s16 : LyS) (s17 : LyS) (s18 : LyS) : Option (Int32 × LyS × SiS × HiS × LyS × LyS × LyS × LyS × LyS) :=
    if r10 = (-101 : Int32) then
      (f_X7_setPage s11 s12 s13 s14 s15 s16 s17 s18 (4 : Int32) (3 : Int32)).bind fun (r29, s30, s31, s32, s33, s34, s35, s36, s37) =>
      if r29 = (-101 : Int32) then
        (f_X7_addPiece s30 s32 s33 s34 s35 s36 s37 (-21 : Int32) (0 : Int32) (1 : Int32) (1 : Int32) (0 : Int32)).bind fun (r39, s40, s41, s42, s43, s44, s45, s46) =>
        if r39 = (-101 : Int32) then
          (f_X7_addPiece s40 s41 s42 s43 s44 s45 s46 (0 : Int32) (41 : Int32) (1 : Int32) (1 : Int32) (0 : Int32)).bind fun (r48, s49, s50, s51, s52, s53, s54, s55) =>
          if r48 = (-101 : Int32) then
            (f_X7_addPiece s49 s50 s51 s52 s53 s54 s55 (0 : Int32) (0 : Int32) (1 : Int32) (13 : Int32) (0 : Int32)).bind fun (r57, s58, s59, s60, s61, s62, s63, s64) =>
            if r57 = (-101 : Int32) then
              (f_X7_addPiece s58 s59 s60 s61 s62 s63 s64 (0 : Int32) (0 : Int32) (1 : Int32) (1 : Int32) (-1 : Int32)).bind fun (r66, s67, s68, s69, s70, s71, s72, s73) =>
              if r66 = (-101 : Int32) then
                (f_X7_removePiece s67 s68 s69 s70 s71 s72 s73 r1).bind fun (r75, s76, s77, s78, s79, s80, s81, s82) =>
                if r75 = (-101 : Int32) then
                  (f_X7_setShare s76 s77 s78 s79 s80 s81 s82 r1 (0 : Int32)).bind fun (r84, s85, s86, s87, s88, s89, s90, s91) =>
                  if r84 = (-101 : Int32) then
                    (f_X7_setFrame s85 s86 s87 s88 s89 s90 s91 (-1 : Int32) (0 : Int32)).bind fun (r93, s94, s95, s96, s97, s98, s99, s100) =>
                    if r93 = (-101 : Int32) then
                      (f_X7_shift s94 s95 s96 s97 s98 s99 s100 r1 (0 : Int32) (0 : Int32)).bind fun (r102, s103, s104, s105, s106, s107, s108, s109) =>
                      if r102 = (-101 : Int32) then
                        (f_X7_shift s103 s104 s105 s106 s107 s108 s109 (0 : Int32) (61 : Int32) (0 : Int32)).bind fun (r111, s112, s113, s114, s115, s116, s117, s118) =>
                        if r111 = (-101 : Int32) then
                          (f_X7_setLayer s112 s113 s114 s115 s116 s117 s118 (0 : Int32) r1).bind fun (r120, s121, s122, s123, s124, s125, s126, s127) =>
                          if r120 = (-101 : Int32) then
                            (f_X7_setLayer s121 s122 s123 s124 s125 s126 s127 r1 (0 : Int32)).bind fun (r129, s130, s131, s132, s133, s134, s135, s136) =>
                            if r129 = (-101 : Int32) then
                              some ((1 : Int32), s130, s31, s131, s132, s133, s134, s135, s136)
                            else
                              some ((0 : Int32), s130, s31, s131, s132, s133, s134, s135, s136)
                          else
                            some ((0 : Int32), s121, s31, s122, s123, s124, s125, s126, s127)
                        else
                          some ((0 : Int32), s112, s31, s113, s114, s115, s116, s117, s118)
                      else
                        some ((0 : Int32), s103, s31, s104, s105, s106, s107, s108, s109)
                    else
                      some ((0 : Int32), s94, s31, s95, s96, s97, s98, s99, s100)
                  else
                    some ((0 : Int32), s85, s31, s86, s87, s88, s89, s90, s91)
                else
                  some ((0 : Int32), s76, s31, s77, s78, s79, s80, s81, s82)
              else
                some ((0 : Int32), s67, s31, s68, s69, s70, s71, s72, s73)
            else
              some ((0 : Int32), s58, s31, s59, s60, s61, s62, s63, s64)
          else
            some ((0 : Int32), s49, s31, s50, s51, s52, s53, s54, s55)
        else
          some ((0 : Int32), s40, s31, s41, s42, s43, s44, s45, s46)
      else
        some ((0 : Int32), s30, s31, s32, s33, s34, s35, s36, s37)
    else
      some ((0 : Int32), s11, s12, s13, s14, s15, s16, s17, s18)
def g_L_refuses_341 (upa : PaS) (upl : PlS) (utr : LyS) (ups : SiS) (utx : TxS) (x20 : Int32) (r1 : Int32) (s21 : LyS) (s22 : SiS) (s23 : HiS) : Option (Int32 × SiS × PaS × PlS × LyS × SiS × TxS) :=
    if x20 = 0 then
      some ((0 : Int32), s22, upa, upl, utr, ups, utx)
    else
      (f_X7_count s21 s22 s23 utx (-1 : Int32)).bind fun (r145, s146) =>
      if r145 = (-101 : Int32) then
        (f_X7_count s21 s146 s23 utx (10 : Int32)).bind fun (r148, s149) =>
        if r148 = (-101 : Int32) then
          (f_X7_piece s21 s149 upa r1 (0 : Int32)).bind fun (r151, s152, s153) =>
          if r151 = (-101 : Int32) then
            (f_X7_piece s21 s152 s153 (0 : Int32) (13 : Int32)).bind fun (r155, s156, s157) =>
            if r155 = (-101 : Int32) then
              (f_X7_edge s21 s156 r1 (-1 : Int32)).bind fun (r159, s160) =>
              if r159 = (-101 : Int32) then
                (f_X7_edge s21 s160 (0 : Int32) (0 : Int32)).bind fun (r162, s163) =>
                if r162 = (-101 : Int32) then
                  (f_X7_edge s21 s163 (0 : Int32) r1).bind fun (r165, s166) =>
                  if r165 = (-101 : Int32) then
                    (f_X7_hides s21 s166 (0 : Int32) (0 : Int32)).bind fun (r168, s169) =>
                    if r168 = (-101 : Int32) then
                      (f_X7_hides s21 s169 r1 (0 : Int32)).bind fun (r171, s172) =>
                      if r171 = (-101 : Int32) then
                        (f_X7_leastShift s21 upl utr ups (0 : Int32) (-1 : Int32) (0 : Int32)).bind fun (r174, s175, s176, s177) =>
                        if r174 = (-101 : Int32) then
                          (f_X7_leastShift s21 s175 s176 s177 r1 (0 : Int32) (0 : Int32)).bind fun (r179, s180, s181, s182) =>
                          if r179 = (-101 : Int32) then
                            (f_X7_layerFor s21 s181 s182 r1).bind fun (r184, s185, s186) =>
                            if r184 = (-101 : Int32) then
                              (f_X7_append utx (0 : Int32)).bind fun (r188, s189) =>
                              if r188 = (-101 : Int32) then
                                some ((1 : Int32), s172, s157, s180, s185, s186, s189)
                              else
                                some ((0 : Int32), s172, s157, s180, s185, s186, s189)
                            else
                              some ((0 : Int32), s172, s157, s180, s185, s186, utx)
                          else
                            some ((0 : Int32), s172, s157, s180, s181, s182, utx)
                        else
                          some ((0 : Int32), s172, s157, s175, s176, s177, utx)
                      else
                        some ((0 : Int32), s172, s157, upl, utr, ups, utx)
                    else
                      some ((0 : Int32), s169, s157, upl, utr, ups, utx)
                  else
                    some ((0 : Int32), s166, s157, upl, utr, ups, utx)
                else
                  some ((0 : Int32), s163, s157, upl, utr, ups, utx)
              else
                some ((0 : Int32), s160, s157, upl, utr, ups, utx)
            else
              some ((0 : Int32), s156, s157, upl, utr, ups, utx)
          else
            some ((0 : Int32), s152, s153, upl, utr, ups, utx)
        else
          some ((0 : Int32), s149, upa, upl, utr, ups, utx)
      else
        some ((0 : Int32), s146, upa, upl, utr, ups, utx)
def f_L_refuses (unow : LyS) (usi : SiS) (upa : PaS) (upl : PlS) (utr : LyS) (ups : SiS) (uhi : HiS) (uh0 : LyS) (uh1 : LyS) (uh2 : LyS) (uh3 : LyS) (uh4 : LyS) (utx : TxS) : Option (Int32 × LyS × SiS × PaS × PlS × LyS × SiS × HiS × LyS × LyS × LyS × LyS × LyS × TxS) :=
  (f_X7_count unow usi uhi utx (0 : Int32)).bind fun (r1, s2) =>
  (f_X7_count unow s2 uhi utx (8 : Int32)).bind fun (r4, s5) =>
  (f_X7_count unow s5 uhi utx (7 : Int32)).bind fun (r7, s8) =>
  (f_X7_setPage unow s8 uhi uh0 uh1 uh2 uh3 uh4 (25 : Int32) (4 : Int32)).bind fun (r10, s11, s12, s13, s14, s15, s16, s17, s18) =>
  (g_L_refuses_186 r1 r10 s11 s12 s13 s14 s15 s16 s17 s18).bind fun (x20, s21, s22, s23, s24, s25, s26, s27, s28) =>
  (g_L_refuses_341 upa upl utr ups utx x20 r1 s21 s22 s23).bind fun (x138, s139, s140, s141, s142, s143, s144) =>
  if x138 = 0 then
    some ((0 : Int32), s21, s139, s140, s141, s142, s143, s23, s24, s25, s26, s27, s28, s144)
  else
    (f_X7_count s21 s139 s23 s144 (8 : Int32)).bind fun (r191, s192) =>
    if r191 = r4 then
      (f_X7_count s21 s192 s23 s144 (7 : Int32)).bind fun (r194, s195) =>
      if r194 = r7 then
        (f_X7_count s21 s195 s23 s144 (0 : Int32)).bind fun (r197, s198) =>
        if r197 = r1 then
          some ((1 : Int32), s21, s198, s140, s141, s142, s143, s23, s24, s25, s26, s27, s28, s144)
        else
          some ((0 : Int32), s21, s198, s140, s141, s142, s143, s23, s24, s25, s26, s27, s28, s144)
      else
        some ((0 : Int32), s21, s195, s140, s141, s142, s143, s23, s24, s25, s26, s27, s28, s144)
    else
      some ((0 : Int32), s21, s192, s140, s141, s142, s143, s23, s24, s25, s26, s27, s28, s144)
def g_L_law_110 (r49 : Int32) (x35 : Int32) : Option (Int32) :=
      if (4 : Int32) ≤ x35 then
        (f_L_low r49 (10 : Int32)).bind fun r57 =>
        some r57
      else
        some (0 : Int32)
def g_L_law_129 (r49 : Int32) (r53 : Int32) : Option (Int32) :=
      if r53 = 0 then
        some (0 : Int32)
      else
        (f_L_low (r49 >>> ((5 : Int32) &&& 31)) r53).bind fun r60 =>
        some r60
def g_L_law_397 (x114 : Int32) (x59 : Int32) (s36 : LyS) (s54 : SiS) (s38 : PaS) : Option (Int32 × SiS × PaS) :=
                if x114 ≤ 0 then
                  some ((0 : Int32), s54, s38)
                else
                  (f_X7_piece s36 s54 s38 (x59 + (1 : Int32)) (0 : Int32)).bind fun (r118, s119, s120) =>
                  some (r118, s119, s120)
def g_L_law_429 (x115 : Int32) (x59 : Int32) (x114 : Int32) (s123 : LyS) (s116 : SiS) (s117 : PaS) (s39 : PlS) (s40 : LyS) (s41 : SiS) (s124 : HiS) (s125 : LyS) (s126 : LyS) (s127 : LyS) (s128 : LyS) (s129 : LyS) (s48 : TxS) : Option (Int32 × LyS × SiS × PaS × PlS × LyS × SiS × HiS × LyS × LyS × LyS × LyS × LyS × TxS ⊕ (SiS × PaS)) :=
                  if x114 ≤ 0 then
                    some (.inr (s116, s117))
                  else
                    (f_X7_piece s123 s116 s117 x59 (0 : Int32)).bind fun (r133, s134, s135) =>
                    if r133 = x115 then
                      some (.inr (s134, s135))
                    else
                      some (.inl ((0 : Int32), s123, s134, s135, s39, s40, s41, s124, s125, s126, s127, s128, s129, s48))
def g_L_law_397' (x285 : Int32) (x59 : Int32) (s36 : LyS) (s54 : SiS) (s38 : PaS) : Option (Int32 × SiS × PaS) :=
                  if x285 ≤ 0 then
                    some ((0 : Int32), s54, s38)
                  else
                    (f_X7_piece s36 s54 s38 (x59 + (1 : Int32)) (0 : Int32)).bind fun (r289, s290, s291) =>
                    some (r289, s290, s291)
def g_L_law_429' (x286 : Int32) (x59 : Int32) (x285 : Int32) (s294 : LyS) (s287 : SiS) (s288 : PaS) (s39 : PlS) (s40 : LyS) (s41 : SiS) (s295 : HiS) (s296 : LyS) (s297 : LyS) (s298 : LyS) (s299 : LyS) (s300 : LyS) (s48 : TxS) : Option (Int32 × LyS × SiS × PaS × PlS × LyS × SiS × HiS × LyS × LyS × LyS × LyS × LyS × TxS ⊕ (SiS × PaS)) :=
                    if x285 ≤ 0 then
                      some (.inr (s287, s288))
                    else
                      (f_X7_piece s294 s287 s288 x59 (0 : Int32)).bind fun (r304, s305, s306) =>
                      if r304 = x286 then
                        some (.inr (s305, s306))
                      else
                        some (.inl ((0 : Int32), s294, s305, s306, s39, s40, s41, s295, s296, s297, s298, s299, s300, s48))
def g_L_law_847 (x59 : Int32) (r51 : Int32) (r53 : Int32) (x56 : Int32) (s36 : LyS) (s54 : SiS) (s38 : PaS) (s39 : PlS) (s40 : LyS) (s41 : SiS) (s42 : HiS) (s43 : LyS) (s44 : LyS) (s45 : LyS) (s46 : LyS) (s47 : LyS) (s48 : TxS) : Option (Int32 × LyS × SiS × PaS × PlS × LyS × SiS × HiS × LyS × LyS × LyS × LyS × LyS × TxS ⊕ (LyS × SiS × PaS × PlS × LyS × SiS × HiS × LyS × LyS × LyS × LyS × LyS × TxS)) :=
      if (2 : Int32) ≤ x56 then
        if x56 = (2 : Int32) then
          (f_L_low r51 (12 : Int32)).bind fun r75 =>
          x_nm ((4 : Int32) + r75) fun x77 =>
          (f_L_low (r51 >>> ((5 : Int32) &&& 31)) (12 : Int32)).bind fun r78 =>
          (f_X7_setPage s36 s54 s42 s43 s44 s45 s46 s47 x77 ((4 : Int32) + r78)).bind fun (r80, s81, s82, s83, s84, s85, s86, s87, s88) =>
          (f_X7_count s81 s82 s83 s48 (3 : Int32)).bind fun (r90, s91) =>
          if r80 = r90 then
            (f_X7_count s81 s91 s83 s48 (1 : Int32)).bind fun (r93, s94) =>
            if r93 = x77 then
              (f_X7_count s81 s94 s83 s48 (0 : Int32)).bind fun (r96, s97) =>
              if r96 = r53 then
                some (.inr (s81, s97, s38, s39, s40, s41, s83, s84, s85, s86, s87, s88, s48))
              else
                some (.inl ((0 : Int32), s81, s97, s38, s39, s40, s41, s83, s84, s85, s86, s87, s88, s48))
            else
              some (.inl ((0 : Int32), s81, s94, s38, s39, s40, s41, s83, s84, s85, s86, s87, s88, s48))
          else
            some (.inl ((0 : Int32), s81, s91, s38, s39, s40, s41, s83, s84, s85, s86, s87, s88, s48))
        else
          if r53 = 0 then
            (f_L_refuses s36 s54 s38 s39 s40 s41 s42 s43 s44 s45 s46 s47 s48).bind fun (r99, s100, s101, s102, s103, s104, s105, s106, s107, s108, s109, s110, s111, s112) =>
            if r99 = 0 then
              some (.inl ((0 : Int32), s100, s101, s102, s103, s104, s105, s106, s107, s108, s109, s110, s111, s112))
            else
              some (.inr (s100, s101, s102, s103, s104, s105, s106, s107, s108, s109, s110, s111, s112))
          else
            if x56 = (3 : Int32) then
              x_nm ((r53 - (1 : Int32)) - x59) fun x114 =>
              (g_L_law_397 x114 x59 s36 s54 s38).bind fun (x115, s116, s117) =>
              (f_X7_removePiece s36 s42 s43 s44 s45 s46 s47 x59).bind fun (r122, s123, s124, s125, s126, s127, s128, s129) =>
              if r122 = (r53 - (1 : Int32)) then
                (g_L_law_429 x115 x59 x114 s123 s116 s117 s39 s40 s41 s124 s125 s126 s127 s128 s129 s48).bind fun z_ => Sum.elim (fun r_ => some (.inl r_)) (fun (s131, s132) =>
                (f_L_low r51 (2 : Int32)).bind fun r137 =>
                if r137 = 0 then
                  (f_X7_undo s123 s124 s125 s126 s127 s128 s129).bind fun (r139, s140, s141) =>
                  if r139 < 0 then
                    some (.inl ((0 : Int32), s140, s131, s132, s39, s40, s41, s141, s125, s126, s127, s128, s129, s48))
                  else
                    (f_X7_count s140 s131 s141 s48 (0 : Int32)).bind fun (r143, s144) =>
                    if r143 = r53 then
                      some (.inr (s140, s144, s132, s39, s40, s41, s141, s125, s126, s127, s128, s129, s48))
                    else
                      some (.inl ((0 : Int32), s140, s144, s132, s39, s40, s41, s141, s125, s126, s127, s128, s129, s48))
                else
                  some (.inr (s123, s131, s132, s39, s40, s41, s124, s125, s126, s127, s128, s129, s48))) z_
              else
                some (.inl ((0 : Int32), s123, s116, s117, s39, s40, s41, s124, s125, s126, s127, s128, s129, s48))
            else
              if x56 = (4 : Int32) then
                (f_X7_piece s36 s54 s38 x59 (4 : Int32)).bind fun (r146, s147, s148) =>
                (f_L_low r51 (101 : Int32)).bind fun r150 =>
                (f_X7_setShare s36 s42 s43 s44 s45 s46 s47 x59 r150).bind fun (r152, s153, s154, s155, s156, s157, s158, s159) =>
                if r152 = r146 then
                  (f_X7_piece s153 s147 s148 x59 (4 : Int32)).bind fun (r161, s162, s163) =>
                  (f_L_low r51 (101 : Int32)).bind fun r165 =>
                  if r161 = r165 then
                    some (.inr (s153, s162, s163, s39, s40, s41, s154, s155, s156, s157, s158, s159, s48))
                  else
                    some (.inl ((0 : Int32), s153, s162, s163, s39, s40, s41, s154, s155, s156, s157, s158, s159, s48))
                else
                  some (.inl ((0 : Int32), s153, s147, s148, s39, s40, s41, s154, s155, s156, s157, s158, s159, s48))
              else
                if x56 = (5 : Int32) then
                  (f_X7_piece s36 s54 s38 x59 (5 : Int32)).bind fun (r167, s168, s169) =>
                  (f_L_low r51 (4 : Int32)).bind fun r171 =>
                  (f_X7_setFrame s36 s42 s43 s44 s45 s46 s47 x59 r171).bind fun (r173, s174, s175, s176, s177, s178, s179, s180) =>
                  if r173 = r167 then
                    (f_X7_piece s174 s168 s169 x59 (5 : Int32)).bind fun (r182, s183, s184) =>
                    (f_L_low r51 (4 : Int32)).bind fun r186 =>
                    if r182 = r186 then
                      some (.inr (s174, s183, s184, s39, s40, s41, s175, s176, s177, s178, s179, s180, s48))
                    else
                      some (.inl ((0 : Int32), s174, s183, s184, s39, s40, s41, s175, s176, s177, s178, s179, s180, s48))
                  else
                    some (.inl ((0 : Int32), s174, s168, s169, s39, s40, s41, s175, s176, s177, s178, s179, s180, s48))
                else
                  if (8 : Int32) ≤ x56 then
                    (f_X7_piece s36 s54 s38 x59 (6 : Int32)).bind fun (r188, s189, s190) =>
                    (f_L_low r51 r53).bind fun r192 =>
                    (f_X7_inLayer s36 r192).bind fun r194 =>
                    (f_X7_setLayer s36 s42 s43 s44 s45 s46 s47 x59 r192).bind fun (r196, s197, s198, s199, s200, s201, s202, s203) =>
                    if r196 = r188 then
                      (f_X7_inLayer s197 r192).bind fun r205 =>
                      if r205 = x59 then
                        if r194 = x59 then
                          some (.inr (s197, s189, s190, s39, s40, s41, s198, s199, s200, s201, s202, s203, s48))
                        else
                          (f_X7_piece s197 s189 s190 r194 (6 : Int32)).bind fun (r207, s208, s209) =>
                          ((
                            if r192 ≤ r188 then
                              some (r192 + (1 : Int32))
                            else
                              some (r192 - (1 : Int32)) : Option (Int32))).bind fun x211 =>
                          if r207 = x211 then
                            some (.inr (s197, s208, s209, s39, s40, s41, s198, s199, s200, s201, s202, s203, s48))
                          else
                            some (.inl ((0 : Int32), s197, s208, s209, s39, s40, s41, s198, s199, s200, s201, s202, s203, s48))
                      else
                        some (.inl ((0 : Int32), s197, s189, s190, s39, s40, s41, s198, s199, s200, s201, s202, s203, s48))
                    else
                      some (.inl ((0 : Int32), s197, s189, s190, s39, s40, s41, s198, s199, s200, s201, s202, s203, s48))
                  else
                    (f_L_low r51 (9 : Int32)).bind fun r212 =>
                    x_nm (r212 - (4 : Int32)) fun x214 =>
                    (f_L_low (r51 >>> ((4 : Int32) &&& 31)) (9 : Int32)).bind fun r215 =>
                    x_nm (r215 - (4 : Int32)) fun x217 =>
                    (f_X7_piece s36 s54 s38 x59 (0 : Int32)).bind fun (r218, s219, s220) =>
                    (f_X7_piece s36 s219 s220 x59 (1 : Int32)).bind fun (r222, s223, s224) =>
                    ((
                      if (r218 + x214) < (-20 : Int32) then
                        some (0 : Int32)
                      else
                        if (40 : Int32) < (r218 + x214) then
                          some (0 : Int32)
                        else
                          if (r222 + x217) < (-20 : Int32) then
                            some (0 : Int32)
                          else
                            if (40 : Int32) < (r222 + x217) then
                              some (0 : Int32)
                            else
                              some (1 : Int32) : Option (Int32))).bind fun x226 =>
                    (f_X7_shift s36 s42 s43 s44 s45 s46 s47 x59 x214 x217).bind fun (r227, s228, s229, s230, s231, s232, s233, s234) =>
                    ((
                      if x226 = 0 then
                        some (-102 : Int32)
                      else
                        ((
                          if 0 ≤ x214 then
                            some x214
                          else
                            some (-x214) : Option (Int32))).bind fun x237 =>
                        if 0 ≤ x217 then
                          some (x237 + x217)
                        else
                          some (x237 + (-x217)) : Option (Int32))).bind fun x236 =>
                    if r227 = x236 then
                      if x226 = 0 then
                        some (.inr (s228, s223, s224, s39, s40, s41, s229, s230, s231, s232, s233, s234, s48))
                      else
                        (f_X7_piece s228 s223 s224 x59 (0 : Int32)).bind fun (r238, s239, s240) =>
                        if r238 = (r218 + x214) then
                          (f_X7_piece s228 s239 s240 x59 (1 : Int32)).bind fun (r242, s243, s244) =>
                          if r242 = (r222 + x217) then
                            some (.inr (s228, s243, s244, s39, s40, s41, s229, s230, s231, s232, s233, s234, s48))
                          else
                            some (.inl ((0 : Int32), s228, s243, s244, s39, s40, s41, s229, s230, s231, s232, s233, s234, s48))
                        else
                          some (.inl ((0 : Int32), s228, s239, s240, s39, s40, s41, s229, s230, s231, s232, s233, s234, s48))
                    else
                      some (.inl ((0 : Int32), s228, s223, s224, s39, s40, s41, s229, s230, s231, s232, s233, s234, s48))
      else
        if (7 : Int32) ≤ r53 then
          if x56 = (2 : Int32) then
            (f_L_low r51 (12 : Int32)).bind fun r246 =>
            x_nm ((4 : Int32) + r246) fun x248 =>
            (f_L_low (r51 >>> ((5 : Int32) &&& 31)) (12 : Int32)).bind fun r249 =>
            (f_X7_setPage s36 s54 s42 s43 s44 s45 s46 s47 x248 ((4 : Int32) + r249)).bind fun (r251, s252, s253, s254, s255, s256, s257, s258, s259) =>
            (f_X7_count s252 s253 s254 s48 (3 : Int32)).bind fun (r261, s262) =>
            if r251 = r261 then
              (f_X7_count s252 s262 s254 s48 (1 : Int32)).bind fun (r264, s265) =>
              if r264 = x248 then
                (f_X7_count s252 s265 s254 s48 (0 : Int32)).bind fun (r267, s268) =>
                if r267 = r53 then
                  some (.inr (s252, s268, s38, s39, s40, s41, s254, s255, s256, s257, s258, s259, s48))
                else
                  some (.inl ((0 : Int32), s252, s268, s38, s39, s40, s41, s254, s255, s256, s257, s258, s259, s48))
              else
                some (.inl ((0 : Int32), s252, s265, s38, s39, s40, s41, s254, s255, s256, s257, s258, s259, s48))
            else
              some (.inl ((0 : Int32), s252, s262, s38, s39, s40, s41, s254, s255, s256, s257, s258, s259, s48))
          else
            if r53 = 0 then
              (f_L_refuses s36 s54 s38 s39 s40 s41 s42 s43 s44 s45 s46 s47 s48).bind fun (r270, s271, s272, s273, s274, s275, s276, s277, s278, s279, s280, s281, s282, s283) =>
              if r270 = 0 then
                some (.inl ((0 : Int32), s271, s272, s273, s274, s275, s276, s277, s278, s279, s280, s281, s282, s283))
              else
                some (.inr (s271, s272, s273, s274, s275, s276, s277, s278, s279, s280, s281, s282, s283))
            else
              if x56 = (3 : Int32) then
                x_nm ((r53 - (1 : Int32)) - x59) fun x285 =>
                (g_L_law_397' x285 x59 s36 s54 s38).bind fun (x286, s287, s288) =>
                (f_X7_removePiece s36 s42 s43 s44 s45 s46 s47 x59).bind fun (r293, s294, s295, s296, s297, s298, s299, s300) =>
                if r293 = (r53 - (1 : Int32)) then
                  (g_L_law_429' x286 x59 x285 s294 s287 s288 s39 s40 s41 s295 s296 s297 s298 s299 s300 s48).bind fun z_ => Sum.elim (fun r_ => some (.inl r_)) (fun (s302, s303) =>
                  (f_L_low r51 (2 : Int32)).bind fun r308 =>
                  if r308 = 0 then
                    (f_X7_undo s294 s295 s296 s297 s298 s299 s300).bind fun (r310, s311, s312) =>
                    if r310 < 0 then
                      some (.inl ((0 : Int32), s311, s302, s303, s39, s40, s41, s312, s296, s297, s298, s299, s300, s48))
                    else
                      (f_X7_count s311 s302 s312 s48 (0 : Int32)).bind fun (r314, s315) =>
                      if r314 = r53 then
                        some (.inr (s311, s315, s303, s39, s40, s41, s312, s296, s297, s298, s299, s300, s48))
                      else
                        some (.inl ((0 : Int32), s311, s315, s303, s39, s40, s41, s312, s296, s297, s298, s299, s300, s48))
                  else
                    some (.inr (s294, s302, s303, s39, s40, s41, s295, s296, s297, s298, s299, s300, s48))) z_
                else
                  some (.inl ((0 : Int32), s294, s287, s288, s39, s40, s41, s295, s296, s297, s298, s299, s300, s48))
              else
                if x56 = (4 : Int32) then
                  (f_X7_piece s36 s54 s38 x59 (4 : Int32)).bind fun (r317, s318, s319) =>
                  (f_L_low r51 (101 : Int32)).bind fun r321 =>
                  (f_X7_setShare s36 s42 s43 s44 s45 s46 s47 x59 r321).bind fun (r323, s324, s325, s326, s327, s328, s329, s330) =>
                  if r323 = r317 then
                    (f_X7_piece s324 s318 s319 x59 (4 : Int32)).bind fun (r332, s333, s334) =>
                    (f_L_low r51 (101 : Int32)).bind fun r336 =>
                    if r332 = r336 then
                      some (.inr (s324, s333, s334, s39, s40, s41, s325, s326, s327, s328, s329, s330, s48))
                    else
                      some (.inl ((0 : Int32), s324, s333, s334, s39, s40, s41, s325, s326, s327, s328, s329, s330, s48))
                  else
                    some (.inl ((0 : Int32), s324, s318, s319, s39, s40, s41, s325, s326, s327, s328, s329, s330, s48))
                else
                  if x56 = (5 : Int32) then
                    (f_X7_piece s36 s54 s38 x59 (5 : Int32)).bind fun (r338, s339, s340) =>
                    (f_L_low r51 (4 : Int32)).bind fun r342 =>
                    (f_X7_setFrame s36 s42 s43 s44 s45 s46 s47 x59 r342).bind fun (r344, s345, s346, s347, s348, s349, s350, s351) =>
                    if r344 = r338 then
                      (f_X7_piece s345 s339 s340 x59 (5 : Int32)).bind fun (r353, s354, s355) =>
                      (f_L_low r51 (4 : Int32)).bind fun r357 =>
                      if r353 = r357 then
                        some (.inr (s345, s354, s355, s39, s40, s41, s346, s347, s348, s349, s350, s351, s48))
                      else
                        some (.inl ((0 : Int32), s345, s354, s355, s39, s40, s41, s346, s347, s348, s349, s350, s351, s48))
                    else
                      some (.inl ((0 : Int32), s345, s339, s340, s39, s40, s41, s346, s347, s348, s349, s350, s351, s48))
                  else
                    if (8 : Int32) ≤ x56 then
                      (f_X7_piece s36 s54 s38 x59 (6 : Int32)).bind fun (r359, s360, s361) =>
                      (f_L_low r51 r53).bind fun r363 =>
                      (f_X7_inLayer s36 r363).bind fun r365 =>
                      (f_X7_setLayer s36 s42 s43 s44 s45 s46 s47 x59 r363).bind fun (r367, s368, s369, s370, s371, s372, s373, s374) =>
                      if r367 = r359 then
                        (f_X7_inLayer s368 r363).bind fun r376 =>
                        if r376 = x59 then
                          if r365 = x59 then
                            some (.inr (s368, s360, s361, s39, s40, s41, s369, s370, s371, s372, s373, s374, s48))
                          else
                            (f_X7_piece s368 s360 s361 r365 (6 : Int32)).bind fun (r378, s379, s380) =>
                            ((
                              if r363 ≤ r359 then
                                some (r363 + (1 : Int32))
                              else
                                some (r363 - (1 : Int32)) : Option (Int32))).bind fun x382 =>
                            if r378 = x382 then
                              some (.inr (s368, s379, s380, s39, s40, s41, s369, s370, s371, s372, s373, s374, s48))
                            else
                              some (.inl ((0 : Int32), s368, s379, s380, s39, s40, s41, s369, s370, s371, s372, s373, s374, s48))
                        else
                          some (.inl ((0 : Int32), s368, s360, s361, s39, s40, s41, s369, s370, s371, s372, s373, s374, s48))
                      else
                        some (.inl ((0 : Int32), s368, s360, s361, s39, s40, s41, s369, s370, s371, s372, s373, s374, s48))
                    else
                      (f_L_low r51 (9 : Int32)).bind fun r383 =>
                      x_nm (r383 - (4 : Int32)) fun x385 =>
                      (f_L_low (r51 >>> ((4 : Int32) &&& 31)) (9 : Int32)).bind fun r386 =>
                      x_nm (r386 - (4 : Int32)) fun x388 =>
                      (f_X7_piece s36 s54 s38 x59 (0 : Int32)).bind fun (r389, s390, s391) =>
                      (f_X7_piece s36 s390 s391 x59 (1 : Int32)).bind fun (r393, s394, s395) =>
                      ((
                        if (r389 + x385) < (-20 : Int32) then
                          some (0 : Int32)
                        else
                          if (40 : Int32) < (r389 + x385) then
                            some (0 : Int32)
                          else
                            if (r393 + x388) < (-20 : Int32) then
                              some (0 : Int32)
                            else
                              if (40 : Int32) < (r393 + x388) then
                                some (0 : Int32)
                              else
                                some (1 : Int32) : Option (Int32))).bind fun x397 =>
                      (f_X7_shift s36 s42 s43 s44 s45 s46 s47 x59 x385 x388).bind fun (r398, s399, s400, s401, s402, s403, s404, s405) =>
                      ((
                        if x397 = 0 then
                          some (-102 : Int32)
                        else
                          ((
                            if 0 ≤ x385 then
                              some x385
                            else
                              some (-x385) : Option (Int32))).bind fun x408 =>
                          if 0 ≤ x388 then
                            some (x408 + x388)
                          else
                            some (x408 + (-x388)) : Option (Int32))).bind fun x407 =>
                      if r398 = x407 then
                        if x397 = 0 then
                          some (.inr (s399, s394, s395, s39, s40, s41, s400, s401, s402, s403, s404, s405, s48))
                        else
                          (f_X7_piece s399 s394 s395 x59 (0 : Int32)).bind fun (r409, s410, s411) =>
                          if r409 = (r389 + x385) then
                            (f_X7_piece s399 s410 s411 x59 (1 : Int32)).bind fun (r413, s414, s415) =>
                            if r413 = (r393 + x388) then
                              some (.inr (s399, s414, s415, s39, s40, s41, s400, s401, s402, s403, s404, s405, s48))
                            else
                              some (.inl ((0 : Int32), s399, s414, s415, s39, s40, s41, s400, s401, s402, s403, s404, s405, s48))
                          else
                            some (.inl ((0 : Int32), s399, s410, s411, s39, s40, s41, s400, s401, s402, s403, s404, s405, s48))
                      else
                        some (.inl ((0 : Int32), s399, s394, s395, s39, s40, s41, s400, s401, s402, s403, s404, s405, s48))
        else
          (f_L_low r51 (14 : Int32)).bind fun r417 =>
          x_nm (r417 - (3 : Int32)) fun x419 =>
          (f_L_low (r51 >>> ((4 : Int32) &&& 31)) (11 : Int32)).bind fun r420 =>
          x_nm (r420 - (3 : Int32)) fun x422 =>
          (f_L_low (r51 >>> ((8 : Int32) &&& 31)) (6 : Int32)).bind fun r423 =>
          x_nm ((1 : Int32) + r423) fun x425 =>
          (f_L_low (r51 >>> ((12 : Int32) &&& 31)) (6 : Int32)).bind fun r426 =>
          x_nm ((1 : Int32) + r426) fun x428 =>
          (f_L_low (r51 >>> ((16 : Int32) &&& 31)) (101 : Int32)).bind fun r429 =>
          (f_X7_addPiece s36 s42 s43 s44 s45 s46 s47 x419 x422 x425 x428 r429).bind fun (r431, s432, s433, s434, s435, s436, s437, s438) =>
          if r431 = r53 then
            (f_X7_piece s432 s54 s38 r53 (6 : Int32)).bind fun (r440, s441, s442) =>
            if r440 = r53 then
              (f_X7_piece s432 s441 s442 r53 (0 : Int32)).bind fun (r444, s445, s446) =>
              if r444 = x419 then
                (f_X7_piece s432 s445 s446 r53 (4 : Int32)).bind fun (r448, s449, s450) =>
                if r448 = r429 then
                  (f_X7_piece s432 s449 s450 r53 (5 : Int32)).bind fun (r452, s453, s454) =>
                  if r452 = 0 then
                    some (.inr (s432, s453, s454, s39, s40, s41, s433, s434, s435, s436, s437, s438, s48))
                  else
                    some (.inl ((0 : Int32), s432, s453, s454, s39, s40, s41, s433, s434, s435, s436, s437, s438, s48))
                else
                  some (.inl ((0 : Int32), s432, s449, s450, s39, s40, s41, s433, s434, s435, s436, s437, s438, s48))
              else
                some (.inl ((0 : Int32), s432, s445, s446, s39, s40, s41, s433, s434, s435, s436, s437, s438, s48))
            else
              some (.inl ((0 : Int32), s432, s441, s442, s39, s40, s41, s433, s434, s435, s436, s437, s438, s48))
          else
            some (.inl ((0 : Int32), s432, s54, s38, s39, s40, s41, s433, s434, s435, s436, s437, s438, s48))
def g_L_law_875 (v460 : Int32) (s62 : LyS) (s457 : SiS) (s458 : PaS) (s65 : PlS) (s66 : LyS) (s67 : SiS) (s68 : HiS) (s69 : LyS) (s70 : LyS) (s71 : LyS) (s72 : LyS) (s73 : LyS) (s74 : TxS) : Option (Int32 × LyS × SiS × PaS × PlS × LyS × SiS × HiS × LyS × LyS × LyS × LyS × LyS × TxS ⊕ (SiS × PaS)) :=
        if v460 = (3 : Int32) then
          (f_L_cells s62 s457 s458 s68 s74).bind fun (r463, s464, s465) =>
          if r463 = 0 then
            some (.inl ((0 : Int32), s62, s464, s465, s65, s66, s67, s68, s69, s70, s71, s72, s73, s74))
          else
            (f_L_shares s62 s464 s465 s68 s74).bind fun (r467, s468, s469) =>
            if r467 = 0 then
              some (.inl ((0 : Int32), s62, s468, s469, s65, s66, s67, s68, s69, s70, s71, s72, s73, s74))
            else
              some (.inr (s468, s469))
        else
          some (.inr (s457, s458))
def g_L_law_912 (r51 : Int32) (v471 : Int32) (s62 : LyS) (s461 : SiS) (s462 : PaS) (s65 : PlS) (s66 : LyS) (s67 : SiS) (s68 : HiS) (s69 : LyS) (s70 : LyS) (s71 : LyS) (s72 : LyS) (s73 : LyS) (s74 : TxS) : Option (Int32 × LyS × SiS × PaS × PlS × LyS × SiS × HiS × LyS × LyS × LyS × LyS × LyS × TxS ⊕ (LyS × SiS × PaS × PlS × LyS × SiS × HiS × LyS × LyS × LyS × LyS × LyS)) :=
        if v471 = (6 : Int32) then
          (f_X7_count s62 s461 s68 s74 (0 : Int32)).bind fun (r484, s485) =>
          if r484 ≤ 0 then
            some (.inr (s62, s485, s462, s65, s66, s67, s68, s69, s70, s71, s72, s73))
          else
            (f_X7_count s62 s485 s68 s74 (0 : Int32)).bind fun (r487, s488) =>
            (f_L_low (r51 >>> ((9 : Int32) &&& 31)) r487).bind fun r490 =>
            (f_L_plans s62 s488 s462 s65 s66 s67 s68 s69 s70 s71 s72 s73 s74 r490).bind fun (r492, s493, s494, s495, s496, s497, s498, s499, s500, s501, s502, s503, s504) =>
            if r492 = 0 then
              some (.inl ((0 : Int32), s493, s494, s495, s496, s497, s498, s499, s500, s501, s502, s503, s504, s74))
            else
              some (.inr (s493, s494, s495, s496, s497, s498, s499, s500, s501, s502, s503, s504))
        else
          some (.inr (s62, s461, s462, s65, s66, s67, s68, s69, s70, s71, s72, s73))
def b_L_law_63 (X : xCtx) : Int32 × LyS × SiS × PaS × PlS × LyS × SiS × HiS × LyS × LyS × LyS × LyS × LyS × TxS → Option ((Int32 × LyS × SiS × PaS × PlS × LyS × SiS × HiS × LyS × LyS × LyS × LyS × LyS × TxS) ⊕ (Int32 × LyS × SiS × PaS × PlS × LyS × SiS × HiS × LyS × LyS × LyS × LyS × LyS × TxS ⊕ (Int32 × LyS × SiS × PaS × PlS × LyS × SiS × HiS × LyS × LyS × LyS × LyS × LyS × TxS)))
  | (x35, s36, s37, s38, s39, s40, s41, s42, s43, s44, s45, s46, s47, s48) =>
  if (30 : Int32) ≤ x35 then
    some (.inr (.inr (x35, s36, s37, s38, s39, s40, s41, s42, s43, s44, s45, s46, s47, s48)))
  else
    (f_L_lot X ((2 : Int32) * x35)).bind fun r49 =>
    (f_L_lot X (((2 : Int32) * x35) + (1 : Int32))).bind fun r51 =>
    (f_X7_count s36 s37 s42 s48 (0 : Int32)).bind fun (r53, s54) =>
    (g_L_law_110 r49 x35).bind fun x56 =>
    (g_L_law_129 r49 r53).bind fun x59 =>
    (g_L_law_847 x59 r51 r53 x56 s36 s54 s38 s39 s40 s41 s42 s43 s44 s45 s46 s47 s48).bind fun z_ => Sum.elim (fun r_ => some (.inr (.inl r_))) (fun (s62, s63, s64, s65, s66, s67, s68, s69, s70, s71, s72, s73, s74) =>
    (f_L_sound s62 s63 s64 s68 s74).bind fun (r456, s457, s458) =>
    if r456 = 0 then
      some (.inr (.inl ((0 : Int32), s62, s457, s458, s65, s66, s67, s68, s69, s70, s71, s72, s73, s74)))
    else
      (x_rem x35 (4 : Int32)).bind fun v460 =>
      (g_L_law_875 v460 s62 s457 s458 s65 s66 s67 s68 s69 s70 s71 s72 s73 s74).bind fun z_ => Sum.elim (fun r_ => some (.inr (.inl r_))) (fun (s461, s462) =>
      (x_rem x35 (7 : Int32)).bind fun v471 =>
      (g_L_law_912 r51 v471 s62 s461 s462 s65 s66 s67 s68 s69 s70 s71 s72 s73 s74).bind fun z_ => Sum.elim (fun r_ => some (.inr (.inl r_))) (fun (s472, s473, s474, s475, s476, s477, s478, s479, s480, s481, s482, s483) =>
      (x_rem x35 (15 : Int32)).bind fun v506 =>
      if v506 = (14 : Int32) then
        (f_L_arranges s472 s473 s474 s475 s476 s477 s478 s479 s480 s481 s482 s483 s74).bind fun (r507, s508, s509, s510, s511, s512, s513, s514, s515, s516, s517, s518, s519) =>
        if r507 = 0 then
          some (.inr (.inl ((0 : Int32), s508, s509, s510, s511, s512, s513, s514, s515, s516, s517, s518, s519, s74)))
        else
          some (.inl ((x35 + (1 : Int32)), s508, s509, s510, s511, s512, s513, s514, s515, s516, s517, s518, s519, s74))
      else
        some (.inl ((x35 + (1 : Int32)), s472, s473, s474, s475, s476, s477, s478, s479, s480, s481, s482, s483, s74))) z_) z_) z_
def f_L_law (X : xCtx) (unow : LyS) (usi : SiS) (upa : PaS) (upl : PlS) (utr : LyS) (ups : SiS) (uhi : HiS) (uh0 : LyS) (uh1 : LyS) (uh2 : LyS) (uh3 : LyS) (uh4 : LyS) (utx : TxS) : Option (Int32 × LyS × SiS × PaS × PlS × LyS × SiS × HiS × LyS × LyS × LyS × LyS × LyS × TxS) :=
  (f_L_refuses unow usi upa upl utr ups uhi uh0 uh1 uh2 uh3 uh4 utx).bind fun (r1, s2, s3, s4, s5, s6, s7, s8, s9, s10, s11, s12, s13, s14) =>
  if r1 = 0 then
    some ((0 : Int32), s2, s3, s4, s5, s6, s7, s8, s9, s10, s11, s12, s13, s14)
  else
    (f_X7_undo s2 s8 s9 s10 s11 s12 s13).bind fun (r16, s17, s18) =>
    if r16 = (-102 : Int32) then
      (f_L_sound s17 s3 s4 s18 s14).bind fun (r20, s21, s22) =>
      if r20 = 0 then
        some ((0 : Int32), s17, s21, s22, s5, s6, s7, s18, s9, s10, s11, s12, s13, s14)
      else
        (f_L_cells s17 s21 s22 s18 s14).bind fun (r24, s25, s26) =>
        if r24 = 0 then
          some ((0 : Int32), s17, s25, s26, s5, s6, s7, s18, s9, s10, s11, s12, s13, s14)
        else
          (f_X7_worst s17 s6 s7).bind fun (r28, s29, s30) =>
          if r28 = (-109 : Int32) then
            (f_X7_count s17 s25 s18 s14 (6 : Int32)).bind fun (r32, s33) =>
            if r32 = (192 : Int32) then
              (x_loop (b_L_law_63 X) x_fuel ((0 : Int32), s17, s33, s26, s5, s29, s30, s18, s9, s10, s11, s12, s13, s14)).bind fun z_ => Sum.elim (fun r_ => some r_) (fun (x521, s522, s523, s524, s525, s526, s527, s528, s529, s530, s531, s532, s533, s534) =>
              (f_L_refuses s522 s523 s524 s525 s526 s527 s528 s529 s530 s531 s532 s533 s534).bind fun (r535, s536, s537, s538, s539, s540, s541, s542, s543, s544, s545, s546, s547, s548) =>
              (x_zr r535).bind fun w550 =>
              some (r535, s536, s537, s538, s539, s540, s541, s542, s543, s544, s545, s546, s547, s548)) z_
            else
              some ((0 : Int32), s17, s33, s26, s5, s29, s30, s18, s9, s10, s11, s12, s13, s14)
          else
            some ((0 : Int32), s17, s25, s26, s5, s29, s30, s18, s9, s10, s11, s12, s13, s14)
    else
      some ((0 : Int32), s17, s3, s4, s5, s6, s7, s18, s9, s10, s11, s12, s13, s14)
