set_option maxHeartbeats 4000000 in
set_option maxRecDepth 100000 in
theorem c_L_cells (l : Launch) (D : va_G) (aI aZ aL : ClassId) (X : xCtx) (q : Nat → Nat) (sz : Nat) (unow : LyS) (udraft : LyS) (usi : SiS) (upa : PaS) (upl : PlS) (utr : LyS) (ups : SiS) (uhi : HiS) (uh0 : LyS) (uh1 : LyS) (uh2 : LyS) (uh3 : LyS) (uh4 : LyS) (utx : TxS) (urd : RdS) (R : Int32 × SiS × PaS) (hf : f_L_cells unow usi upa uhi utx = some R) : Met l yL_cells wsL_cells (xRm 6 147) (xPc D (xTy aI aZ aL) (xX X) (wC (q 0) (q 1) (q 4) (q 7) (q 11) (q 14) (q 22) (q 39) (q 41) ++ (wL aI (q 1) (q 2) (q 3) unow ++ (wL aI (q 4) (q 5) (q 6) udraft ++ (wS aI (q 7) (q 1) (q 8) (q 9) (q 10) usi ++ (wPa aI (q 11) (q 7) (q 12) (q 13) upa ++ (wPl (q 14) (q 1) (q 15) (q 18) upl ++ (wL aI (q 15) (q 16) (q 17) utr ++ (wS aI (q 18) (q 15) (q 19) (q 20) (q 21) ups ++ (wHi aL (q 22) (q 23) (q 24) (q 27) (q 30) (q 33) (q 36) uhi ++ (wL aI (q 24) (q 25) (q 26) uh0 ++ (wL aI (q 27) (q 28) (q 29) uh1 ++ (wL aI (q 30) (q 31) (q 32) uh2 ++ (wL aI (q 33) (q 34) (q 35) uh3 ++ (wL aI (q 36) (q 37) (q 38) uh4 ++ (wTx aI (q 39) (q 40) utx ++ (wRd (q 41) (q 39) urd)))))))))))))))) sz [.ref (q 0)]) (xQi D (wC (q 0) (q 1) (q 4) (q 7) (q 11) (q 14) (q 22) (q 39) (q 41) ++ (wL aI (q 1) (q 2) (q 3) unow ++ (wL aI (q 4) (q 5) (q 6) udraft ++ (wS aI (q 7) (q 1) (q 8) (q 9) (q 10) R.2.1 ++ (wPa aI (q 11) (q 7) (q 12) (q 13) R.2.2 ++ (wPl (q 14) (q 1) (q 15) (q 18) upl ++ (wL aI (q 15) (q 16) (q 17) utr ++ (wS aI (q 18) (q 15) (q 19) (q 20) (q 21) ups ++ (wHi aL (q 22) (q 23) (q 24) (q 27) (q 30) (q 33) (q 36) uhi ++ (wL aI (q 24) (q 25) (q 26) uh0 ++ (wL aI (q 27) (q 28) (q 29) uh1 ++ (wL aI (q 30) (q 31) (q 32) uh2 ++ (wL aI (q 33) (q 34) (q 35) uh3 ++ (wL aI (q 36) (q 37) (q 38) uh4 ++ (wTx aI (q 39) (q 40) utx ++ (wRd (q 41) (q 39) urd)))))))))))))))) R.1 (va_A (wC (q 0) (q 1) (q 4) (q 7) (q 11) (q 14) (q 22) (q 39) (q 41) ++ (wL aI (q 1) (q 2) (q 3) unow ++ (wL aI (q 4) (q 5) (q 6) udraft ++ (wS aI (q 7) (q 1) (q 8) (q 9) (q 10) usi ++ (wPa aI (q 11) (q 7) (q 12) (q 13) upa ++ (wPl (q 14) (q 1) (q 15) (q 18) upl ++ (wL aI (q 15) (q 16) (q 17) utr ++ (wS aI (q 18) (q 15) (q 19) (q 20) (q 21) ups ++ (wHi aL (q 22) (q 23) (q 24) (q 27) (q 30) (q 33) (q 36) uhi ++ (wL aI (q 24) (q 25) (q 26) uh0 ++ (wL aI (q 27) (q 28) (q 29) uh1 ++ (wL aI (q 30) (q 31) (q 32) uh2 ++ (wL aI (q 33) (q 34) (q 35) uh3 ++ (wL aI (q 36) (q 37) (q 38) uh4 ++ (wTx aI (q 39) (q 40) utx ++ (wRd (q 41) (q 39) urd)))))))))))))))) sz)) 0 0 (va_A (wC (q 0) (q 1) (q 4) (q 7) (q 11) (q 14) (q 22) (q 39) (q 41) ++ (wL aI (q 1) (q 2) (q 3) unow ++ (wL aI (q 4) (q 5) (q 6) udraft ++ (wS aI (q 7) (q 1) (q 8) (q 9) (q 10) usi ++ (wPa aI (q 11) (q 7) (q 12) (q 13) upa ++ (wPl (q 14) (q 1) (q 15) (q 18) upl ++ (wL aI (q 15) (q 16) (q 17) utr ++ (wS aI (q 18) (q 15) (q 19) (q 20) (q 21) ups ++ (wHi aL (q 22) (q 23) (q 24) (q 27) (q 30) (q 33) (q 36) uhi ++ (wL aI (q 24) (q 25) (q 26) uh0 ++ (wL aI (q 27) (q 28) (q 29) uh1 ++ (wL aI (q 30) (q 31) (q 32) uh2 ++ (wL aI (q 33) (q 34) (q 35) uh3 ++ (wL aI (q 36) (q 37) (q 38) uh4 ++ (wTx aI (q 39) (q 40) utx ++ (wRd (q 41) (q 39) urd)))))))))))))))) sz) := by
  refine x_met (cc := cL_cells) (maxL := 9) (ret := (some .boolean)) (Qc := xQi D (wC (q 0) (q 1) (q 4) (q 7) (q 11) (q 14) (q 22) (q 39) (q 41) ++ (wL aI (q 1) (q 2) (q 3) unow ++ (wL aI (q 4) (q 5) (q 6) udraft ++ (wS aI (q 7) (q 1) (q 8) (q 9) (q 10) R.2.1 ++ (wPa aI (q 11) (q 7) (q 12) (q 13) R.2.2 ++ (wPl (q 14) (q 1) (q 15) (q 18) upl ++ (wL aI (q 15) (q 16) (q 17) utr ++ (wS aI (q 18) (q 15) (q 19) (q 20) (q 21) ups ++ (wHi aL (q 22) (q 23) (q 24) (q 27) (q 30) (q 33) (q 36) uhi ++ (wL aI (q 24) (q 25) (q 26) uh0 ++ (wL aI (q 27) (q 28) (q 29) uh1 ++ (wL aI (q 30) (q 31) (q 32) uh2 ++ (wL aI (q 33) (q 34) (q 35) uh3 ++ (wL aI (q 36) (q 37) (q 38) uh4 ++ (wTx aI (q 39) (q 40) utx ++ (wRd (q 41) (q 39) urd)))))))))))))))) R.1) (by decide) rfl (Nat.le_of_ble_eq_true rfl) ?_
  intro p e sg m below meth c A ls hx hb hr hml hts hown hlocks hP hK hX hD hA hS hl
  have hown : sg.vm.findClass RL = some m.cls := hown
  have hl : lv_has ls 9 [(0, .ref (q 0))] := hl
  obtain ⟨G, hG⟩ : ∃ G : Heap → List Loc → JFrame → Prop, ∀ (H : Heap) (locs : List Loc) (g : JFrame), G H locs g ↔ W p l e (xRm 6 147) sg m (List.toArray [.ref (q 0)]) below meth c H locs 0 0 (MQ below (xQi D (wC (q 0) (q 1) (q 4) (q 7) (q 11) (q 14) (q 22) (q 39) (q 41) ++ (wL aI (q 1) (q 2) (q 3) unow ++ (wL aI (q 4) (q 5) (q 6) udraft ++ (wS aI (q 7) (q 1) (q 8) (q 9) (q 10) R.2.1 ++ (wPa aI (q 11) (q 7) (q 12) (q 13) R.2.2 ++ (wPl (q 14) (q 1) (q 15) (q 18) upl ++ (wL aI (q 15) (q 16) (q 17) utr ++ (wS aI (q 18) (q 15) (q 19) (q 20) (q 21) ups ++ (wHi aL (q 22) (q 23) (q 24) (q 27) (q 30) (q 33) (q 36) uhi ++ (wL aI (q 24) (q 25) (q 26) uh0 ++ (wL aI (q 27) (q 28) (q 29) uh1 ++ (wL aI (q 30) (q 31) (q 32) uh2 ++ (wL aI (q 33) (q 34) (q 35) uh3 ++ (wL aI (q 36) (q 37) (q 38) uh4 ++ (wTx aI (q 39) (q 40) utx ++ (wRd (q 41) (q 39) urd)))))))))))))))) R.1 A) (List.toArray [.ref (q 0)]) sg 0 0 A) g := ⟨fun H locs g => W p l e (xRm 6 147) sg m (List.toArray [.ref (q 0)]) below meth c H locs 0 0 (MQ below (xQi D (wC (q 0) (q 1) (q 4) (q 7) (q 11) (q 14) (q 22) (q 39) (q 41) ++ (wL aI (q 1) (q 2) (q 3) unow ++ (wL aI (q 4) (q 5) (q 6) udraft ++ (wS aI (q 7) (q 1) (q 8) (q 9) (q 10) R.2.1 ++ (wPa aI (q 11) (q 7) (q 12) (q 13) R.2.2 ++ (wPl (q 14) (q 1) (q 15) (q 18) upl ++ (wL aI (q 15) (q 16) (q 17) utr ++ (wS aI (q 18) (q 15) (q 19) (q 20) (q 21) ups ++ (wHi aL (q 22) (q 23) (q 24) (q 27) (q 30) (q 33) (q 36) uhi ++ (wL aI (q 24) (q 25) (q 26) uh0 ++ (wL aI (q 27) (q 28) (q 29) uh1 ++ (wL aI (q 30) (q 31) (q 32) uh2 ++ (wL aI (q 33) (q 34) (q 35) uh3 ++ (wL aI (q 36) (q 37) (q 38) uh4 ++ (wTx aI (q 39) (q 40) utx ++ (wRd (q 41) (q 39) urd)))))))))))))))) R.1 A) (List.toArray [.ref (q 0)]) sg 0 0 A) g, fun _ _ _ => Iff.rfl⟩
  unfold f_L_cells at hf
  refine lv_aload_n hx hb dL_cells_0 rfl (lv_at hl 0 rfl) ?_
  refine lv_iconst (v := (1 : Int32)) hx hb dL_cells_1 (by decide) ?_
  obtain ⟨zh3, h3, hf⟩ := x_bind hf
  obtain ⟨r1, s2⟩ := zh3
  try dsimp only at hf
  refine x_goIA (ws' := (wC (q 0) (q 1) (q 4) (q 7) (q 11) (q 14) (q 22) (q 39) (q 41) ++ (wL aI (q 1) (q 2) (q 3) unow ++ (wL aI (q 4) (q 5) (q 6) udraft ++ (wS aI (q 7) (q 1) (q 8) (q 9) (q 10) s2 ++ (wPa aI (q 11) (q 7) (q 12) (q 13) upa ++ (wPl (q 14) (q 1) (q 15) (q 18) upl ++ (wL aI (q 15) (q 16) (q 17) utr ++ (wS aI (q 18) (q 15) (q 19) (q 20) (q 21) ups ++ (wHi aL (q 22) (q 23) (q 24) (q 27) (q 30) (q 33) (q 36) uhi ++ (wL aI (q 24) (q 25) (q 26) uh0 ++ (wL aI (q 27) (q 28) (q 29) uh1 ++ (wL aI (q 30) (q 31) (q 32) uh2 ++ (wL aI (q 33) (q 34) (q 35) uh3 ++ (wL aI (q 36) (q 37) (q 38) uh4 ++ (wTx aI (q 39) (q 40) utx ++ (wRd (q 41) (q 39) urd))))))))))))))))) (va_runV (As := [.int (1 : Int32)]) (rest := []) ⟨hx, hb, hml, hown, hts⟩ (c_X7_count l D aI aZ aL X q _ unow udraft usi upa upl utr ups uhi uh0 uh1 uh2 uh3 uh4 utx urd (1 : Int32) (r1, s2) h3) (cwV 1 hts gL_cells_X7_count rfl rfl rfl (by decide +kernel) ⟨Nat.le_of_ble_eq_true rfl, Nat.le_of_ble_eq_true rfl⟩) (x_preVA (x_stabX X) hK hX hP hD hS hA (q0 := 0) (ci := 7) rfl rfl rfl) rfl rfl hl.1 rfl (lv_room (Nat.le_of_ble_eq_true rfl)) dL_cells_2 ⟨Nat.le_refl 0, Nat.le_refl 0⟩) hP hD hS hA (fun H locs hP hD hS => ?_)
  refine lv_istore_n (lv' := [(1, .int r1), (0, .ref (q 0))]) hx hb dL_cells_5 rfl hl (by decide) rfl (fun ls hl => ?_)
  refine lv_aload_n hx hb dL_cells_6 rfl (lv_at hl 1 rfl) ?_
  refine lv_iconst (v := (2 : Int32)) hx hb dL_cells_7 (by decide) ?_
  obtain ⟨zh6, h6, hf⟩ := x_bind hf
  obtain ⟨r4, s5⟩ := zh6
  try dsimp only at hf
  refine x_goIA (ws' := (wC (q 0) (q 1) (q 4) (q 7) (q 11) (q 14) (q 22) (q 39) (q 41) ++ (wL aI (q 1) (q 2) (q 3) unow ++ (wL aI (q 4) (q 5) (q 6) udraft ++ (wS aI (q 7) (q 1) (q 8) (q 9) (q 10) s5 ++ (wPa aI (q 11) (q 7) (q 12) (q 13) upa ++ (wPl (q 14) (q 1) (q 15) (q 18) upl ++ (wL aI (q 15) (q 16) (q 17) utr ++ (wS aI (q 18) (q 15) (q 19) (q 20) (q 21) ups ++ (wHi aL (q 22) (q 23) (q 24) (q 27) (q 30) (q 33) (q 36) uhi ++ (wL aI (q 24) (q 25) (q 26) uh0 ++ (wL aI (q 27) (q 28) (q 29) uh1 ++ (wL aI (q 30) (q 31) (q 32) uh2 ++ (wL aI (q 33) (q 34) (q 35) uh3 ++ (wL aI (q 36) (q 37) (q 38) uh4 ++ (wTx aI (q 39) (q 40) utx ++ (wRd (q 41) (q 39) urd))))))))))))))))) (va_runV (As := [.int (2 : Int32)]) (rest := []) ⟨hx, hb, hml, hown, hts⟩ (c_X7_count l D aI aZ aL X q _ unow udraft s2 upa upl utr ups uhi uh0 uh1 uh2 uh3 uh4 utx urd (2 : Int32) (r4, s5) h6) (cwV 1 hts gL_cells_X7_count rfl rfl rfl (by decide +kernel) ⟨Nat.le_of_ble_eq_true rfl, Nat.le_of_ble_eq_true rfl⟩) (x_preVA (x_stabX X) hK hX hP hD hS hA (q0 := 0) (ci := 7) rfl rfl rfl) rfl rfl hl.1 rfl (lv_room (Nat.le_of_ble_eq_true rfl)) dL_cells_8 ⟨Nat.le_refl 0, Nat.le_refl 0⟩) hP hD hS hA (fun H locs hP hD hS => ?_)
  refine lv_istore_n (lv' := [(2, .int r4), (1, .int r1), (0, .ref (q 0))]) hx hb dL_cells_11 rfl hl (by decide) rfl (fun ls hl => ?_)
  refine lv_iconst (v := (0 : Int32)) hx hb dL_cells_12 (by decide) ?_
  refine lv_istore_n (lv' := [(3, .int (0 : Int32)), (2, .int r4), (1, .int r1), (0, .ref (q 0))]) hx hb dL_cells_13 rfl hl (by decide) rfl (fun ls hl => ?_)
  refine lv_iconst (v := (0 : Int32)) hx hb dL_cells_14 (by decide) ?_
  refine lv_istore (lv' := [(4, .int (0 : Int32)), (3, .int (0 : Int32)), (2, .int r4), (1, .int r1), (0, .ref (q 0))]) hx hb dL_cells_15 hl (by decide) rfl (fun ls hl => ?_)
  obtain ⟨yk15, hlk15, hf⟩ := x_bind hf
  have jk15 : ∀ (x11 : Int32) (x12 : Int32) (s13 : SiS) (s14 : PaS) (H : Heap) (locs : List Loc) (ls : Array Slot), va_P D vwCl (wC (q 0) (q 1) (q 4) (q 7) (q 11) (q 14) (q 22) (q 39) (q 41) ++ (wL aI (q 1) (q 2) (q 3) unow ++ (wL aI (q 4) (q 5) (q 6) udraft ++ (wS aI (q 7) (q 1) (q 8) (q 9) (q 10) s13 ++ (wPa aI (q 11) (q 7) (q 12) (q 13) s14 ++ (wPl (q 14) (q 1) (q 15) (q 18) upl ++ (wL aI (q 15) (q 16) (q 17) utr ++ (wS aI (q 18) (q 15) (q 19) (q 20) (q 21) ups ++ (wHi aL (q 22) (q 23) (q 24) (q 27) (q 30) (q 33) (q 36) uhi ++ (wL aI (q 24) (q 25) (q 26) uh0 ++ (wL aI (q 27) (q 28) (q 29) uh1 ++ (wL aI (q 30) (q 31) (q 32) uh2 ++ (wL aI (q 33) (q 34) (q 35) uh3 ++ (wL aI (q 36) (q 37) (q 38) uh4 ++ (wTx aI (q 39) (q 40) utx ++ (wRd (q 41) (q 39) urd)))))))))))))))) H → va_D A (wC (q 0) (q 1) (q 4) (q 7) (q 11) (q 14) (q 22) (q 39) (q 41) ++ (wL aI (q 1) (q 2) (q 3) unow ++ (wL aI (q 4) (q 5) (q 6) udraft ++ (wS aI (q 7) (q 1) (q 8) (q 9) (q 10) s13 ++ (wPa aI (q 11) (q 7) (q 12) (q 13) s14 ++ (wPl (q 14) (q 1) (q 15) (q 18) upl ++ (wL aI (q 15) (q 16) (q 17) utr ++ (wS aI (q 18) (q 15) (q 19) (q 20) (q 21) ups ++ (wHi aL (q 22) (q 23) (q 24) (q 27) (q 30) (q 33) (q 36) uhi ++ (wL aI (q 24) (q 25) (q 26) uh0 ++ (wL aI (q 27) (q 28) (q 29) uh1 ++ (wL aI (q 30) (q 31) (q 32) uh2 ++ (wL aI (q 33) (q 34) (q 35) uh3 ++ (wL aI (q 36) (q 37) (q 38) uh4 ++ (wTx aI (q 39) (q 40) utx ++ (wRd (q 41) (q 39) urd)))))))))))))))) → va_S A sg.heap H locs → lv_has ls 9 [(0, .ref (q 0)), (1, .int r1), (2, .int r4), (3, .int x11)] → Sum.inr (x11, x12, s13, s14) = yk15 → G H locs (F0 m 166 ls []) := by
    intro x11 x12 s13 s14 H locs ls hP hD hS hl hyk15
    subst hyk15
    have hf := x_er hf
    try dsimp only at hf
    refine (hG _ _ _).mpr ?_
    refine lv_iload_n hx hb dL_cells_166 rfl (lv_at hl 3 rfl) ?_
    refine lv_aload_n hx hb dL_cells_167 rfl (lv_at hl 0 rfl) ?_
    refine lv_bipush (v := (6 : Int32)) hx hb dL_cells_168 (by decide) ?_
    obtain ⟨zh18, h18, hf⟩ := x_bind hf
    obtain ⟨r16, s17⟩ := zh18
    try dsimp only at hf
    refine x_goIA (ws' := (wC (q 0) (q 1) (q 4) (q 7) (q 11) (q 14) (q 22) (q 39) (q 41) ++ (wL aI (q 1) (q 2) (q 3) unow ++ (wL aI (q 4) (q 5) (q 6) udraft ++ (wS aI (q 7) (q 1) (q 8) (q 9) (q 10) s17 ++ (wPa aI (q 11) (q 7) (q 12) (q 13) s14 ++ (wPl (q 14) (q 1) (q 15) (q 18) upl ++ (wL aI (q 15) (q 16) (q 17) utr ++ (wS aI (q 18) (q 15) (q 19) (q 20) (q 21) ups ++ (wHi aL (q 22) (q 23) (q 24) (q 27) (q 30) (q 33) (q 36) uhi ++ (wL aI (q 24) (q 25) (q 26) uh0 ++ (wL aI (q 27) (q 28) (q 29) uh1 ++ (wL aI (q 30) (q 31) (q 32) uh2 ++ (wL aI (q 33) (q 34) (q 35) uh3 ++ (wL aI (q 36) (q 37) (q 38) uh4 ++ (wTx aI (q 39) (q 40) utx ++ (wRd (q 41) (q 39) urd))))))))))))))))) (va_runV (As := [.int (6 : Int32)]) (rest := [.int x11]) ⟨hx, hb, hml, hown, hts⟩ (c_X7_count l D aI aZ aL X q _ unow udraft s13 s14 upl utr ups uhi uh0 uh1 uh2 uh3 uh4 utx urd (6 : Int32) (r16, s17) h18) (cwV 1 hts gL_cells_X7_count rfl rfl rfl (by decide +kernel) ⟨Nat.le_of_ble_eq_true rfl, Nat.le_of_ble_eq_true rfl⟩) (x_preVA (x_stabX X) hK hX hP hD hS hA (q0 := 0) (ci := 7) rfl rfl rfl) rfl rfl hl.1 rfl (lv_room (Nat.le_of_ble_eq_true rfl)) dL_cells_170 ⟨Nat.le_refl 0, Nat.le_refl 0⟩) hP hD hS hA (fun H locs hP hD hS => ?_)
    refine lv_icmp_ne (tgt := 214) hx hb dL_cells_173 (by decide) (fun c19 => ?_) (fun c19 => ?_)
    · have hf := x_ifn c19 hf
      refine lv_iconst (v := (0 : Int32)) hx hb dL_cells_214 (by decide) ?_
      have hR := x_ret hf
      subst hR
      exact x_zret hx hb hr hlocks hP hD hS x_zr0 dL_cells_215
    · have hf := x_ifp c19 hf
      refine lv_aload_n hx hb dL_cells_176 rfl (lv_at hl 0 rfl) ?_
      refine lv_iload_n hx hb dL_cells_177 rfl (lv_at hl 1 rfl) ?_
      refine lv_iconst (v := (0 : Int32)) hx hb dL_cells_178 (by decide) ?_
      obtain ⟨r20, h21, hf⟩ := x_bind hf
      refine x_goI0A (va_runV (As := [.int r1, .int (0 : Int32)]) (rest := []) ⟨hx, hb, hml, hown, hts⟩ (c_X7_seen l D aI aZ aL X q _ unow udraft s17 s14 upl utr ups uhi uh0 uh1 uh2 uh3 uh4 utx urd r1 (0 : Int32) r20 h21) (cwV 2 hts gL_cells_X7_seen rfl rfl rfl (by decide +kernel) ⟨Nat.le_of_ble_eq_true rfl, Nat.le_of_ble_eq_true rfl⟩) (x_preVA (x_stabX X) hK hX hP hD hS hA (q0 := 0) (ci := 7) rfl rfl rfl) rfl rfl hl.1 rfl (lv_room (Nat.le_of_ble_eq_true rfl)) dL_cells_179 ⟨Nat.le_refl 0, Nat.le_refl 0⟩) hP hD hS hA (fun H locs hP hS => ?_)
      refine lv_bipush (v := (-101 : Int32)) hx hb dL_cells_182 (by decide) ?_
      refine lv_icmp_ne (tgt := 214) hx hb dL_cells_184 (by decide) (fun c22 => ?_) (fun c22 => ?_)
      · have hf := x_ifn c22 hf
        refine lv_iconst (v := (0 : Int32)) hx hb dL_cells_214 (by decide) ?_
        have hR := x_ret hf
        subst hR
        exact x_zret hx hb hr hlocks hP hD hS x_zr0 dL_cells_215
      · have hf := x_ifp c22 hf
        refine lv_aload_n hx hb dL_cells_187 rfl (lv_at hl 0 rfl) ?_
        refine lv_iconst (v := (0 : Int32)) hx hb dL_cells_188 (by decide) ?_
        refine lv_iload_n hx hb dL_cells_189 rfl (lv_at hl 2 rfl) ?_
        obtain ⟨r23, h24, hf⟩ := x_bind hf
        refine x_goI0A (va_runV (As := [.int (0 : Int32), .int r4]) (rest := []) ⟨hx, hb, hml, hown, hts⟩ (c_X7_seen l D aI aZ aL X q _ unow udraft s17 s14 upl utr ups uhi uh0 uh1 uh2 uh3 uh4 utx urd (0 : Int32) r4 r23 h24) (cwV 2 hts gL_cells_X7_seen rfl rfl rfl (by decide +kernel) ⟨Nat.le_of_ble_eq_true rfl, Nat.le_of_ble_eq_true rfl⟩) (x_preVA (x_stabX X) hK hX hP hD hS hA (q0 := 0) (ci := 7) rfl rfl rfl) rfl rfl hl.1 rfl (lv_room (Nat.le_of_ble_eq_true rfl)) dL_cells_190 ⟨Nat.le_refl 0, Nat.le_refl 0⟩) hP hD hS hA (fun H locs hP hS => ?_)
        refine lv_bipush (v := (-101 : Int32)) hx hb dL_cells_193 (by decide) ?_
        refine lv_icmp_ne (tgt := 214) hx hb dL_cells_195 (by decide) (fun c25 => ?_) (fun c25 => ?_)
        · have hf := x_ifn c25 hf
          refine lv_iconst (v := (0 : Int32)) hx hb dL_cells_214 (by decide) ?_
          have hR := x_ret hf
          subst hR
          exact x_zret hx hb hr hlocks hP hD hS x_zr0 dL_cells_215
        · have hf := x_ifp c25 hf
          refine lv_aload_n hx hb dL_cells_198 rfl (lv_at hl 0 rfl) ?_
          refine lv_iconst (v := (-1 : Int32)) hx hb dL_cells_199 (by decide) ?_
          refine lv_iconst (v := (0 : Int32)) hx hb dL_cells_200 (by decide) ?_
          refine lv_iconst (v := (0 : Int32)) hx hb dL_cells_201 (by decide) ?_
          obtain ⟨r26, h27, hf⟩ := x_bind hf
          refine x_goI0A (va_runV (As := [.int (-1 : Int32), .int (0 : Int32), .int (0 : Int32)]) (rest := []) ⟨hx, hb, hml, hown, hts⟩ (c_X7_covering l D aI aZ aL X q _ unow udraft s17 s14 upl utr ups uhi uh0 uh1 uh2 uh3 uh4 utx urd (-1 : Int32) (0 : Int32) (0 : Int32) r26 h27) (cwV 3 hts gL_cells_X7_covering rfl rfl rfl (by decide +kernel) ⟨Nat.le_of_ble_eq_true rfl, Nat.le_of_ble_eq_true rfl⟩) (x_preVA (x_stabX X) hK hX hP hD hS hA (q0 := 0) (ci := 7) rfl rfl rfl) rfl rfl hl.1 rfl (lv_room (Nat.le_of_ble_eq_true rfl)) dL_cells_202 ⟨Nat.le_refl 0, Nat.le_refl 0⟩) hP hD hS hA (fun H locs hP hS => ?_)
          refine lv_bipush (v := (-101 : Int32)) hx hb dL_cells_205 (by decide) ?_
          refine lv_icmp_ne (tgt := 214) hx hb dL_cells_207 (by decide) (fun c28 => ?_) (fun c28 => ?_)
          · have hf := x_ifn c28 hf
            refine lv_iconst (v := (0 : Int32)) hx hb dL_cells_214 (by decide) ?_
            have hR := x_ret hf
            subst hR
            exact x_zret hx hb hr hlocks hP hD hS x_zr0 dL_cells_215
          · have hf := x_ifp c28 hf
            refine lv_iconst (v := (1 : Int32)) hx hb dL_cells_210 (by decide) ?_
            refine lv_goto (tgt := 215) hx hb dL_cells_211 (by decide) ?_
            have hR := x_ret hf
            subst hR
            exact x_zret hx hb hr hlocks hP hD hS x_zr1 dL_cells_215
  have lk15 : ∀ (n : Nat) (x7 : Int32) (x8 : Int32) (s9 : SiS) (s10 : PaS) (H : Heap) (locs : List Loc) (ls : Array Slot), va_P D vwCl (wC (q 0) (q 1) (q 4) (q 7) (q 11) (q 14) (q 22) (q 39) (q 41) ++ (wL aI (q 1) (q 2) (q 3) unow ++ (wL aI (q 4) (q 5) (q 6) udraft ++ (wS aI (q 7) (q 1) (q 8) (q 9) (q 10) s9 ++ (wPa aI (q 11) (q 7) (q 12) (q 13) s10 ++ (wPl (q 14) (q 1) (q 15) (q 18) upl ++ (wL aI (q 15) (q 16) (q 17) utr ++ (wS aI (q 18) (q 15) (q 19) (q 20) (q 21) ups ++ (wHi aL (q 22) (q 23) (q 24) (q 27) (q 30) (q 33) (q 36) uhi ++ (wL aI (q 24) (q 25) (q 26) uh0 ++ (wL aI (q 27) (q 28) (q 29) uh1 ++ (wL aI (q 30) (q 31) (q 32) uh2 ++ (wL aI (q 33) (q 34) (q 35) uh3 ++ (wL aI (q 36) (q 37) (q 38) uh4 ++ (wTx aI (q 39) (q 40) utx ++ (wRd (q 41) (q 39) urd)))))))))))))))) H → va_D A (wC (q 0) (q 1) (q 4) (q 7) (q 11) (q 14) (q 22) (q 39) (q 41) ++ (wL aI (q 1) (q 2) (q 3) unow ++ (wL aI (q 4) (q 5) (q 6) udraft ++ (wS aI (q 7) (q 1) (q 8) (q 9) (q 10) s9 ++ (wPa aI (q 11) (q 7) (q 12) (q 13) s10 ++ (wPl (q 14) (q 1) (q 15) (q 18) upl ++ (wL aI (q 15) (q 16) (q 17) utr ++ (wS aI (q 18) (q 15) (q 19) (q 20) (q 21) ups ++ (wHi aL (q 22) (q 23) (q 24) (q 27) (q 30) (q 33) (q 36) uhi ++ (wL aI (q 24) (q 25) (q 26) uh0 ++ (wL aI (q 27) (q 28) (q 29) uh1 ++ (wL aI (q 30) (q 31) (q 32) uh2 ++ (wL aI (q 33) (q 34) (q 35) uh3 ++ (wL aI (q 36) (q 37) (q 38) uh4 ++ (wTx aI (q 39) (q 40) utx ++ (wRd (q 41) (q 39) urd)))))))))))))))) → va_S A sg.heap H locs → lv_has ls 9 [(0, .ref (q 0)), (1, .int r1), (2, .int r4), (3, .int x7), (4, .int x8)] → x_loop (b_L_cells_17 unow uhi utx r4 r1) n (x7, x8, s9, s10) = some yk15 → G H locs (F0 m 17 ls []) := by
    intro n
    induction n with
    | zero => intro x7 x8 s9 s10 H locs ls hP hD hS hl hqk15; exact (x_loop_0 hqk15).elim
    | succ n ihk15 =>
      intro x7 x8 s9 s10 H locs ls hP hD hS hl hqk15
      refine (hG _ _ _).mpr ?_
      obtain ⟨zk15, hbk15, hqk15⟩ := x_loop_s hqk15
      rw [b_L_cells_17] at hbk15
      refine lv_iload hx hb dL_cells_17 (lv_at hl 4 rfl) ?_
      refine lv_iload_n hx hb dL_cells_19 rfl (lv_at hl 1 rfl) ?_
      refine lv_icmp_ge (tgt := 166) hx hb dL_cells_20 (by decide) (fun c29 => ?_) (fun c29 => ?_)
      · have hbk15 := x_ifp c29 hbk15
        have zk15e := x_inr hbk15; subst zk15e
        have hqk15 := x_ret hqk15
        exact (hG _ _ _).mp (jk15 x7 x8 s9 s10 _ _ _ hP hD hS (lv_sub hl [0, 1, 2, 3] rfl) hqk15.symm)
      · have hbk15 := x_ifn c29 hbk15
        refine lv_iconst (v := (0 : Int32)) hx hb dL_cells_23 (by decide) ?_
        refine lv_istore (lv' := [(5, .int (0 : Int32)), (0, .ref (q 0)), (1, .int r1), (2, .int r4), (3, .int x7), (4, .int x8)]) hx hb dL_cells_24 hl (by decide) rfl (fun ls hl => ?_)
        obtain ⟨yk38, hlk38, hbk15⟩ := x_bind hbk15
        have jk38 : ∀ (x34 : Int32) (x35 : Int32) (s36 : SiS) (s37 : PaS) (H : Heap) (locs : List Loc) (ls : Array Slot), va_P D vwCl (wC (q 0) (q 1) (q 4) (q 7) (q 11) (q 14) (q 22) (q 39) (q 41) ++ (wL aI (q 1) (q 2) (q 3) unow ++ (wL aI (q 4) (q 5) (q 6) udraft ++ (wS aI (q 7) (q 1) (q 8) (q 9) (q 10) s36 ++ (wPa aI (q 11) (q 7) (q 12) (q 13) s37 ++ (wPl (q 14) (q 1) (q 15) (q 18) upl ++ (wL aI (q 15) (q 16) (q 17) utr ++ (wS aI (q 18) (q 15) (q 19) (q 20) (q 21) ups ++ (wHi aL (q 22) (q 23) (q 24) (q 27) (q 30) (q 33) (q 36) uhi ++ (wL aI (q 24) (q 25) (q 26) uh0 ++ (wL aI (q 27) (q 28) (q 29) uh1 ++ (wL aI (q 30) (q 31) (q 32) uh2 ++ (wL aI (q 33) (q 34) (q 35) uh3 ++ (wL aI (q 36) (q 37) (q 38) uh4 ++ (wTx aI (q 39) (q 40) utx ++ (wRd (q 41) (q 39) urd)))))))))))))))) H → va_D A (wC (q 0) (q 1) (q 4) (q 7) (q 11) (q 14) (q 22) (q 39) (q 41) ++ (wL aI (q 1) (q 2) (q 3) unow ++ (wL aI (q 4) (q 5) (q 6) udraft ++ (wS aI (q 7) (q 1) (q 8) (q 9) (q 10) s36 ++ (wPa aI (q 11) (q 7) (q 12) (q 13) s37 ++ (wPl (q 14) (q 1) (q 15) (q 18) upl ++ (wL aI (q 15) (q 16) (q 17) utr ++ (wS aI (q 18) (q 15) (q 19) (q 20) (q 21) ups ++ (wHi aL (q 22) (q 23) (q 24) (q 27) (q 30) (q 33) (q 36) uhi ++ (wL aI (q 24) (q 25) (q 26) uh0 ++ (wL aI (q 27) (q 28) (q 29) uh1 ++ (wL aI (q 30) (q 31) (q 32) uh2 ++ (wL aI (q 33) (q 34) (q 35) uh3 ++ (wL aI (q 36) (q 37) (q 38) uh4 ++ (wTx aI (q 39) (q 40) utx ++ (wRd (q 41) (q 39) urd)))))))))))))))) → va_S A sg.heap H locs → lv_has ls 9 [(0, .ref (q 0)), (1, .int r1), (2, .int r4), (3, .int x34), (4, .int x8)] → Sum.inr (x34, x35, s36, s37) = yk38 → G H locs (F0 m 160 ls []) := by
          intro x34 x35 s36 s37 H locs ls hP hD hS hl hyk38
          subst hyk38
          have hbk15 := x_er hbk15
          try dsimp only at hbk15
          refine (hG _ _ _).mpr ?_
          refine lv_iinc (v := (x8 + (1 : Int32))) (lv' := [(4, .int (x8 + (1 : Int32))), (0, .ref (q 0)), (1, .int r1), (2, .int r4), (3, .int x34)]) hx hb dL_cells_160 hl (k := 4) rfl rfl (by decide) rfl (fun ls hl => ?_)
          refine lv_goto (tgt := 17) hx hb dL_cells_163 (by decide) ?_
          have zk15e := x_inl hbk15; subst zk15e
          exact (hG _ _ _).mp (ihk15 x34 (x8 + (1 : Int32)) s36 s37 _ _ _ hP hD hS (lv_sub hl [1, 2, 3, 4, 0] rfl) hqk15)
        have lk38 : ∀ (n : Nat) (x30 : Int32) (x31 : Int32) (s32 : SiS) (s33 : PaS) (H : Heap) (locs : List Loc) (ls : Array Slot), va_P D vwCl (wC (q 0) (q 1) (q 4) (q 7) (q 11) (q 14) (q 22) (q 39) (q 41) ++ (wL aI (q 1) (q 2) (q 3) unow ++ (wL aI (q 4) (q 5) (q 6) udraft ++ (wS aI (q 7) (q 1) (q 8) (q 9) (q 10) s32 ++ (wPa aI (q 11) (q 7) (q 12) (q 13) s33 ++ (wPl (q 14) (q 1) (q 15) (q 18) upl ++ (wL aI (q 15) (q 16) (q 17) utr ++ (wS aI (q 18) (q 15) (q 19) (q 20) (q 21) ups ++ (wHi aL (q 22) (q 23) (q 24) (q 27) (q 30) (q 33) (q 36) uhi ++ (wL aI (q 24) (q 25) (q 26) uh0 ++ (wL aI (q 27) (q 28) (q 29) uh1 ++ (wL aI (q 30) (q 31) (q 32) uh2 ++ (wL aI (q 33) (q 34) (q 35) uh3 ++ (wL aI (q 36) (q 37) (q 38) uh4 ++ (wTx aI (q 39) (q 40) utx ++ (wRd (q 41) (q 39) urd)))))))))))))))) H → va_D A (wC (q 0) (q 1) (q 4) (q 7) (q 11) (q 14) (q 22) (q 39) (q 41) ++ (wL aI (q 1) (q 2) (q 3) unow ++ (wL aI (q 4) (q 5) (q 6) udraft ++ (wS aI (q 7) (q 1) (q 8) (q 9) (q 10) s32 ++ (wPa aI (q 11) (q 7) (q 12) (q 13) s33 ++ (wPl (q 14) (q 1) (q 15) (q 18) upl ++ (wL aI (q 15) (q 16) (q 17) utr ++ (wS aI (q 18) (q 15) (q 19) (q 20) (q 21) ups ++ (wHi aL (q 22) (q 23) (q 24) (q 27) (q 30) (q 33) (q 36) uhi ++ (wL aI (q 24) (q 25) (q 26) uh0 ++ (wL aI (q 27) (q 28) (q 29) uh1 ++ (wL aI (q 30) (q 31) (q 32) uh2 ++ (wL aI (q 33) (q 34) (q 35) uh3 ++ (wL aI (q 36) (q 37) (q 38) uh4 ++ (wTx aI (q 39) (q 40) utx ++ (wRd (q 41) (q 39) urd)))))))))))))))) → va_S A sg.heap H locs → lv_has ls 9 [(0, .ref (q 0)), (1, .int r1), (2, .int r4), (3, .int x30), (4, .int x8), (5, .int x31)] → x_loop (b_L_cells_26 unow uhi utx r4 x8) n (x30, x31, s32, s33) = some yk38 → G H locs (F0 m 26 ls []) := by
          intro n
          induction n with
          | zero => intro x30 x31 s32 s33 H locs ls hP hD hS hl hqk38; exact (x_loop_0 hqk38).elim
          | succ n ihk38 =>
            intro x30 x31 s32 s33 H locs ls hP hD hS hl hqk38
            refine (hG _ _ _).mpr ?_
            obtain ⟨zk38, hbk38, hqk38⟩ := x_loop_s hqk38
            rw [b_L_cells_26] at hbk38
            refine lv_iload hx hb dL_cells_26 (lv_at hl 5 rfl) ?_
            refine lv_iload_n hx hb dL_cells_28 rfl (lv_at hl 2 rfl) ?_
            refine lv_icmp_ge (tgt := 160) hx hb dL_cells_29 (by decide) (fun c39 => ?_) (fun c39 => ?_)
            · have hbk38 := x_ifp c39 hbk38
              have zk38e := x_inr hbk38; subst zk38e
              have hqk38 := x_ret hqk38
              exact (hG _ _ _).mp (jk38 x30 x31 s32 s33 _ _ _ hP hD hS (lv_sub hl [0, 1, 2, 3, 4] rfl) hqk38.symm)
            · have hbk38 := x_ifn c39 hbk38
              refine lv_aload_n hx hb dL_cells_32 rfl (lv_at hl 0 rfl) ?_
              refine lv_iload hx hb dL_cells_33 (lv_at hl 4 rfl) ?_
              refine lv_iload hx hb dL_cells_35 (lv_at hl 5 rfl) ?_
              obtain ⟨r40, h41, hbk38⟩ := x_bind hbk38
              refine x_goI0A (va_runV (As := [.int x8, .int x31]) (rest := []) ⟨hx, hb, hml, hown, hts⟩ (c_X7_seen l D aI aZ aL X q _ unow udraft s32 s33 upl utr ups uhi uh0 uh1 uh2 uh3 uh4 utx urd x8 x31 r40 h41) (cwV 2 hts gL_cells_X7_seen rfl rfl rfl (by decide +kernel) ⟨Nat.le_of_ble_eq_true rfl, Nat.le_of_ble_eq_true rfl⟩) (x_preVA (x_stabX X) hK hX hP hD hS hA (q0 := 0) (ci := 7) rfl rfl rfl) rfl rfl hl.1 rfl (lv_room (Nat.le_of_ble_eq_true rfl)) dL_cells_37 ⟨Nat.le_refl 0, Nat.le_refl 0⟩) hP hD hS hA (fun H locs hP hS => ?_)
              refine lv_istore (lv' := [(6, .int r40), (0, .ref (q 0)), (1, .int r1), (2, .int r4), (3, .int x30), (4, .int x8), (5, .int x31)]) hx hb dL_cells_40 hl (by decide) rfl (fun ls hl => ?_)
              refine lv_aload_n hx hb dL_cells_42 rfl (lv_at hl 1 rfl) ?_
              refine lv_iload hx hb dL_cells_43 (lv_at hl 5 rfl) ?_
              refine lv_iload hx hb dL_cells_45 (lv_at hl 6 rfl) ?_
              refine lv_iconst (v := (0 : Int32)) hx hb dL_cells_47 (by decide) ?_
              obtain ⟨r42, h43, hbk38⟩ := x_bind hbk38
              refine x_goI0A (va_runV (As := [.int x8, .int x31, .int (0 : Int32)]) (rest := []) ⟨hx, hb, hml, hown, hts⟩ (c_X7_covering l D aI aZ aL X q _ unow udraft s32 s33 upl utr ups uhi uh0 uh1 uh2 uh3 uh4 utx urd x8 x31 (0 : Int32) r42 h43) (cwV 3 hts gL_cells_X7_covering rfl rfl rfl (by decide +kernel) ⟨Nat.le_of_ble_eq_true rfl, Nat.le_of_ble_eq_true rfl⟩) (x_preVA (x_stabX X) hK hX hP hD hS hA (q0 := 0) (ci := 7) rfl rfl rfl) rfl rfl hl.1 rfl (lv_room (Nat.le_of_ble_eq_true rfl)) dL_cells_48 ⟨Nat.le_refl 0, Nat.le_refl 0⟩) hP hD hS hA (fun H locs hP hS => ?_)
              refine lv_istore (lv' := [(7, .int r42), (6, .int r40), (0, .ref (q 0)), (1, .int r1), (2, .int r4), (3, .int x30), (4, .int x8), (5, .int x31)]) hx hb dL_cells_51 hl (by decide) rfl (fun ls hl => ?_)
              refine lv_aload_n hx hb dL_cells_53 rfl (lv_at hl 2 rfl) ?_
              refine lv_iload hx hb dL_cells_54 (lv_at hl 6 rfl) ?_
              refine lv_iload hx hb dL_cells_56 (lv_at hl 7 rfl) ?_
              refine lv_iconst (v := (1 : Int32)) hx hb dL_cells_58 (by decide) ?_
              obtain ⟨r44, h45, hbk38⟩ := x_bind hbk38
              refine x_goI0A (va_runV (As := [.int x8, .int x31, .int (1 : Int32)]) (rest := []) ⟨hx, hb, hml, hown, hts⟩ (c_X7_covering l D aI aZ aL X q _ unow udraft s32 s33 upl utr ups uhi uh0 uh1 uh2 uh3 uh4 utx urd x8 x31 (1 : Int32) r44 h45) (cwV 3 hts gL_cells_X7_covering rfl rfl rfl (by decide +kernel) ⟨Nat.le_of_ble_eq_true rfl, Nat.le_of_ble_eq_true rfl⟩) (x_preVA (x_stabX X) hK hX hP hD hS hA (q0 := 0) (ci := 7) rfl rfl rfl) rfl rfl hl.1 rfl (lv_room (Nat.le_of_ble_eq_true rfl)) dL_cells_59 ⟨Nat.le_refl 0, Nat.le_refl 0⟩) hP hD hS hA (fun H locs hP hS => ?_)
              refine lv_istore (lv' := [(8, .int r44), (7, .int r42), (6, .int r40), (0, .ref (q 0)), (1, .int r1), (2, .int r4), (3, .int x30), (4, .int x8), (5, .int x31)]) hx hb dL_cells_62 hl (by decide) rfl (fun ls hl => ?_)
              refine lv_iload_n hx hb dL_cells_64 rfl (lv_at hl 6 rfl) ?_
              refine lv_iload hx hb dL_cells_65 (lv_at hl 2 rfl) ?_
              refine lv_iconst (v := (-1 : Int32)) hx hb dL_cells_67 (by decide) ?_
              obtain ⟨yk47, hrk47, hbk38⟩ := x_bind hbk38
              have jk47 : ∀ (x46 : Int32) (H : Heap) (locs : List Loc) (ls : Array Slot), va_P D vwCl (wC (q 0) (q 1) (q 4) (q 7) (q 11) (q 14) (q 22) (q 39) (q 41) ++ (wL aI (q 1) (q 2) (q 3) unow ++ (wL aI (q 4) (q 5) (q 6) udraft ++ (wS aI (q 7) (q 1) (q 8) (q 9) (q 10) s32 ++ (wPa aI (q 11) (q 7) (q 12) (q 13) s33 ++ (wPl (q 14) (q 1) (q 15) (q 18) upl ++ (wL aI (q 15) (q 16) (q 17) utr ++ (wS aI (q 18) (q 15) (q 19) (q 20) (q 21) ups ++ (wHi aL (q 22) (q 23) (q 24) (q 27) (q 30) (q 33) (q 36) uhi ++ (wL aI (q 24) (q 25) (q 26) uh0 ++ (wL aI (q 27) (q 28) (q 29) uh1 ++ (wL aI (q 30) (q 31) (q 32) uh2 ++ (wL aI (q 33) (q 34) (q 35) uh3 ++ (wL aI (q 36) (q 37) (q 38) uh4 ++ (wTx aI (q 39) (q 40) utx ++ (wRd (q 41) (q 39) urd)))))))))))))))) H → va_D A (wC (q 0) (q 1) (q 4) (q 7) (q 11) (q 14) (q 22) (q 39) (q 41) ++ (wL aI (q 1) (q 2) (q 3) unow ++ (wL aI (q 4) (q 5) (q 6) udraft ++ (wS aI (q 7) (q 1) (q 8) (q 9) (q 10) s32 ++ (wPa aI (q 11) (q 7) (q 12) (q 13) s33 ++ (wPl (q 14) (q 1) (q 15) (q 18) upl ++ (wL aI (q 15) (q 16) (q 17) utr ++ (wS aI (q 18) (q 15) (q 19) (q 20) (q 21) ups ++ (wHi aL (q 22) (q 23) (q 24) (q 27) (q 30) (q 33) (q 36) uhi ++ (wL aI (q 24) (q 25) (q 26) uh0 ++ (wL aI (q 27) (q 28) (q 29) uh1 ++ (wL aI (q 30) (q 31) (q 32) uh2 ++ (wL aI (q 33) (q 34) (q 35) uh3 ++ (wL aI (q 36) (q 37) (q 38) uh4 ++ (wTx aI (q 39) (q 40) utx ++ (wRd (q 41) (q 39) urd)))))))))))))))) → va_S A sg.heap H locs → lv_has ls 9 [(0, .ref (q 0)), (1, .int r1), (2, .int r4), (4, .int x8), (5, .int x31), (6, .int r40), (7, .int r42), (8, .int r44)] → x46 = yk47 → G H locs (F0 m 76 ls [.int x46, .int x30]) := by
                intro x46 H locs ls hP hD hS hl hyk47
                subst hyk47
                refine (hG _ _ _).mpr ?_
                refine lv_iadd hx hb dL_cells_76 ?_
                obtain ⟨x48, ex48, hbk38⟩ := x_nm_s hbk38
                refine x_topi ex48 ?_
                refine lv_istore_n (lv' := [(3, .int x48), (0, .ref (q 0)), (1, .int r1), (2, .int r4), (4, .int x8), (5, .int x31), (6, .int r40), (7, .int r42), (8, .int r44)]) hx hb dL_cells_77 rfl hl (by decide) rfl (fun ls hl => ?_)
                refine lv_iload hx hb dL_cells_78 (lv_at hl 6 rfl) ?_
                refine lv_iload hx hb dL_cells_80 (lv_at hl 7 rfl) ?_
                refine lv_bipush (v := (-109 : Int32)) hx hb dL_cells_82 (by decide) ?_
                obtain ⟨yk50, hrk50, hbk38⟩ := x_bind hbk38
                have jk50 : ∀ (x49 : Int32) (H : Heap) (locs : List Loc) (ls : Array Slot), va_P D vwCl (wC (q 0) (q 1) (q 4) (q 7) (q 11) (q 14) (q 22) (q 39) (q 41) ++ (wL aI (q 1) (q 2) (q 3) unow ++ (wL aI (q 4) (q 5) (q 6) udraft ++ (wS aI (q 7) (q 1) (q 8) (q 9) (q 10) s32 ++ (wPa aI (q 11) (q 7) (q 12) (q 13) s33 ++ (wPl (q 14) (q 1) (q 15) (q 18) upl ++ (wL aI (q 15) (q 16) (q 17) utr ++ (wS aI (q 18) (q 15) (q 19) (q 20) (q 21) ups ++ (wHi aL (q 22) (q 23) (q 24) (q 27) (q 30) (q 33) (q 36) uhi ++ (wL aI (q 24) (q 25) (q 26) uh0 ++ (wL aI (q 27) (q 28) (q 29) uh1 ++ (wL aI (q 30) (q 31) (q 32) uh2 ++ (wL aI (q 33) (q 34) (q 35) uh3 ++ (wL aI (q 36) (q 37) (q 38) uh4 ++ (wTx aI (q 39) (q 40) utx ++ (wRd (q 41) (q 39) urd)))))))))))))))) H → va_D A (wC (q 0) (q 1) (q 4) (q 7) (q 11) (q 14) (q 22) (q 39) (q 41) ++ (wL aI (q 1) (q 2) (q 3) unow ++ (wL aI (q 4) (q 5) (q 6) udraft ++ (wS aI (q 7) (q 1) (q 8) (q 9) (q 10) s32 ++ (wPa aI (q 11) (q 7) (q 12) (q 13) s33 ++ (wPl (q 14) (q 1) (q 15) (q 18) upl ++ (wL aI (q 15) (q 16) (q 17) utr ++ (wS aI (q 18) (q 15) (q 19) (q 20) (q 21) ups ++ (wHi aL (q 22) (q 23) (q 24) (q 27) (q 30) (q 33) (q 36) uhi ++ (wL aI (q 24) (q 25) (q 26) uh0 ++ (wL aI (q 27) (q 28) (q 29) uh1 ++ (wL aI (q 30) (q 31) (q 32) uh2 ++ (wL aI (q 33) (q 34) (q 35) uh3 ++ (wL aI (q 36) (q 37) (q 38) uh4 ++ (wTx aI (q 39) (q 40) utx ++ (wRd (q 41) (q 39) urd)))))))))))))))) → va_S A sg.heap H locs → lv_has ls 9 [(0, .ref (q 0)), (1, .int r1), (2, .int r4), (3, .int x48), (4, .int x8), (5, .int x31), (7, .int r42), (8, .int r44)] → x49 = yk50 → G H locs (F0 m 93 ls [.int x49, .int r40]) := by
                  intro x49 H locs ls hP hD hS hl hyk50
                  subst hyk50
                  refine (hG _ _ _).mpr ?_
                  refine lv_icmp_ne (tgt := 152) hx hb dL_cells_93 (by decide) (fun c51 => ?_) (fun c51 => ?_)
                  · have hbk38 := x_ifn c51 hbk38
                    refine lv_iconst (v := (0 : Int32)) hx hb dL_cells_152 (by decide) ?_
                    have zk38e := x_inr hbk38; subst zk38e
                    have yk38e := x_ret hqk38; subst yk38e
                    have hbk15 := x_el hbk15
                    have zk15e := x_inr hbk15; subst zk15e
                    have yk15e := x_ret hqk15; subst yk15e
                    have hf := x_el hf
                    have hR := x_ret hf
                    subst hR
                    exact x_zret hx hb hr hlocks hP hD hS x_zr0 dL_cells_153
                  · have hbk38 := x_ifp c51 hbk38
                    refine lv_iload hx hb dL_cells_96 (lv_at hl 6 rfl) ?_
                    refine lv_bipush (v := (-109 : Int32)) hx hb dL_cells_98 (by decide) ?_
                    obtain ⟨yk52, hrk52, hbk38⟩ := x_bind hbk38
                    have jk52 : ∀  (H : Heap) (locs : List Loc) (ls : Array Slot), va_P D vwCl (wC (q 0) (q 1) (q 4) (q 7) (q 11) (q 14) (q 22) (q 39) (q 41) ++ (wL aI (q 1) (q 2) (q 3) unow ++ (wL aI (q 4) (q 5) (q 6) udraft ++ (wS aI (q 7) (q 1) (q 8) (q 9) (q 10) s32 ++ (wPa aI (q 11) (q 7) (q 12) (q 13) s33 ++ (wPl (q 14) (q 1) (q 15) (q 18) upl ++ (wL aI (q 15) (q 16) (q 17) utr ++ (wS aI (q 18) (q 15) (q 19) (q 20) (q 21) ups ++ (wHi aL (q 22) (q 23) (q 24) (q 27) (q 30) (q 33) (q 36) uhi ++ (wL aI (q 24) (q 25) (q 26) uh0 ++ (wL aI (q 27) (q 28) (q 29) uh1 ++ (wL aI (q 30) (q 31) (q 32) uh2 ++ (wL aI (q 33) (q 34) (q 35) uh3 ++ (wL aI (q 36) (q 37) (q 38) uh4 ++ (wTx aI (q 39) (q 40) utx ++ (wRd (q 41) (q 39) urd)))))))))))))))) H → va_D A (wC (q 0) (q 1) (q 4) (q 7) (q 11) (q 14) (q 22) (q 39) (q 41) ++ (wL aI (q 1) (q 2) (q 3) unow ++ (wL aI (q 4) (q 5) (q 6) udraft ++ (wS aI (q 7) (q 1) (q 8) (q 9) (q 10) s32 ++ (wPa aI (q 11) (q 7) (q 12) (q 13) s33 ++ (wPl (q 14) (q 1) (q 15) (q 18) upl ++ (wL aI (q 15) (q 16) (q 17) utr ++ (wS aI (q 18) (q 15) (q 19) (q 20) (q 21) ups ++ (wHi aL (q 22) (q 23) (q 24) (q 27) (q 30) (q 33) (q 36) uhi ++ (wL aI (q 24) (q 25) (q 26) uh0 ++ (wL aI (q 27) (q 28) (q 29) uh1 ++ (wL aI (q 30) (q 31) (q 32) uh2 ++ (wL aI (q 33) (q 34) (q 35) uh3 ++ (wL aI (q 36) (q 37) (q 38) uh4 ++ (wTx aI (q 39) (q 40) utx ++ (wRd (q 41) (q 39) urd)))))))))))))))) → va_S A sg.heap H locs → lv_has ls 9 [(0, .ref (q 0)), (1, .int r1), (2, .int r4), (3, .int x48), (4, .int x8), (5, .int x31), (7, .int r42), (8, .int r44)] → Sum.inr () = yk52 → G H locs (F0 m 110 ls []) := by
                      intro  H locs ls hP hD hS hl hyk52
                      subst hyk52
                      have hbk38 := x_er hbk38
                      refine (hG _ _ _).mpr ?_
                      refine lv_iload hx hb dL_cells_110 (lv_at hl 7 rfl) ?_
                      obtain ⟨yk55, hrk55, hbk38⟩ := x_bind hbk38
                      have jk55 : ∀ (s53 : SiS) (s54 : PaS) (H : Heap) (locs : List Loc) (ls : Array Slot), va_P D vwCl (wC (q 0) (q 1) (q 4) (q 7) (q 11) (q 14) (q 22) (q 39) (q 41) ++ (wL aI (q 1) (q 2) (q 3) unow ++ (wL aI (q 4) (q 5) (q 6) udraft ++ (wS aI (q 7) (q 1) (q 8) (q 9) (q 10) s53 ++ (wPa aI (q 11) (q 7) (q 12) (q 13) s54 ++ (wPl (q 14) (q 1) (q 15) (q 18) upl ++ (wL aI (q 15) (q 16) (q 17) utr ++ (wS aI (q 18) (q 15) (q 19) (q 20) (q 21) ups ++ (wHi aL (q 22) (q 23) (q 24) (q 27) (q 30) (q 33) (q 36) uhi ++ (wL aI (q 24) (q 25) (q 26) uh0 ++ (wL aI (q 27) (q 28) (q 29) uh1 ++ (wL aI (q 30) (q 31) (q 32) uh2 ++ (wL aI (q 33) (q 34) (q 35) uh3 ++ (wL aI (q 36) (q 37) (q 38) uh4 ++ (wTx aI (q 39) (q 40) utx ++ (wRd (q 41) (q 39) urd)))))))))))))))) H → va_D A (wC (q 0) (q 1) (q 4) (q 7) (q 11) (q 14) (q 22) (q 39) (q 41) ++ (wL aI (q 1) (q 2) (q 3) unow ++ (wL aI (q 4) (q 5) (q 6) udraft ++ (wS aI (q 7) (q 1) (q 8) (q 9) (q 10) s53 ++ (wPa aI (q 11) (q 7) (q 12) (q 13) s54 ++ (wPl (q 14) (q 1) (q 15) (q 18) upl ++ (wL aI (q 15) (q 16) (q 17) utr ++ (wS aI (q 18) (q 15) (q 19) (q 20) (q 21) ups ++ (wHi aL (q 22) (q 23) (q 24) (q 27) (q 30) (q 33) (q 36) uhi ++ (wL aI (q 24) (q 25) (q 26) uh0 ++ (wL aI (q 27) (q 28) (q 29) uh1 ++ (wL aI (q 30) (q 31) (q 32) uh2 ++ (wL aI (q 33) (q 34) (q 35) uh3 ++ (wL aI (q 36) (q 37) (q 38) uh4 ++ (wTx aI (q 39) (q 40) utx ++ (wRd (q 41) (q 39) urd)))))))))))))))) → va_S A sg.heap H locs → lv_has ls 9 [(0, .ref (q 0)), (1, .int r1), (2, .int r4), (3, .int x48), (4, .int x8), (5, .int x31)] → Sum.inr (s53, s54) = yk55 → G H locs (F0 m 134 ls []) := by
                        intro s53 s54 H locs ls hP hD hS hl hyk55
                        subst hyk55
                        have hbk38 := x_er hbk38
                        try dsimp only at hbk38
                        refine (hG _ _ _).mpr ?_
                        refine lv_aload_n hx hb dL_cells_134 rfl (lv_at hl 0 rfl) ?_
                        refine lv_iload hx hb dL_cells_135 (lv_at hl 4 rfl) ?_
                        refine lv_iload hx hb dL_cells_137 (lv_at hl 5 rfl) ?_
                        refine lv_aload_n hx hb dL_cells_139 rfl (lv_at hl 0 rfl) ?_
                        refine lv_iconst (v := (0 : Int32)) hx hb dL_cells_140 (by decide) ?_
                        obtain ⟨zh58, h58, hbk38⟩ := x_bind hbk38
                        obtain ⟨r56, s57⟩ := zh58
                        try dsimp only at hbk38
                        refine x_goIA (ws' := (wC (q 0) (q 1) (q 4) (q 7) (q 11) (q 14) (q 22) (q 39) (q 41) ++ (wL aI (q 1) (q 2) (q 3) unow ++ (wL aI (q 4) (q 5) (q 6) udraft ++ (wS aI (q 7) (q 1) (q 8) (q 9) (q 10) s57 ++ (wPa aI (q 11) (q 7) (q 12) (q 13) s54 ++ (wPl (q 14) (q 1) (q 15) (q 18) upl ++ (wL aI (q 15) (q 16) (q 17) utr ++ (wS aI (q 18) (q 15) (q 19) (q 20) (q 21) ups ++ (wHi aL (q 22) (q 23) (q 24) (q 27) (q 30) (q 33) (q 36) uhi ++ (wL aI (q 24) (q 25) (q 26) uh0 ++ (wL aI (q 27) (q 28) (q 29) uh1 ++ (wL aI (q 30) (q 31) (q 32) uh2 ++ (wL aI (q 33) (q 34) (q 35) uh3 ++ (wL aI (q 36) (q 37) (q 38) uh4 ++ (wTx aI (q 39) (q 40) utx ++ (wRd (q 41) (q 39) urd))))))))))))))))) (va_runV (As := [.int (0 : Int32)]) (rest := [.int x31, .int x8, .ref (q 0)]) ⟨hx, hb, hml, hown, hts⟩ (c_X7_count l D aI aZ aL X q _ unow udraft s53 s54 upl utr ups uhi uh0 uh1 uh2 uh3 uh4 utx urd (0 : Int32) (r56, s57) h58) (cwV 1 hts gL_cells_X7_count rfl rfl rfl (by decide +kernel) ⟨Nat.le_of_ble_eq_true rfl, Nat.le_of_ble_eq_true rfl⟩) (x_preVA (x_stabX X) hK hX hP hD hS hA (q0 := 0) (ci := 7) rfl rfl rfl) rfl rfl hl.1 rfl (lv_room (Nat.le_of_ble_eq_true rfl)) dL_cells_141 ⟨Nat.le_refl 0, Nat.le_refl 0⟩) hP hD hS hA (fun H locs hP hD hS => ?_)
                        obtain ⟨r59, h60, hbk38⟩ := x_bind hbk38
                        refine x_goI0A (va_runV (As := [.int x8, .int x31, .int r56]) (rest := []) ⟨hx, hb, hml, hown, hts⟩ (c_X7_covering l D aI aZ aL X q _ unow udraft s57 s54 upl utr ups uhi uh0 uh1 uh2 uh3 uh4 utx urd x8 x31 r56 r59 h60) (cwV 3 hts gL_cells_X7_covering rfl rfl rfl (by decide +kernel) ⟨Nat.le_of_ble_eq_true rfl, Nat.le_of_ble_eq_true rfl⟩) (x_preVA (x_stabX X) hK hX hP hD hS hA (q0 := 0) (ci := 7) rfl rfl rfl) rfl rfl hl.1 rfl (lv_room (Nat.le_of_ble_eq_true rfl)) dL_cells_144 ⟨Nat.le_refl 0, Nat.le_refl 0⟩) hP hD hS hA (fun H locs hP hS => ?_)
                        refine lv_bipush (v := (-109 : Int32)) hx hb dL_cells_147 (by decide) ?_
                        refine lv_icmp_eq (tgt := 154) hx hb dL_cells_149 (by decide) (fun c61 => ?_) (fun c61 => ?_)
                        · have hbk38 := x_ifp c61 hbk38
                          refine lv_iinc (v := (x31 + (1 : Int32))) (lv' := [(5, .int (x31 + (1 : Int32))), (0, .ref (q 0)), (1, .int r1), (2, .int r4), (3, .int x48), (4, .int x8)]) hx hb dL_cells_154 hl (k := 5) rfl rfl (by decide) rfl (fun ls hl => ?_)
                          refine lv_goto (tgt := 26) hx hb dL_cells_157 (by decide) ?_
                          have zk38e := x_inl hbk38; subst zk38e
                          exact (hG _ _ _).mp (ihk38 x48 (x31 + (1 : Int32)) s57 s54 _ _ _ hP hD hS (lv_sub hl [1, 2, 3, 4, 5, 0] rfl) hqk38)
                        · have hbk38 := x_ifn c61 hbk38
                          refine lv_iconst (v := (0 : Int32)) hx hb dL_cells_152 (by decide) ?_
                          have zk38e := x_inr hbk38; subst zk38e
                          have yk38e := x_ret hqk38; subst yk38e
                          have hbk15 := x_el hbk15
                          have zk15e := x_inr hbk15; subst zk15e
                          have yk15e := x_ret hqk15; subst yk15e
                          have hf := x_el hf
                          have hR := x_ret hf
                          subst hR
                          exact x_zret hx hb hr hlocks hP hD hS x_zr0 dL_cells_153
                      rw [g_L_cells_134] at hrk55
                      refine lv_if_lt (tgt := 134) hx hb dL_cells_112 (by decide) (fun c62 => ?_) (fun c62 => ?_)
                      · have hrk55 := x_ifp c62 hrk55
                        have hrk55 := x_ret hrk55
                        exact (hG _ _ _).mp (jk55 s32 s33 _ _ _ hP hD hS (lv_sub hl [0, 1, 2, 3, 4, 5] rfl) hrk55.symm)
                      · have hrk55 := x_ifn c62 hrk55
                        refine lv_aload_n hx hb dL_cells_115 rfl (lv_at hl 0 rfl) ?_
                        refine lv_iload hx hb dL_cells_116 (lv_at hl 7 rfl) ?_
                        refine lv_bipush (v := (6 : Int32)) hx hb dL_cells_118 (by decide) ?_
                        obtain ⟨zh66, h66, hrk55⟩ := x_bind hrk55
                        obtain ⟨r63, s64, s65⟩ := zh66
                        try dsimp only at hrk55
                        refine x_goIA (ws' := (wC (q 0) (q 1) (q 4) (q 7) (q 11) (q 14) (q 22) (q 39) (q 41) ++ (wL aI (q 1) (q 2) (q 3) unow ++ (wL aI (q 4) (q 5) (q 6) udraft ++ (wS aI (q 7) (q 1) (q 8) (q 9) (q 10) s64 ++ (wPa aI (q 11) (q 7) (q 12) (q 13) s65 ++ (wPl (q 14) (q 1) (q 15) (q 18) upl ++ (wL aI (q 15) (q 16) (q 17) utr ++ (wS aI (q 18) (q 15) (q 19) (q 20) (q 21) ups ++ (wHi aL (q 22) (q 23) (q 24) (q 27) (q 30) (q 33) (q 36) uhi ++ (wL aI (q 24) (q 25) (q 26) uh0 ++ (wL aI (q 27) (q 28) (q 29) uh1 ++ (wL aI (q 30) (q 31) (q 32) uh2 ++ (wL aI (q 33) (q 34) (q 35) uh3 ++ (wL aI (q 36) (q 37) (q 38) uh4 ++ (wTx aI (q 39) (q 40) utx ++ (wRd (q 41) (q 39) urd))))))))))))))))) (va_runV (As := [.int r44, .int (6 : Int32)]) (rest := []) ⟨hx, hb, hml, hown, hts⟩ (c_X7_piece l D aI aZ aL X q _ unow udraft s32 s33 upl utr ups uhi uh0 uh1 uh2 uh3 uh4 utx urd r44 (6 : Int32) (r63, s64, s65) h66) (cwV 2 hts gL_cells_X7_piece rfl rfl rfl (by decide +kernel) ⟨Nat.le_of_ble_eq_true rfl, Nat.le_of_ble_eq_true rfl⟩) (x_preVA (x_stabX X) hK hX hP hD hS hA (q0 := 0) (ci := 7) rfl rfl rfl) rfl rfl hl.1 rfl (lv_room (Nat.le_of_ble_eq_true rfl)) dL_cells_120 ⟨Nat.le_refl 0, Nat.le_refl 0⟩) hP hD hS hA (fun H locs hP hD hS => ?_)
                        refine lv_aload_n hx hb dL_cells_123 rfl (lv_at hl 0 rfl) ?_
                        refine lv_iload hx hb dL_cells_124 (lv_at hl 6 rfl) ?_
                        refine lv_bipush (v := (6 : Int32)) hx hb dL_cells_126 (by decide) ?_
                        obtain ⟨zh70, h70, hrk55⟩ := x_bind hrk55
                        obtain ⟨r67, s68, s69⟩ := zh70
                        try dsimp only at hrk55
                        refine x_goIA (ws' := (wC (q 0) (q 1) (q 4) (q 7) (q 11) (q 14) (q 22) (q 39) (q 41) ++ (wL aI (q 1) (q 2) (q 3) unow ++ (wL aI (q 4) (q 5) (q 6) udraft ++ (wS aI (q 7) (q 1) (q 8) (q 9) (q 10) s68 ++ (wPa aI (q 11) (q 7) (q 12) (q 13) s69 ++ (wPl (q 14) (q 1) (q 15) (q 18) upl ++ (wL aI (q 15) (q 16) (q 17) utr ++ (wS aI (q 18) (q 15) (q 19) (q 20) (q 21) ups ++ (wHi aL (q 22) (q 23) (q 24) (q 27) (q 30) (q 33) (q 36) uhi ++ (wL aI (q 24) (q 25) (q 26) uh0 ++ (wL aI (q 27) (q 28) (q 29) uh1 ++ (wL aI (q 30) (q 31) (q 32) uh2 ++ (wL aI (q 33) (q 34) (q 35) uh3 ++ (wL aI (q 36) (q 37) (q 38) uh4 ++ (wTx aI (q 39) (q 40) utx ++ (wRd (q 41) (q 39) urd))))))))))))))))) (va_runV (As := [.int r42, .int (6 : Int32)]) (rest := [.int r63]) ⟨hx, hb, hml, hown, hts⟩ (c_X7_piece l D aI aZ aL X q _ unow udraft s64 s65 upl utr ups uhi uh0 uh1 uh2 uh3 uh4 utx urd r42 (6 : Int32) (r67, s68, s69) h70) (cwV 2 hts gL_cells_X7_piece rfl rfl rfl (by decide +kernel) ⟨Nat.le_of_ble_eq_true rfl, Nat.le_of_ble_eq_true rfl⟩) (x_preVA (x_stabX X) hK hX hP hD hS hA (q0 := 0) (ci := 7) rfl rfl rfl) rfl rfl hl.1 rfl (lv_room (Nat.le_of_ble_eq_true rfl)) dL_cells_128 ⟨Nat.le_refl 0, Nat.le_refl 0⟩) hP hD hS hA (fun H locs hP hD hS => ?_)
                        refine lv_icmp_ge (tgt := 152) hx hb dL_cells_131 (by decide) (fun c71 => ?_) (fun c71 => ?_)
                        · have hrk55 := x_ifp c71 hrk55
                          refine lv_iconst (v := (0 : Int32)) hx hb dL_cells_152 (by decide) ?_
                          have yk55e := x_ret hrk55; subst yk55e
                          have hbk38 := x_el hbk38
                          have zk38e := x_inr hbk38; subst zk38e
                          have yk38e := x_ret hqk38; subst yk38e
                          have hbk15 := x_el hbk15
                          have zk15e := x_inr hbk15; subst zk15e
                          have yk15e := x_ret hqk15; subst yk15e
                          have hf := x_el hf
                          have hR := x_ret hf
                          subst hR
                          exact x_zret hx hb hr hlocks hP hD hS x_zr0 dL_cells_153
                        · have hrk55 := x_ifn c71 hrk55
                          have hrk55 := x_ret hrk55
                          exact (hG _ _ _).mp (jk55 s68 s69 _ _ _ hP hD hS (lv_sub hl [0, 1, 2, 3, 4, 5] rfl) hrk55.symm)
                    rw [g_L_cells_110] at hrk52
                    refine lv_icmp_ne (tgt := 110) hx hb dL_cells_100 (by decide) (fun c72 => ?_) (fun c72 => ?_)
                    · have hrk52 := x_ifn c72 hrk52
                      have hrk52 := x_ret hrk52
                      exact (hG _ _ _).mp (jk52  _ _ _ hP hD hS (lv_sub hl [0, 1, 2, 3, 4, 5, 6, 7] rfl) hrk52.symm)
                    · have hrk52 := x_ifp c72 hrk52
                      refine lv_iload hx hb dL_cells_103 (lv_at hl 7 rfl) ?_
                      refine lv_bipush (v := (-109 : Int32)) hx hb dL_cells_105 (by decide) ?_
                      refine lv_icmp_ne (tgt := 152) hx hb dL_cells_107 (by decide) (fun c73 => ?_) (fun c73 => ?_)
                      · have hrk52 := x_ifn c73 hrk52
                        refine lv_iconst (v := (0 : Int32)) hx hb dL_cells_152 (by decide) ?_
                        have yk52e := x_ret hrk52; subst yk52e
                        have hbk38 := x_el hbk38
                        have zk38e := x_inr hbk38; subst zk38e
                        have yk38e := x_ret hqk38; subst yk38e
                        have hbk15 := x_el hbk15
                        have zk15e := x_inr hbk15; subst zk15e
                        have yk15e := x_ret hqk15; subst yk15e
                        have hf := x_el hf
                        have hR := x_ret hf
                        subst hR
                        exact x_zret hx hb hr hlocks hP hD hS x_zr0 dL_cells_153
                      · have hrk52 := x_ifp c73 hrk52
                        have hrk52 := x_ret hrk52
                        exact (hG _ _ _).mp (jk52  _ _ _ hP hD hS (lv_sub hl [0, 1, 2, 3, 4, 5, 6, 7] rfl) hrk52.symm)
                refine lv_icmp_ne (tgt := 91) hx hb dL_cells_84 (by decide) (fun c74 => ?_) (fun c74 => ?_)
                · have hrk50 := x_ifn c74 hrk50
                  refine lv_iload hx hb dL_cells_91 (lv_at hl 7 rfl) ?_
                  have hrk50 := x_ret hrk50
                  exact (hG _ _ _).mp (jk50 r42 _ _ _ hP hD hS (lv_sub hl [1, 2, 3, 0, 4, 5, 7, 8] rfl) hrk50.symm)
                · have hrk50 := x_ifp c74 hrk50
                  refine lv_iconst (v := (-1 : Int32)) hx hb dL_cells_87 (by decide) ?_
                  refine lv_goto (tgt := 93) hx hb dL_cells_88 (by decide) ?_
                  have hrk50 := x_ret hrk50
                  exact (hG _ _ _).mp (jk50 (-1 : Int32) _ _ _ hP hD hS (lv_sub hl [1, 2, 3, 0, 4, 5, 7, 8] rfl) hrk50.symm)
              refine lv_icmp_ne (tgt := 75) hx hb dL_cells_68 (by decide) (fun c75 => ?_) (fun c75 => ?_)
              · have hrk47 := x_ifn c75 hrk47
                refine lv_iconst (v := (0 : Int32)) hx hb dL_cells_75 (by decide) ?_
                have hrk47 := x_ret hrk47
                exact (hG _ _ _).mp (jk47 (0 : Int32) _ _ _ hP hD hS (lv_sub hl [3, 4, 5, 7, 8, 2, 1, 0] rfl) hrk47.symm)
              · have hrk47 := x_ifp c75 hrk47
                refine lv_iconst (v := (1 : Int32)) hx hb dL_cells_71 (by decide) ?_
                refine lv_goto (tgt := 76) hx hb dL_cells_72 (by decide) ?_
                have hrk47 := x_ret hrk47
                exact (hG _ _ _).mp (jk47 (1 : Int32) _ _ _ hP hD hS (lv_sub hl [3, 4, 5, 7, 8, 2, 1, 0] rfl) hrk47.symm)
        exact (hG _ _ _).mp (lk38 x_fuel x7 (0 : Int32) s9 s10 _ _ _ hP hD hS (lv_sub hl [1, 2, 3, 4, 5, 0] rfl) hlk38)
  exact (hG _ _ _).mp (lk15 x_fuel (0 : Int32) (0 : Int32) s5 upa _ _ _ hP hD hS (lv_sub hl [4, 3, 2, 1, 0] rfl) hlk15)
